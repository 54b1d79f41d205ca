/-! THE REFERENCE: its history, its state -/
def mr (x : Sg) (f : Nat → Int32) (b : Nat) : Prop := x.1.length ≤ 16 ∧ (∀ y ∈ x.1, e_ok y) ∧ (∀ (i : Nat) (y : Ed), x.1[i]? = some y → f (b + 5 * i) = nI y.1 ∧ f (b + (5 * i + 1)) = nI y.2.1 ∧ f (b + (5 * i + 2)) = nI y.2.2.1 ∧ f (b + (5 * i + 3)) = nI y.2.2.2.1 ∧ f (b + (5 * i + 4)) = nI y.2.2.2.2) ∧ f (b + 80) = nI x.1.length ∧ f (b + 81) = nI x.2 ∧ x.2 < 2 ^ x.1.length
def mh (hs : List Sg) (mu : Nat → Nat → Int32) : Prop := hs.length ≤ 12 ∧ mu 22 2 = nI hs.length ∧ ∀ (i : Nat) (x : Sg), hs[i]? = some x → mr x (mu 24) (82 * i)
def mt (tx : List Nat) (mu : Nat → Nat → Int32) : Prop := tx.length ≤ 110 ∧ mu 22 5 = nI tx.length ∧ (∀ b ∈ tx, b < 128) ∧ ∀ (i b : Nat), tx[i]? = some b → mu 25 i = nI b
def mS (s : Sx) (mu : Nat → Nat → Int32) : Prop := mg s.1 mu ∧ ma s.1 s.2.1 mu ∧ mh s.2.2.1 mu ∧ mt s.2.2.2.1 mu ∧ mu 22 3 = s.2.2.2.2
def MC (y : ym_T) (d : Nat) (av : List Value) (s s' : Sx) (ans : Value) : Prop := ∀ (mu : Nat → Nat → Int32) (h : Int64), mS s mu → gd_G y d (.ref 22 :: av) mu h (fun r mu' _ => r = some ans ∧ mS s' mu' ∧ ∀ c, c < 22 → mu' c = mu c)
theorem mr_of {g : List Ed} {a : Nat} {mu : Nat → Nat → Int32} (hg : mg g mu) (ha : ma g a mu) : mr (g, a) (mu 23) 0 := by
  refine ⟨hg.1, hg.2.1, fun i y hy => ?_, by simpa using hg.2.2.1, by simpa using ha.1, ha.2⟩
  have := hg.2.2.2 i y hy
  simpa using this
theorem mr_to {x : Sg} {mu : Nat → Nat → Int32} (h : mr x (mu 23) 0) : mg x.1 mu ∧ ma x.1 x.2 mu := by
  obtain ⟨h1, h2, h3, h4, h5, h6⟩ := h
  simp only [Nat.zero_add] at h3 h4 h5
  exact ⟨⟨h1, h2, h4, h3⟩, h5, h6⟩
theorem mr_move {x : Sg} {f f' : Nat → Int32} {b b' : Nat} (h : mr x f b) (hf : ∀ j, j < 82 → f' (b' + j) = f (b + j)) : mr x f' b' := by
  obtain ⟨h1, h2, h3, h4, h5, h6⟩ := h
  refine ⟨h1, h2, fun i y hy => ?_, by rw [hf 80 (by omega)]; exact h4, by rw [hf 81 (by omega)]; exact h5, h6⟩
  have hi : i < x.1.length := (List.getElem?_eq_some_iff.mp hy).1
  have q := h3 i y hy
  rw [hf (5 * i) (by omega), hf (5 * i + 1) (by omega), hf (5 * i + 2) (by omega), hf (5 * i + 3) (by omega), hf (5 * i + 4) (by omega)]
  exact q
theorem mt_of {tx : List Nat} {mu mu' : Nat → Nat → Int32} (h : mt tx mu) (h5 : mu' 22 5 = mu 22 5) (h6 : mu' 25 = mu 25) : mt tx mu' := ⟨h.1, by rw [h5]; exact h.2.1, h.2.2.1, fun i b hb => by rw [h6]; exact h.2.2.2 i b hb⟩
theorem mh_of {hs : List Sg} {mu mu' : Nat → Nat → Int32} (h : mh hs mu) (h2 : mu' 22 2 = mu 22 2) (h4 : mu' 24 = mu 24) : mh hs mu' := ⟨h.1, by rw [h2]; exact h.2.1, fun i x hx => by rw [h4]; exact h.2.2 i x hx⟩
/-- behind keeps -/
def shf (f : Nat → Int32) (k : Nat) : Nat → Int32 := fun j => if j < k then f (j + 82) else f j
theorem shf_0 (f : Nat → Int32) : shf f 0 = f := by funext j; simp [shf]
theorem shf_1 (f : Nat → Int32) (k : Nat) : upd (shf f k) k (f (k + 82)) = shf f (k + 1) := by
  funext j
  unfold upd shf
  by_cases hj : j = k
  · subst hj; rw [if_pos rfl, if_pos (by omega)]
  · rw [if_neg hj]
    by_cases h2 : j < k
    · rw [if_pos h2, if_pos (by omega)]
    · rw [if_neg h2, if_neg (by omega)]
/-- n places of m, from p on, laid into f at b -/
def cpm (m f : Nat → Int32) (p b k : Nat) : Nat → Int32 := fun j => if b ≤ j ∧ j < b + k then m (p + (j - b)) else f j
theorem cpm_0 (m f : Nat → Int32) (p b : Nat) : cpm m f p b 0 = f := by
  funext j
  unfold cpm
  rw [if_neg (by omega)]
theorem cpm_1 (m f : Nat → Int32) (p b k : Nat) : upd (cpm m f p b k) (b + k) (m (p + k)) = cpm m f p b (k + 1) := by
  funext j
  unfold upd cpm
  by_cases hj : j = b + k
  · subst hj
    rw [if_pos rfl, if_pos (by omega)]
    congr 1
    omega
  · rw [if_neg hj]
    by_cases h2 : b ≤ j ∧ j < b + k
    · rw [if_pos h2, if_pos (by omega)]
    · rw [if_neg h2, if_neg (by omega)]
theorem mh_new {hs : List Sg} {g : List Ed} {a : Nat} {mu mu' : Nat → Nat → Int32} {f : Nat → Int32} (hg : mg g mu) (ha : ma g a mu) (hl : hs.length < 12) (h2 : mu' 22 2 = nI (hs.length + 1)) (h4 : mu' 24 = cpm (mu 23) f 0 (82 * hs.length) 82) (h : ∀ (i : Nat) (x : Sg), hs[i]? = some x → mr x f (82 * i)) : mh (hs ++ [(g, a)]) mu' := by
  refine ⟨by simp; omega, by simpa using h2, fun i x hx => ?_⟩
  rw [h4]
  by_cases hi : i < hs.length
  · rw [List.getElem?_append_left hi] at hx
    exact mr_move (h i x hx) (fun j hj => by unfold cpm; rw [if_neg (by omega)])
  · have hl2 := (List.getElem?_eq_some_iff.mp hx).1
    simp at hl2
    have he : i = hs.length := by omega
    subst he
    rw [List.getElem?_append_right (Nat.le_refl _), Nat.sub_self] at hx
    cases hx
    exact mr_move (mr_of hg ha) (fun j hj => by unfold cpm; rw [if_pos (by omega)]; congr 1; omega)

set_option maxRecDepth 100000 in
set_option maxHeartbeats 2000000 in
theorem lp_keeps1 (d : Nat) (mu : Nat → Nat → Int32) (h : Int64) {Q : rn_Q} (kk : rn_R none mX9_keeps d 39 [some (.ref 22), none] [] (mu_r mu 24 (shf (mu 24) 902)) h Q) : ∀ (k e : Nat), e + k = 902 → rn_R none mX9_keeps d 11 [some (.ref 22), some (.int (nI e))] [] (mu_r mu 24 (shf (mu 24) e)) h Q := by
  intro k
  induction k with
  | zero =>
    intro e hek
    refine rn_iload_n 12 dX9_keeps_11 rfl rfl rfl ?_
    refine rn_sipush (v := 902) 15 dX9_keeps_12 (by decide) rfl ?_
    refine rn_icmp_ge 39 18 dX9_keeps_15 (by decide) rfl (fun _ => ?_) (fun c15 => absurd (nI_le (a := 902) (by omega) (by omega)) c15)
    rw [show e = 902 by omega]
    refine rn_drop 1 [some (.ref 22), none] rfl ?_
    exact kk
  | succ k ih =>
    intro e hek
    refine rn_iload_n 12 dX9_keeps_11 rfl rfl rfl ?_
    refine rn_sipush (v := 902) 15 dX9_keeps_12 (by decide) rfl ?_
    refine rn_icmp_ge 39 18 dX9_keeps_15 (by decide) rfl (fun c15 => absurd c15 (nI_ge (b := 902) (by omega) (by omega))) (fun _ => ?_)
    refine rn_aload_n 19 dX9_keeps_18 rfl rfl rfl ?_
    refine rn_get 22 (.ref 24) dX9_keeps_19 fl_X9_13 rfl rfl rfl rfl ?_
    refine rn_iload_n 23 dX9_keeps_22 rfl rfl rfl ?_
    refine rn_aload_n 24 dX9_keeps_23 rfl rfl rfl ?_
    refine rn_get 27 (.ref 24) dX9_keeps_24 fl_X9_13 rfl rfl rfl rfl ?_
    refine rn_iload_n 28 dX9_keeps_27 rfl rfl rfl ?_
    refine rn_bipush (v := 82) 30 dX9_keeps_28 (by decide) rfl ?_
    refine rn_iadd 31 dX9_keeps_30 rfl ?_
    rw [show nI e + 82 = nI (e + 82) from nI_add e 82]
    refine rn_iald 32 (mu 24 (e + 82)) dX9_keeps_31 rfl (vp_in_nI (by omega) (by omega)) (by rw [nI_clamp (by omega)]; show shf (mu 24) e (e + 82) = _; unfold shf; rw [if_neg (by omega)]) rfl ?_
    refine rn_iast 33 dX9_keeps_32 rfl (vp_in_nI (by omega) (by omega)) rfl ?_
    rw [nI_clamp (by omega), mu_rs, shf_1]
    refine rn_iinc (v := (nI (e + 1))) 36 [some (.ref 22), some (.int (nI (e + 1)))] dX9_keeps_33 rfl (nI_1 _) rfl rfl ?_
    refine rn_goto 11 dX9_keeps_36 (by decide) ?_
    exact ih (e + 1) (by omega)

set_option maxRecDepth 100000 in
set_option maxHeartbeats 2000000 in
theorem lp_keeps2 (d : Nat) {mu : Nat → Nat → Int32} (h : Int64) {u : Nat} (hu : u < 12) (hm : mu 22 2 = nI u) : ∀ (k e : Nat), e + k = 82 → rn_R none mX9_keeps d 51 [some (.ref 22), some (.int (nI e))] [] (mu_r mu 24 (cpm (mu 23) (mu 24) 0 (82 * u) e)) h (pq none (mu_s (mu_r mu 24 (cpm (mu 23) (mu 24) 0 (82 * u) 82)) 22 2 (nI (u + 1))) h) := by
  intro k
  induction k with
  | zero =>
    intro e hek
    refine rn_iload_n 52 dX9_keeps_51 rfl rfl rfl ?_
    refine rn_bipush (v := 82) 54 dX9_keeps_52 (by decide) rfl ?_
    refine rn_icmp_ge 83 57 dX9_keeps_54 (by decide) rfl (fun _ => ?_) (fun c54 => absurd (nI_le (a := 82) (by omega) (by omega)) c54)
    refine rn_aload_n 84 dX9_keeps_83 rfl rfl rfl ?_
    refine rn_dup 85 dX9_keeps_84 rfl rfl ?_
    refine rn_get 88 (.int (mu 22 2)) dX9_keeps_85 fl_X9_50 rfl rfl rfl rfl ?_
    refine rn_iconst (v := 1) 89 dX9_keeps_88 (by decide) rfl ?_
    refine rn_iadd 90 dX9_keeps_89 rfl ?_
    rw [show mu 22 2 + 1 = nI (u + 1) by rw [hm, nI_1]]
    refine rn_put 93 dX9_keeps_90 fp_X9_50 rfl rfl rfl rfl rfl ?_
    exact rn_vret rfl dX9_keeps_93 (⟨rfl, by rw [show e = 82 by omega], rfl⟩)
  | succ k ih =>
    intro e hek
    refine rn_iload_n 52 dX9_keeps_51 rfl rfl rfl ?_
    refine rn_bipush (v := 82) 54 dX9_keeps_52 (by decide) rfl ?_
    refine rn_icmp_ge 83 57 dX9_keeps_54 (by decide) rfl (fun c54 => absurd c54 (nI_ge (b := 82) (by omega) (by omega))) (fun _ => ?_)
    refine rn_aload_n 58 dX9_keeps_57 rfl rfl rfl ?_
    refine rn_get 61 (.ref 24) dX9_keeps_58 fl_X9_13 rfl rfl rfl rfl ?_
    refine rn_bipush (v := 82) 63 dX9_keeps_61 (by decide) rfl ?_
    refine rn_aload_n 64 dX9_keeps_63 rfl rfl rfl ?_
    refine rn_get 67 (.int (mu 22 2)) dX9_keeps_64 fl_X9_50 rfl rfl rfl rfl ?_
    refine rn_imul 68 dX9_keeps_67 rfl ?_
    refine rn_iload_n 69 dX9_keeps_68 rfl rfl rfl ?_
    refine rn_iadd 70 dX9_keeps_69 rfl ?_
    refine rn_aload_n 71 dX9_keeps_70 rfl rfl rfl ?_
    refine rn_get 74 (.ref 23) dX9_keeps_71 fl_X9_7 rfl rfl rfl rfl ?_
    refine rn_iload_n 75 dX9_keeps_74 rfl rfl rfl ?_
    refine rn_iald 76 (mu 23 e) dX9_keeps_75 rfl (vp_in_nI (by omega) (by omega)) (congrArg (mu 23) (nI_clamp (by omega))) rfl ?_
    rw [show 82 * mu 22 2 + nI e = nI (82 * u + e) by rw [hm, show (82 : Int32) = nI 82 from rfl, pk_mul, nI_add]]
    refine rn_iast 77 dX9_keeps_76 rfl (vp_in_nI (by omega) (by omega)) rfl ?_
    rw [nI_clamp (by omega), mu_rs]
    have ec := cpm_1 (mu 23) (mu 24) 0 (82 * u) e
    rw [Nat.zero_add] at ec
    rw [ec]
    refine rn_iinc (v := (nI (e + 1))) 80 [some (.ref 22), some (.int (nI (e + 1)))] dX9_keeps_77 rfl (nI_1 _) rfl rfl ?_
    refine rn_goto 51 dX9_keeps_80 (by decide) ?_
    exact ih (e + 1) (by omega)

theorem rn_mono {X : Option (Nat × (Nat → Int32))} {y : ym_T} {d pc : Nat} {L : List (Option Value)} {S : List Value} {mu : Nat → Nat → Int32} {h : Int64} {Q Q' : rn_Q} (k : rn_R X y d pc L S mu h Q) (hQ : ∀ r m2 h2, Q r m2 h2 → Q' r m2 h2) : rn_R X y d pc L S mu h Q' := by
  intro p l e R s m args below meth c cells slots dC dI ad ca A Qt E F
  exact k p l e R s m args below meth c cells slots dC dI ad ca A Qt E (fun r m2 h2 H2 locs2 pc2 ls2 q => F r m2 h2 H2 locs2 pc2 ls2 (hQ r m2 h2 q))

set_option maxRecDepth 100000 in
set_option maxHeartbeats 2000000 in
theorem c_keeps (d : Nat) {g : List Ed} {a : Nat} {hs : List Sg} {mu : Nat → Nat → Int32} (h : Int64) (hg : mg g mu) (ha : ma g a mu) (hh : mh hs mu) : gd_G mX9_keeps d [.ref 22] mu h (fun r mu' _ => r = none ∧ mh (hk hs (g, a)) mu' ∧ (∀ c, c ≠ 22 → c ≠ 24 → mu' c = mu c) ∧ ∀ j, j ≠ 2 → mu' 22 j = mu 22 j) := by
  refine gd_of rfl (Nat.le_of_ble_eq_true rfl) ?_
  show rn_R none mX9_keeps d 0 [some (.ref 22), none] [] mu h (fun r mu' _ => r = none ∧ mh (hk hs (g, a)) mu' ∧ (∀ c, c ≠ 22 → c ≠ 24 → mu' c = mu c) ∧ ∀ j, j ≠ 2 → mu' 22 j = mu 22 j)
  obtain ⟨hl, hu, hrows⟩ := id hh
  by_cases hf : hs.length = 12
  · skip
    refine rn_aload_n 1 dX9_keeps_0 rfl rfl rfl ?_
    refine rn_get 4 (.int (mu 22 2)) dX9_keeps_1 fl_X9_50 rfl rfl rfl rfl ?_
    refine rn_bipush (v := 12) 6 dX9_keeps_4 (by decide) rfl ?_
    refine rn_icmp_ne 49 9 dX9_keeps_6 (by decide) rfl (fun c6 => absurd (by rw [hu, hf]; rfl) c6) (fun _ => ?_)
    refine rn_iconst (v := 0) 10 dX9_keeps_9 (by decide) rfl ?_
    refine rn_istore_n 11 [some (.ref 22), some (.int 0)] dX9_keeps_10 rfl rfl (Nat.le_of_ble_eq_true rfl) rfl ?_
    have z := lp_keeps1 d mu h (Q := fun r mu' _ => r = none ∧ mh (hk hs (g, a)) mu' ∧ (∀ c, c ≠ 22 → c ≠ 24 → mu' c = mu c) ∧ ∀ j, j ≠ 2 → mu' 22 j = mu 22 j) ?_ 902 0 (by omega)
    · rw [shf_0, mu_r_id] at z; exact z
    refine rn_aload_n 40 dX9_keeps_39 rfl rfl rfl ?_
    refine rn_dup 41 dX9_keeps_40 rfl rfl ?_
    refine rn_get 44 (.int (mu 22 2)) dX9_keeps_41 fl_X9_50 rfl rfl rfl rfl ?_
    refine rn_iconst (v := 1) 45 dX9_keeps_44 (by decide) rfl ?_
    refine rn_isub 46 dX9_keeps_45 rfl ?_
    rw [show mu 22 2 - 1 = nI 11 by rw [hu, hf]; rfl]
    refine rn_put 49 dX9_keeps_46 fp_X9_50 rfl rfl rfl rfl rfl ?_
    refine rn_iconst (v := 0) 50 dX9_keeps_49 (by decide) rfl ?_
    refine rn_istore_n 51 [some (.ref 22), some (.int 0)] dX9_keeps_50 rfl rfl (Nat.le_of_ble_eq_true rfl) rfl ?_
    have z := lp_keeps2 d (mu := mu_s (mu_r mu 24 (shf (mu 24) 902)) 22 2 (nI 11)) h (u := 11) (by omega) rfl 82 0 (by omega)
    rw [cpm_0, mu_r_id] at z
    refine rn_mono z ?_
    rintro r m2 h2 ⟨rfl, rfl, rfl⟩
    refine ⟨rfl, ?_, fun c c1 c2 => by simp [mu_s, mu_r, c1, c2], fun j hj => by simp [mu_s, mu_r, upd, hj]⟩
    unfold hk; rw [if_pos hf]
    refine mh_new (f := shf (mu 24) 902) hg ha (by rw [List.length_tail]; omega) (by rw [List.length_tail, hf]; rfl) (by rw [List.length_tail, hf]; rfl) (fun i x hx => ?_)
    rw [List.getElem?_tail] at hx
    have hi : i + 1 < hs.length := (List.getElem?_eq_some_iff.mp hx).1
    exact mr_move (hrows (i + 1) x hx) (fun j hj => by unfold shf; rw [if_pos (by omega)]; congr 1; omega)
  · skip
    refine rn_aload_n 1 dX9_keeps_0 rfl rfl rfl ?_
    refine rn_get 4 (.int (mu 22 2)) dX9_keeps_1 fl_X9_50 rfl rfl rfl rfl ?_
    refine rn_bipush (v := 12) 6 dX9_keeps_4 (by decide) rfl ?_
    refine rn_icmp_ne 49 9 dX9_keeps_6 (by decide) rfl (fun _ => ?_) (fun c6 => absurd c6 (by rw [hu]; exact fun q => hf ((nI_eq (b := 12) (by omega) (by omega)).mp q)))
    refine rn_iconst (v := 0) 50 dX9_keeps_49 (by decide) rfl ?_
    refine rn_istore_n 51 [some (.ref 22), some (.int 0)] dX9_keeps_50 rfl rfl (Nat.le_of_ble_eq_true rfl) rfl ?_
    have z := lp_keeps2 d h (u := hs.length) (by omega) hu 82 0 (by omega)
    rw [cpm_0, mu_r_id] at z
    refine rn_mono z ?_
    rintro r m2 h2 ⟨rfl, rfl, rfl⟩
    refine ⟨rfl, ?_, fun c c1 c2 => by simp [mu_s, mu_r, c1, c2], fun j hj => by simp [mu_s, mu_r, upd, hj]⟩
    unfold hk; rw [if_neg hf]
    exact mh_new (f := mu 24) hg ha (by omega) rfl rfl hrows
