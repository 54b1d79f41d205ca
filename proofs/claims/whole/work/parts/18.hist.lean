/-! THE HISTORY: a ring of rows -/
abbrev Sg : Type := List Ed × Nat
def hr (x : Sg) (f : Nat → Int32) (b : Nat) : Prop := x.1.length ≤ 16 ∧ (∀ y ∈ x.1, e_ok y) ∧ (∀ (i : Nat) (y : Ed), x.1[i]? = some y → pk_ok y (f (b + i))) ∧ f (b + 16) = nI x.1.length ∧ f (b + 17) = nI x.2 ∧ x.2 < 2 ^ x.1.length
def xh (hs : List Sg) (mu : Nat → Nat → Int32) : Prop := ∃ o, o < 12 ∧ hs.length ≤ 12 ∧ mu 3 1 = nI o ∧ mu 3 2 = nI hs.length ∧ ∀ (i : Nat) (x : Sg), hs[i]? = some x → hr x (mu 4) (18 * ((o + i) % 12))
/-- one more state, the oldest dropped -/
def hk (hs : List Sg) (x : Sg) : List Sg := (if hs.length = 12 then hs.tail else hs) ++ [x]
theorem cpT_in {mu : Nat → Nat → Int32} {r i : Nat} (hi : i < 16) : cpT mu r 4 (18 * r + i) = mu 2 i := by
  show upd (upd (va_cpy (mu 2) (mu 4) 0 (18 * r) 16) (18 * r + 16) (mu 1 1)) (18 * r + 17) (mu 1 2) (18 * r + i) = _
  rw [pk_un (by omega), pk_un (by omega), pk_cpy_in (by omega) (by omega)]
  congr 1
  omega
theorem cpT_out {mu : Nat → Nat → Int32} {r j : Nat} (hj : j < 18 * r ∨ 18 * r + 18 ≤ j) : cpT mu r 4 j = mu 4 j := by
  show upd (upd (va_cpy (mu 2) (mu 4) 0 (18 * r) 16) (18 * r + 16) (mu 1 1)) (18 * r + 17) (mu 1 2) j = _
  rw [pk_un (by omega), pk_un (by omega), pk_cpy_out (by omega)]
theorem hr_new {g : List Ed} {a : Nat} {mu : Nat → Nat → Int32} (hg : xg g mu) (ha : xa g a mu) (r : Nat) : hr (g, a) (cpT mu r 4) (18 * r) := by
  refine ⟨hg.1, hg.2.1, fun i y hy => ?_, ?_, ?_, ha.2⟩
  · have hi : i < g.length := (List.getElem?_eq_some_iff.mp hy).1
    rw [cpT_in (by have := hg.1; omega)]
    exact hg.2.2.2 i y hy
  · show upd (upd (va_cpy (mu 2) (mu 4) 0 (18 * r) 16) (18 * r + 16) (mu 1 1)) (18 * r + 17) (mu 1 2) (18 * r + 16) = _
    rw [pk_un (by omega), pk_us]
    exact hg.2.2.1
  · show upd (upd (va_cpy (mu 2) (mu 4) 0 (18 * r) 16) (18 * r + 16) (mu 1 1)) (18 * r + 17) (mu 1 2) (18 * r + 17) = _
    rw [pk_us]
    exact ha.1
theorem hr_old {x : Sg} {mu : Nat → Nat → Int32} {r r' : Nat} (hx : hr x (mu 4) (18 * r')) (hne : r' ≠ r) : hr x (cpT mu r 4) (18 * r') := by
  obtain ⟨h1, h2, h3, h4, h5, h6⟩ := hx
  refine ⟨h1, h2, fun i y hy => ?_, ?_, ?_, h6⟩
  · have hi : i < x.1.length := (List.getElem?_eq_some_iff.mp hy).1
    rw [cpT_out (by omega)]
    exact h3 i y hy
  · rw [cpT_out (by omega)]; exact h4
  · rw [cpT_out (by omega)]; exact h5
theorem xh_new {hs : List Sg} {g : List Ed} {a o : Nat} {mu mu' : Nat → Nat → Int32} (hg : xg g mu) (ha : xa g a mu) (ho : o < 12) (hl : hs.length < 12) (h1 : mu' 3 1 = nI o) (h2 : mu' 3 2 = nI (hs.length + 1)) (h4 : mu' 4 = cpT mu ((o + hs.length) % 12) 4) (h : ∀ (i : Nat) (x : Sg), hs[i]? = some x → hr x (mu 4) (18 * ((o + i) % 12))) : xh (hs ++ [(g, a)]) mu' := by
  refine ⟨o, ho, by simp; omega, h1, by simpa using h2, fun i x hx => ?_⟩
  rw [h4]
  by_cases hi : i < hs.length
  · rw [List.getElem?_append_left hi] at hx
    exact hr_old (h i x hx) (by omega)
  · have hl2 := (List.getElem?_eq_some_iff.mp hx).1
    simp at hl2
    have he : i = hs.length := by omega
    subst he
    rw [List.getElem?_append_right (Nat.le_refl _), Nat.sub_self] at hx
    cases hx
    exact hr_new hg ha _
theorem xh_of {hs : List Sg} {mu mu' : Nat → Nat → Int32} (h : xh hs mu) (h3 : mu' 3 = mu 3) (h4 : mu' 4 = mu 4) : xh hs mu' := by
  obtain ⟨o, q1, q2, q3, q4, q5⟩ := h
  exact ⟨o, q1, q2, by rw [h3]; exact q3, by rw [h3]; exact q4, fun i x hx => by rw [h4]; exact q5 i x hx⟩
theorem cpF_xg {x : Sg} {mu : Nat → Nat → Int32} {r : Nat} (hx : hr x (mu 4) (18 * r)) : xg x.1 (cpF mu r) ∧ xa x.1 x.2 (cpF mu r) := by
  obtain ⟨h1, h2, h3, h4, h5, h6⟩ := hx
  refine ⟨⟨h1, h2, h4, fun i y hy => ?_⟩, h5, h6⟩
  have hi : i < x.1.length := (List.getElem?_eq_some_iff.mp hy).1
  show pk_ok y (va_cpy (mu 4) (mu 2) (18 * r) 0 16 i)
  rw [pk_cpy_in (by omega) (by omega)]
  have := h3 i y hy
  simpa using this

set_option maxRecDepth 100000 in
set_option maxHeartbeats 2000000 in
theorem c_keep (d : Nat) {g : List Ed} {a : Nat} {hs : List Sg} {mu : Nat → Nat → Int32} (h : Int64) (hg : xg g mu) (ha : xa g a mu) (hh : xh hs mu) : gd_G mX4_keep (d + 2) [.ref 3, .ref 1] mu h (fun r mu' h' => r = none ∧ h' = h ∧ xh (hk hs (g, a)) mu' ∧ ∀ c, c ≠ 3 → c ≠ 4 → mu' c = mu c) := by
  refine gd_of rfl (Nat.le_of_ble_eq_true rfl) ?_
  show rn_R none mX4_keep (d + 2) 0 [some (.ref 3), some (.ref 1)] [] mu h (fun r mu' h' => r = none ∧ h' = h ∧ xh (hk hs (g, a)) mu' ∧ ∀ c, c ≠ 3 → c ≠ 4 → mu' c = mu c)
  obtain ⟨o, ho, hl, ho1, ho2, hrows⟩ := id hh
  by_cases hf : hs.length = 12
  · skip
    refine rn_aload_n 1 dX4_keep_0 rfl rfl rfl ?_
    refine rn_get 4 (.int (mu 3 2)) dX4_keep_1 fl_X4_21 rfl rfl rfl rfl ?_
    refine rn_bipush (v := 12) 6 dX4_keep_4 (by decide) rfl ?_
    refine rn_icmp_ne 32 9 dX4_keep_6 (by decide) rfl (fun c6 => absurd (by rw [ho2, hf]; rfl) c6) (fun _ => ?_)
    refine rn_aload_n 10 dX4_keep_9 rfl rfl rfl ?_
    refine rn_aload_n 11 dX4_keep_10 rfl rfl rfl ?_
    refine rn_get 14 (.int (mu 3 1)) dX4_keep_11 fl_X4_17 rfl rfl rfl rfl ?_
    refine rn_iconst (v := 1) 15 dX4_keep_14 (by decide) rfl ?_
    refine rn_iadd 16 dX4_keep_15 rfl ?_
    refine rn_bipush (v := 12) 18 dX4_keep_16 (by decide) rfl ?_
    refine rn_irem 19 dX4_keep_18 (by decide) rfl ?_
    have er : nI (o + 1) - nI (o + 1) / 12 * 12 = nI ((o + 1) % 12) := pk_rem (d := 12) (by omega) (by omega) (by omega)
    rw [show mu 3 1 + 1 = nI (o + 1) by rw [ho1, nI_1], er]
    refine rn_put 22 dX4_keep_19 fp_X4_17 rfl rfl rfl rfl rfl ?_
    refine rn_aload_n 23 dX4_keep_22 rfl rfl rfl ?_
    refine rn_dup 24 dX4_keep_23 rfl rfl ?_
    refine rn_get 27 (.int (mu 3 2)) dX4_keep_24 fl_X4_21 rfl rfl rfl rfl ?_
    refine rn_iconst (v := 1) 28 dX4_keep_27 (by decide) rfl ?_
    refine rn_isub 29 dX4_keep_28 rfl ?_
    rw [show mu 3 2 - 1 = nI 11 by rw [ho2, hf]; rfl]
    refine rn_put 32 dX4_keep_29 fp_X4_21 rfl rfl rfl rfl rfl ?_
    refine rn_aload_n 33 dX4_keep_32 rfl rfl rfl ?_
    refine rn_aload_n 34 dX4_keep_33 rfl rfl rfl ?_
    refine rn_get 37 (.ref 4) dX4_keep_34 fl_X4_11 rfl rfl rfl rfl ?_
    refine rn_aload_n 38 dX4_keep_37 rfl rfl rfl ?_
    refine rn_get 41 (.int (nI ((o + 1) % 12))) dX4_keep_38 fl_X4_17 rfl rfl rfl rfl ?_
    refine rn_aload_n 42 dX4_keep_41 rfl rfl rfl ?_
    refine rn_get 45 (.int (nI 11)) dX4_keep_42 fl_X4_21 rfl rfl rfl rfl ?_
    refine rn_iadd 46 dX4_keep_45 rfl ?_
    have er2 : nI ((o + 1) % 12 + 11) - nI ((o + 1) % 12 + 11) / 12 * 12 = nI (((o + 1) % 12 + 11) % 12) := pk_rem (d := 12) (by omega) (by omega) (by omega)
    refine rn_bipush (v := 12) 48 dX4_keep_46 (by decide) rfl ?_
    refine rn_irem 49 dX4_keep_48 (by decide) rfl ?_
    rw [show nI ((o + 1) % 12) + nI 11 = nI ((o + 1) % 12 + 11) by exact nI_add _ _, er2]
    refine rn_bipush (v := 18) 51 dX4_keep_49 (by decide) rfl ?_
    refine rn_imul 52 dX4_keep_51 rfl ?_
    rw [show nI (((o + 1) % 12 + 11) % 12) * 18 = nI (18 * (((o + 1) % 12 + 11) % 12)) by rw [show (18 : Int32) = nI 18 from rfl, pk_mul, Nat.mul_comm]]
    refine rn_cvm mX2_copyTo [.ref 4, .int (nI (18 * (((o + 1) % 12 + 11) % 12)))] [] 55 (none) (cpT (mu_s (mu_s mu 3 1 (nI ((o + 1) % 12))) 3 2 (nI 11)) (((o + 1) % 12 + 11) % 12)) dX4_keep_52 cv_X4_24 rfl rfl rfl (by simp [Value.category]) rfl (c_copyTo d (mu_s (mu_s mu 3 1 (nI ((o + 1) % 12))) 3 2 (nI 11)) h (Nat.mod_lt _ (by omega))) ?_
    refine rn_aload_n 56 dX4_keep_55 rfl rfl rfl ?_
    refine rn_dup 57 dX4_keep_56 rfl rfl ?_
    refine rn_get 60 (.int (nI 11)) dX4_keep_57 fl_X4_21 rfl rfl rfl rfl ?_
    refine rn_iconst (v := 1) 61 dX4_keep_60 (by decide) rfl ?_
    refine rn_iadd 62 dX4_keep_61 rfl ?_
    rw [show nI 11 + 1 = nI 12 by rfl]
    refine rn_put 65 dX4_keep_62 fp_X4_21 rfl rfl rfl rfl rfl ?_
    exact rn_vret rfl dX4_keep_65 (⟨rfl, rfl, by unfold hk; rw [if_pos hf]; exact xh_new (mu := mu) (o := (o + 1) % 12) hg ha (Nat.mod_lt _ (by omega)) (by rw [List.length_tail]; omega) rfl (by rw [List.length_tail, hf]; rfl) (by rw [List.length_tail, hf]; rfl) (fun i x hx => by rw [List.getElem?_tail] at hx; have := hrows (i + 1) x hx; rwa [show (o + (i + 1)) % 12 = ((o + 1) % 12 + i) % 12 by omega] at this), fun c c3 c4 => by simp [mu_s, cpT, mu_r, c3, c4]⟩)
  · skip
    refine rn_aload_n 1 dX4_keep_0 rfl rfl rfl ?_
    refine rn_get 4 (.int (mu 3 2)) dX4_keep_1 fl_X4_21 rfl rfl rfl rfl ?_
    refine rn_bipush (v := 12) 6 dX4_keep_4 (by decide) rfl ?_
    refine rn_icmp_ne 32 9 dX4_keep_6 (by decide) rfl (fun _ => ?_) (fun c6 => absurd c6 (by rw [ho2]; exact fun q => hf ((nI_eq (b := 12) (by omega) (by omega)).mp q)))
    refine rn_aload_n 33 dX4_keep_32 rfl rfl rfl ?_
    refine rn_aload_n 34 dX4_keep_33 rfl rfl rfl ?_
    refine rn_get 37 (.ref 4) dX4_keep_34 fl_X4_11 rfl rfl rfl rfl ?_
    refine rn_aload_n 38 dX4_keep_37 rfl rfl rfl ?_
    refine rn_get 41 (.int (mu 3 1)) dX4_keep_38 fl_X4_17 rfl rfl rfl rfl ?_
    refine rn_aload_n 42 dX4_keep_41 rfl rfl rfl ?_
    refine rn_get 45 (.int (mu 3 2)) dX4_keep_42 fl_X4_21 rfl rfl rfl rfl ?_
    refine rn_iadd 46 dX4_keep_45 rfl ?_
    have er2 : nI (o + hs.length) - nI (o + hs.length) / 12 * 12 = nI ((o + hs.length) % 12) := pk_rem (d := 12) (by omega) (by omega) (by omega)
    refine rn_bipush (v := 12) 48 dX4_keep_46 (by decide) rfl ?_
    refine rn_irem 49 dX4_keep_48 (by decide) rfl ?_
    rw [show mu 3 1 + mu 3 2 = nI (o + hs.length) by rw [ho1, ho2, nI_add], er2]
    refine rn_bipush (v := 18) 51 dX4_keep_49 (by decide) rfl ?_
    refine rn_imul 52 dX4_keep_51 rfl ?_
    rw [show nI ((o + hs.length) % 12) * 18 = nI (18 * ((o + hs.length) % 12)) by rw [show (18 : Int32) = nI 18 from rfl, pk_mul, Nat.mul_comm]]
    refine rn_cvm mX2_copyTo [.ref 4, .int (nI (18 * ((o + hs.length) % 12)))] [] 55 (none) (cpT mu ((o + hs.length) % 12)) dX4_keep_52 cv_X4_24 rfl rfl rfl (by simp [Value.category]) rfl (c_copyTo d mu h (Nat.mod_lt _ (by omega))) ?_
    refine rn_aload_n 56 dX4_keep_55 rfl rfl rfl ?_
    refine rn_dup 57 dX4_keep_56 rfl rfl ?_
    refine rn_get 60 (.int (mu 3 2)) dX4_keep_57 fl_X4_21 rfl rfl rfl rfl ?_
    refine rn_iconst (v := 1) 61 dX4_keep_60 (by decide) rfl ?_
    refine rn_iadd 62 dX4_keep_61 rfl ?_
    rw [show mu 3 2 + 1 = nI (hs.length + 1) by rw [ho2, nI_1]]
    refine rn_put 65 dX4_keep_62 fp_X4_21 rfl rfl rfl rfl rfl ?_
    exact rn_vret rfl dX4_keep_65 (⟨rfl, rfl, by unfold hk; rw [if_neg hf]; exact xh_new (mu := mu) (o := o) hg ha ho (by omega) ho1 rfl rfl hrows, fun c c3 c4 => by simp [mu_s, cpT, mu_r, c3, c4]⟩)

set_option maxRecDepth 100000 in
set_option maxHeartbeats 2000000 in
theorem c_bringBack_0 (d : Nat) {mu : Nat → Nat → Int32} (h : Int64) (hh : xh [] mu) : gd_G mX4_bringBack d [.ref 3, .ref 1] mu h (pq (some (.int 0)) mu h) := by
  refine gd_of rfl (Nat.le_of_ble_eq_true rfl) ?_
  show rn_R none mX4_bringBack d 0 [some (.ref 3), some (.ref 1)] [] mu h (pq (some (.int 0)) mu h)
  obtain ⟨o, ho, hl, ho1, ho2, hrows⟩ := id hh
  refine rn_aload_n 1 dX4_bringBack_0 rfl rfl rfl ?_
  refine rn_get 4 (.int (mu 3 2)) dX4_bringBack_1 fl_X4_21 rfl rfl rfl rfl ?_
  refine rn_if_ne 9 7 dX4_bringBack_4 (by decide) rfl (fun c4 => absurd (by rw [ho2]; rfl) c4) (fun _ => ?_)
  refine rn_iconst (v := 0) 8 dX4_bringBack_7 (by decide) rfl ?_
  exact rn_zret rfl dX4_bringBack_8 rfl (⟨rfl, rfl, rfl⟩)

set_option maxRecDepth 100000 in
set_option maxHeartbeats 2000000 in
theorem c_bringBack_1 (d : Nat) {hs : List Sg} {x : Sg} {mu : Nat → Nat → Int32} (h : Int64) (hh : xh (hs ++ [x]) mu) : gd_G mX4_bringBack (d + 2) [.ref 3, .ref 1] mu h (fun r mu' h' => r = some (.int 1) ∧ h' = h ∧ xh hs mu' ∧ xg x.1 mu' ∧ xa x.1 x.2 mu' ∧ ∀ c, c ≠ 1 → c ≠ 2 → c ≠ 3 → mu' c = mu c) := by
  refine gd_of rfl (Nat.le_of_ble_eq_true rfl) ?_
  show rn_R none mX4_bringBack (d + 2) 0 [some (.ref 3), some (.ref 1)] [] mu h (fun r mu' h' => r = some (.int 1) ∧ h' = h ∧ xh hs mu' ∧ xg x.1 mu' ∧ xa x.1 x.2 mu' ∧ ∀ c, c ≠ 1 → c ≠ 2 → c ≠ 3 → mu' c = mu c)
  obtain ⟨o, ho, hl, ho1, ho2, hrows⟩ := id hh
  simp only [List.length_append, List.length_cons, List.length_nil] at hl ho2
  have hx := hrows hs.length x (by simp)
  refine rn_aload_n 1 dX4_bringBack_0 rfl rfl rfl ?_
  refine rn_get 4 (.int (mu 3 2)) dX4_bringBack_1 fl_X4_21 rfl rfl rfl rfl ?_
  refine rn_if_ne 9 7 dX4_bringBack_4 (by decide) rfl (fun _ => ?_) (fun c4 => absurd c4 (by rw [ho2]; exact fun q => absurd ((nI_eq (b := 0) (by omega) (by omega)).mp q) (by omega)))
  refine rn_aload_n 10 dX4_bringBack_9 rfl rfl rfl ?_
  refine rn_dup 11 dX4_bringBack_10 rfl rfl ?_
  refine rn_get 14 (.int (mu 3 2)) dX4_bringBack_11 fl_X4_21 rfl rfl rfl rfl ?_
  refine rn_iconst (v := 1) 15 dX4_bringBack_14 (by decide) rfl ?_
  refine rn_isub 16 dX4_bringBack_15 rfl ?_
  rw [show mu 3 2 - 1 = nI hs.length by rw [ho2]; exact nI_pred _]
  refine rn_put 19 dX4_bringBack_16 fp_X4_21 rfl rfl rfl rfl rfl ?_
  refine rn_aload_n 20 dX4_bringBack_19 rfl rfl rfl ?_
  refine rn_aload_n 21 dX4_bringBack_20 rfl rfl rfl ?_
  refine rn_get 24 (.ref 4) dX4_bringBack_21 fl_X4_11 rfl rfl rfl rfl ?_
  refine rn_aload_n 25 dX4_bringBack_24 rfl rfl rfl ?_
  refine rn_get 28 (.int (mu 3 1)) dX4_bringBack_25 fl_X4_17 rfl rfl rfl rfl ?_
  refine rn_aload_n 29 dX4_bringBack_28 rfl rfl rfl ?_
  refine rn_get 32 (.int (nI hs.length)) dX4_bringBack_29 fl_X4_21 rfl rfl rfl rfl ?_
  refine rn_iadd 33 dX4_bringBack_32 rfl ?_
  have er2 : nI (o + hs.length) - nI (o + hs.length) / 12 * 12 = nI ((o + hs.length) % 12) := pk_rem (d := 12) (by omega) (by omega) (by omega)
  refine rn_bipush (v := 12) 35 dX4_bringBack_33 (by decide) rfl ?_
  refine rn_irem 36 dX4_bringBack_35 (by decide) rfl ?_
  rw [show mu 3 1 + nI hs.length = nI (o + hs.length) by rw [ho1, nI_add], er2]
  refine rn_bipush (v := 18) 38 dX4_bringBack_36 (by decide) rfl ?_
  refine rn_imul 39 dX4_bringBack_38 rfl ?_
  rw [show nI ((o + hs.length) % 12) * 18 = nI (18 * ((o + hs.length) % 12)) by rw [show (18 : Int32) = nI 18 from rfl, pk_mul, Nat.mul_comm]]
  refine rn_cvm mX2_copyFrom [.ref 4, .int (nI (18 * ((o + hs.length) % 12)))] [] 42 (none) (cpF (mu_s mu 3 2 (nI hs.length)) ((o + hs.length) % 12)) dX4_bringBack_39 cv_X4_28 rfl rfl rfl (by simp [Value.category]) rfl (c_copyFrom d (mu_s mu 3 2 (nI hs.length)) h (Nat.mod_lt _ (by omega))) ?_
  refine rn_iconst (v := 1) 43 dX4_bringBack_42 (by decide) rfl ?_
  exact rn_zret rfl dX4_bringBack_43 rfl (⟨rfl, rfl, ⟨o, ho, by omega, ho1, rfl, fun i z hz => hrows i z (by rw [List.getElem?_append_left (List.getElem?_eq_some_iff.mp hz).1]; exact hz)⟩, (cpF_xg (mu := mu_s mu 3 2 (nI hs.length)) hx).1, (cpF_xg (mu := mu_s mu 3 2 (nI hs.length)) hx).2, fun c c1 c2 c3 => by simp [mu_s, cpF, mu_r, c1, c2, c3]⟩)
