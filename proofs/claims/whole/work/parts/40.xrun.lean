/-! DISTANCES: a run of the class's Router -/
theorem eW_le {g : List Ed} (h : ∀ x ∈ g, e_ok x) (S : Nat) {e : Nat} (he : e < g.length) : eW g S e ≤ 9999 := by
  have := e_at h he
  unfold eW
  split
  · split <;> omega
  · omega
theorem LW_of {g : List Ed} {W : Nat → Nat} {mu mu' : Nat → Nat → Int32} (h : LW g W mu) (h9 : mu' 9 = mu 9) : LW g W mu' := fun e he => by rw [h9]; exact h e he
theorem RD_of {D U : Nat → Nat} {mu mu' : Nat → Nat → Int32} (h : RD D U mu) (h1 : mu' 10 = mu 10) (h2 : mu' 11 = mu 11) : RD D U mu' := fun v hv => by rw [h1, h2]; exact h v hv

set_option maxRecDepth 100000 in
set_option maxHeartbeats 2000000 in
theorem lp_run (d : Nat) {g : List Ed} {S s rep : Nat} (hS : S < 2 ^ 31) (hS0 : ¬ S = 0) (hrep : rep ≤ 3) (mu0 : Nat → Nat → Int32) : ∀ (k i : Nat) (mu : Nat → Nat → Int32) (h : Int64), i + k = rep → xg g mu → LW g (eW g S) mu → RD (rlay g S s i).1 (rlay g S s i).2 mu → (∀ c, (c < 9 ∨ 13 < c) → mu c = mu0 c) → rn_R none mX5_run (d + 1) 55 [some (.ref 8), some (.int (nI s)), some (.int (nI S)), some (.int (nI rep)), some (.int (nI i))] [] mu h (fun r mu' _ => r = none ∧ RD (rlay g S s (if S = 0 then 0 else rep)).1 (rlay g S s (if S = 0 then 0 else rep)).2 mu' ∧ LW g (eW g S) mu' ∧ ∀ c, (c < 9 ∨ 13 < c) → mu' c = mu0 c) := by
  intro k
  induction k with
  | zero =>
    intro i mu h hik hg hL hR hfr
    refine rn_iload 57 dX5_run_55 rfl rfl ?_
    refine rn_iload_n 58 dX5_run_57 rfl rfl rfl ?_
    refine rn_icmp_ge 80 61 dX5_run_58 (by decide) rfl (fun _ => ?_) (fun c58 => absurd (nI_le (by omega) (by omega)) c58)
    exact rn_vret rfl dX5_run_80 (⟨rfl, by rw [if_neg hS0, ← show i = rep by omega]; exact hR, hL, hfr⟩)
  | succ k ih =>
    intro i mu h hik hg hL hR hfr
    refine rn_iload 57 dX5_run_55 rfl rfl ?_
    refine rn_iload_n 58 dX5_run_57 rfl rfl rfl ?_
    refine rn_icmp_ge 80 61 dX5_run_58 (by decide) rfl (fun c58 => absurd c58 (nI_ge (by omega) (by omega))) (fun _ => ?_)
    refine rn_iload_n 62 dX5_run_61 rfl rfl rfl ?_
    refine rn_if_eq 80 65 dX5_run_62 (by decide) rfl (fun c62 => absurd c62 (fun q => hS0 ((nI_eq (b := 0) (by omega) (by omega)).mp q))) (fun _ => ?_)
    refine rn_aload_n 66 dX5_run_65 rfl rfl rfl ?_
    refine rn_iload_n 67 dX5_run_66 rfl rfl rfl ?_
    refine rn_callV mX5_repairOnce [.int (nI S)] [] dX5_run_67 cv_X5_57 rfl rfl rfl (by simp [Value.category]) (c_repairOnce d hS h hg hR) (fun r1 m1 h1 q1 _ => ?_)
    obtain ⟨e1, hR1, fr1⟩ := q1
    subst e1
    have hg1 := xg_of hg (mu' := m1) (by rw [fr1 1 (by omega) (by omega) (by omega) (by omega)]) (fr1 2 (by omega) (by omega) (by omega) (by omega))
    have hL1 := LW_of hL (fr1 9 (by omega) (by omega) (by omega) (by omega))
    show rn_R _ mX5_run _ 70 [some (.ref 8), some (.int (nI s)), some (.int (nI S)), some (.int (nI rep)), some (.int (nI i))] [] m1 h1 _
    refine rn_aload_n 71 dX5_run_70 rfl rfl rfl ?_
    refine rn_callV mX5_settle [] [] dX5_run_71 cv_X5_54 rfl rfl rfl (by simp [Value.category]) (c_settle d h1 hg1 hL1 hR1) (fun r2 m2 h2 q2 _ => ?_)
    obtain ⟨e2, hR2, fr2⟩ := q2
    subst e2
    have hg2 := xg_of hg1 (mu' := m2) (by rw [fr2 1 (by omega) (by omega)]) (fr2 2 (by omega) (by omega))
    have hL2 := LW_of hL1 (fr2 9 (by omega) (by omega))
    show rn_R _ mX5_run _ 74 [some (.ref 8), some (.int (nI s)), some (.int (nI S)), some (.int (nI rep)), some (.int (nI i))] [] m2 h2 _
    refine rn_iinc (v := (nI (i + 1))) 77 [some (.ref 8), some (.int (nI s)), some (.int (nI S)), some (.int (nI rep)), some (.int (nI (i + 1)))] dX5_run_74 rfl (nI_1 _) rfl rfl ?_
    refine rn_goto 55 dX5_run_77 (by decide) ?_
    exact ih (i + 1) m2 h2 (by omega) hg2 hL2 hR2 (fun c hc => by rw [fr2 c (by omega) (by omega), fr1 c (by omega) (by omega) (by omega) (by omega)]; exact hfr c hc)

theorem rn_csm {X : Option (Nat × (Nat → Int32))} {y : ym_T} {d pc : Nat} {L : List (Option Value)} {mu : Nat → Nat → Int32} {h : Int64} {Q : rn_Q} (y1 : ym_T) (As S : List Value) {S0 : List Value} {n idx : Nat} (n' : Nat) (v : Option Value) (mu1 : Nat → Nat → Int32) (hd : decode y.2.1 pc = .ok (.invokestatic idx, 3)) (hc : cs_ok y.1.cls idx y1 n) (hS0 : S0 = As.reverse ++ S) (hn : As.length = n) (hcat : (S.map fun v => v.category).sum ≤ 8) (hp : pc + 3 = n') (hG : gd_G y1 d As mu h (pq v mu1 h)) (k : rn_R X y (d + 1) n' L (v.toList ++ S) mu1 h Q) : rn_R X y (d + 1) pc L S0 mu h Q := by
  subst hp
  refine rn_callS y1 As S hd hc hS0 hn hcat hG (fun r mu' h' q _ => ?_)
  obtain ⟨q1, q2, q3⟩ := q
  subst q1; subst q2; subst q3
  exact k

set_option maxRecDepth 100000 in
set_option maxHeartbeats 2000000 in
theorem c_run (d : Nat) {g : List Ed} {S s rep : Nat} (hS : S < 2 ^ 31) (hs : s < 8) (hrep : rep ≤ 3) {mu : Nat → Nat → Int32} (h : Int64) (hg : xg g mu) : gd_G mX5_run (d + 1) [.ref 8, .int (nI s), .int (nI S), .int (nI rep)] mu h (fun r mu' _ => r = none ∧ RD (rlay g S s (if S = 0 then 0 else rep)).1 (rlay g S s (if S = 0 then 0 else rep)).2 mu' ∧ LW g (eW g S) mu' ∧ ∀ c, (c < 9 ∨ 13 < c) → mu' c = mu c) := by
  refine gd_of rfl (Nat.le_of_ble_eq_true rfl) ?_
  show rn_R none mX5_run (d + 1) 0 [some (.ref 8), some (.int (nI s)), some (.int (nI S)), some (.int (nI rep)), none] [] mu h (fun r mu' _ => r = none ∧ RD (rlay g S s (if S = 0 then 0 else rep)).1 (rlay g S s (if S = 0 then 0 else rep)).2 mu' ∧ LW g (eW g S) mu' ∧ ∀ c, (c < 9 ∨ 13 < c) → mu' c = mu c)
  have hgc : xg g (mu_s (mu_r (mu_r mu 10 (fun j => if j < 8 then 9999 else mu 10 j)) 11 (fun j => if j < 8 then 0 else (mu_r mu 10 (fun j => if j < 8 then 9999 else mu 10 j)) 11 j)) 10 s 0) := xg_of hg rfl rfl
  have hgd : xg g (mu_r (mu_s (mu_r (mu_r mu 10 (fun j => if j < 8 then 9999 else mu 10 j)) 11 (fun j => if j < 8 then 0 else (mu_r mu 10 (fun j => if j < 8 then 9999 else mu 10 j)) 11 j)) 10 s 0) 9 (fw g S ((mu_s (mu_r (mu_r mu 10 (fun j => if j < 8 then 9999 else mu 10 j)) 11 (fun j => if j < 8 then 0 else (mu_r mu 10 (fun j => if j < 8 then 9999 else mu 10 j)) 11 j)) 10 s 0) 9) g.length)) := xg_of hg rfl rfl
  have hLd : LW g (eW g S) (mu_r (mu_s (mu_r (mu_r mu 10 (fun j => if j < 8 then 9999 else mu 10 j)) 11 (fun j => if j < 8 then 0 else (mu_r mu 10 (fun j => if j < 8 then 9999 else mu 10 j)) 11 j)) 10 s 0) 9 (fw g S ((mu_s (mu_r (mu_r mu 10 (fun j => if j < 8 then 9999 else mu 10 j)) 11 (fun j => if j < 8 then 0 else (mu_r mu 10 (fun j => if j < 8 then 9999 else mu 10 j)) 11 j)) 10 s 0) 9) g.length)) := fun e he => ⟨by rw [mu_r_in]; unfold fw; rw [if_pos he], eW_le hg.2.1 S he⟩
  have hRd : RD (st0 s) (fun _ => 0) (mu_r (mu_s (mu_r (mu_r mu 10 (fun j => if j < 8 then 9999 else mu 10 j)) 11 (fun j => if j < 8 then 0 else (mu_r mu 10 (fun j => if j < 8 then 9999 else mu 10 j)) 11 j)) 10 s 0) 9 (fw g S ((mu_s (mu_r (mu_r mu 10 (fun j => if j < 8 then 9999 else mu 10 j)) 11 (fun j => if j < 8 then 0 else (mu_r mu 10 (fun j => if j < 8 then 9999 else mu 10 j)) 11 j)) 10 s 0) 9) g.length)) := by
    intro v hv
    show upd (fun j => if j < 8 then (9999 : Int32) else mu 10 j) s 0 v = _ ∧ (if v < 8 then (0 : Int32) else _) = _ ∧ _ ∧ _
    rw [if_pos hv]
    unfold st0
    by_cases q : v = s
    · subst q; rw [pk_us, if_pos rfl]; exact ⟨rfl, rfl, by omega, Nat.two_pow_pos 16⟩
    · rw [pk_un q, if_neg q]; show (if v < 8 then (9999 : Int32) else _) = _ ∧ _; rw [if_pos hv]; exact ⟨rfl, rfl, by omega, Nat.two_pow_pos 16⟩
  refine rn_aload_n 1 dX5_run_0 rfl rfl rfl ?_
  refine rn_get 4 (.ref 10) dX5_run_1 fl_X5_15 rfl rfl rfl rfl ?_
  refine rn_sipush (v := 9999) 7 dX5_run_4 (by decide) rfl ?_
  refine rn_csm mJ7_fill_53178 [.ref 10, .int 9999] [] 10 none (mu_r mu 10 (fun j => if j < 8 then 9999 else mu 10 j)) dX5_run_7 cs_X5_42 rfl rfl (by simp) rfl (c_fillA10 d mu h 9999) ?_
  refine rn_aload_n 11 dX5_run_10 rfl rfl rfl ?_
  refine rn_get 14 (.ref 11) dX5_run_11 fl_X5_18 rfl rfl rfl rfl ?_
  refine rn_iconst (v := 0) 15 dX5_run_14 (by decide) rfl ?_
  refine rn_csm mJ7_fill_53178 [.ref 11, .int 0] [] 18 none (mu_r (mu_r mu 10 (fun j => if j < 8 then 9999 else mu 10 j)) 11 (fun j => if j < 8 then 0 else (mu_r mu 10 (fun j => if j < 8 then 9999 else mu 10 j)) 11 j)) dX5_run_15 cs_X5_42 rfl rfl (by simp) rfl (c_fillA11 d (mu_r mu 10 (fun j => if j < 8 then 9999 else mu 10 j)) h 0) ?_
  refine rn_iload_n 19 dX5_run_18 rfl rfl rfl ?_
  refine rn_if_lt 28 22 dX5_run_19 (by decide) rfl (fun c19 => absurd c19 (nI_pos (by omega))) (fun _ => ?_)
  refine rn_iload_n 23 dX5_run_22 rfl rfl rfl ?_
  refine rn_bipush (v := 8) 25 dX5_run_23 (by decide) rfl ?_
  refine rn_icmp_lt 29 28 dX5_run_25 (by decide) rfl (fun _ => ?_) (fun c25 => absurd (nI_lt (b := 8) (by omega) (by omega)) c25)
  refine rn_aload_n 30 dX5_run_29 rfl rfl rfl ?_
  refine rn_get 33 (.ref 10) dX5_run_30 fl_X5_15 rfl rfl rfl rfl ?_
  refine rn_iload_n 34 dX5_run_33 rfl rfl rfl ?_
  refine rn_iconst (v := 0) 35 dX5_run_34 (by decide) rfl ?_
  refine rn_iast 36 dX5_run_35 rfl (vp_in_nI (by omega) (by omega)) rfl ?_
  rw [nI_clamp (by omega)]
  refine rn_aload_n 37 dX5_run_36 rfl rfl rfl ?_
  refine rn_get 40 (.ref 1) dX5_run_37 fl_X5_30 rfl rfl rfl rfl ?_
  refine rn_iload_n 41 dX5_run_40 rfl rfl rfl ?_
  refine rn_aload_n 42 dX5_run_41 rfl rfl rfl ?_
  refine rn_get 45 (.ref 9) dX5_run_42 fl_X5_9 rfl rfl rfl rfl ?_
  refine rn_cvm mX2_fillLengths [.int (nI S), .ref 9] [] 48 (none) (mu_r (mu_s (mu_r (mu_r mu 10 (fun j => if j < 8 then 9999 else mu 10 j)) 11 (fun j => if j < 8 then 0 else (mu_r mu 10 (fun j => if j < 8 then 9999 else mu 10 j)) 11 j)) 10 s 0) 9 (fw g S ((mu_s (mu_r (mu_r mu 10 (fun j => if j < 8 then 9999 else mu 10 j)) 11 (fun j => if j < 8 then 0 else (mu_r mu 10 (fun j => if j < 8 then 9999 else mu 10 j)) 11 j)) 10 s 0) 9) g.length)) dX5_run_45 cv_X5_48 rfl rfl rfl (by simp [Value.category]) rfl (c_fillLengths9 d h hgc hS) ?_
  refine rn_aload_n 49 dX5_run_48 rfl rfl rfl ?_
  refine rn_callV mX5_settle [] [] dX5_run_49 cv_X5_54 rfl rfl rfl (by simp [Value.category]) (c_settle d h hgd hLd hRd) (fun r1 m1 h1 q1 _ => ?_)
  obtain ⟨e1, hR1, fr1⟩ := q1
  subst e1
  show rn_R _ mX5_run _ 52 [some (.ref 8), some (.int (nI s)), some (.int (nI S)), some (.int (nI rep)), none] [] m1 h1 _
  refine rn_iconst (v := 0) 53 dX5_run_52 (by decide) rfl ?_
  refine rn_istore 55 [some (.ref 8), some (.int (nI s)), some (.int (nI S)), some (.int (nI rep)), some (.int 0)] dX5_run_53 rfl (Nat.le_of_ble_eq_true rfl) rfl ?_
  by_cases hS0 : S = 0
  · skip
    subst hS0
    refine rn_iload 57 dX5_run_55 rfl rfl ?_
    refine rn_iload_n 58 dX5_run_57 rfl rfl rfl ?_
    refine rn_icmp_ge 80 61 dX5_run_58 (by decide) rfl (fun c58 => ?_) (fun c58 => ?_)
    · skip
      exact rn_vret rfl dX5_run_80 (⟨rfl, by rw [if_pos rfl]; exact hR1, LW_of hLd (fr1 9 (by omega) (by omega)), fun c hc => by rw [fr1 c (by omega) (by omega)]; simp [mu_s, mu_r, show c ≠ 9 by omega, show c ≠ 10 by omega, show c ≠ 11 by omega]⟩)
    · skip
      refine rn_iload_n 62 dX5_run_61 rfl rfl rfl ?_
      refine rn_if_eq 80 65 dX5_run_62 (by decide) rfl (fun _ => ?_) (fun c62 => absurd (rfl) c62)
      exact rn_vret rfl dX5_run_80 (⟨rfl, by rw [if_pos rfl]; exact hR1, LW_of hLd (fr1 9 (by omega) (by omega)), fun c hc => by rw [fr1 c (by omega) (by omega)]; simp [mu_s, mu_r, show c ≠ 9 by omega, show c ≠ 10 by omega, show c ≠ 11 by omega]⟩)
  · skip
    exact lp_run d hS hS0 hrep mu rep 0 m1 h1 (by omega) (xg_of hgd (by rw [fr1 1 (by omega) (by omega)]) (fr1 2 (by omega) (by omega))) (LW_of hLd (fr1 9 (by omega) (by omega))) hR1 (fun c hc => by rw [fr1 c (by omega) (by omega)]; simp [mu_s, mu_r, show c ≠ 9 by omega, show c ≠ 10 by omega, show c ≠ 11 by omega])

set_option maxRecDepth 100000 in
set_option maxHeartbeats 2000000 in
theorem c_distanceTo (d : Nat) {D U : Nat → Nat} {mu : Nat → Nat → Int32} (h : Int64) (hR : RD D U mu) {v : Nat} (hv : v < 8) : gd_G mX5_distanceTo d [.ref 8, .int (nI v)] mu h (pq (some (.int (nI (D v)))) mu h) := by
  refine gd_of rfl (Nat.le_of_ble_eq_true rfl) ?_
  show rn_R none mX5_distanceTo d 0 [some (.ref 8), some (.int (nI v))] [] mu h (pq (some (.int (nI (D v)))) mu h)
  refine rn_iload_n 1 dX5_distanceTo_0 rfl rfl rfl ?_
  refine rn_if_lt 19 4 dX5_distanceTo_1 (by decide) rfl (fun c1 => absurd c1 (nI_pos (by omega))) (fun _ => ?_)
  refine rn_iload_n 5 dX5_distanceTo_4 rfl rfl rfl ?_
  refine rn_bipush (v := 8) 7 dX5_distanceTo_5 (by decide) rfl ?_
  refine rn_icmp_ge 19 10 dX5_distanceTo_7 (by decide) rfl (fun c7 => absurd c7 (nI_ge (b := 8) (by omega) (by omega))) (fun _ => ?_)
  refine rn_aload_n 11 dX5_distanceTo_10 rfl rfl rfl ?_
  refine rn_get 14 (.ref 10) dX5_distanceTo_11 fl_X5_15 rfl rfl rfl rfl ?_
  refine rn_iload_n 15 dX5_distanceTo_14 rfl rfl rfl ?_
  refine rn_iald 16 (nI (D v)) dX5_distanceTo_15 rfl (vp_in_nI (by omega) (by omega)) (by rw [nI_clamp (by omega)]; exact (hR v hv).1) rfl ?_
  refine rn_goto 22 dX5_distanceTo_16 (by decide) ?_
  exact rn_iret rfl dX5_distanceTo_22 (⟨rfl, rfl, rfl⟩)

set_option maxRecDepth 100000 in
set_option maxHeartbeats 2000000 in
theorem c_usedTo (d : Nat) {D U : Nat → Nat} {mu : Nat → Nat → Int32} (h : Int64) (hR : RD D U mu) {v : Nat} (hv : v < 8) : gd_G mX5_usedTo d [.ref 8, .int (nI v)] mu h (pq (some (.int (nI (U v)))) mu h) := by
  refine gd_of rfl (Nat.le_of_ble_eq_true rfl) ?_
  show rn_R none mX5_usedTo d 0 [some (.ref 8), some (.int (nI v))] [] mu h (pq (some (.int (nI (U v)))) mu h)
  refine rn_iload_n 1 dX5_usedTo_0 rfl rfl rfl ?_
  refine rn_if_lt 19 4 dX5_usedTo_1 (by decide) rfl (fun c1 => absurd c1 (nI_pos (by omega))) (fun _ => ?_)
  refine rn_iload_n 5 dX5_usedTo_4 rfl rfl rfl ?_
  refine rn_bipush (v := 8) 7 dX5_usedTo_5 (by decide) rfl ?_
  refine rn_icmp_ge 19 10 dX5_usedTo_7 (by decide) rfl (fun c7 => absurd c7 (nI_ge (b := 8) (by omega) (by omega))) (fun _ => ?_)
  refine rn_aload_n 11 dX5_usedTo_10 rfl rfl rfl ?_
  refine rn_get 14 (.ref 11) dX5_usedTo_11 fl_X5_18 rfl rfl rfl rfl ?_
  refine rn_iload_n 15 dX5_usedTo_14 rfl rfl rfl ?_
  refine rn_iald 16 (nI (U v)) dX5_usedTo_15 rfl (vp_in_nI (by omega) (by omega)) (by rw [nI_clamp (by omega)]; exact (hR v hv).2.1) rfl ?_
  refine rn_goto 20 dX5_usedTo_16 (by decide) ?_
  exact rn_iret rfl dX5_usedTo_20 (⟨rfl, rfl, rfl⟩)

/-- the distance that the class finds -/
def xD (g : List Ed) (S s t rep : Nat) : Nat := (rlay g S s (if S = 0 then 0 else rep)).1 t

set_option maxRecDepth 100000 in
set_option maxHeartbeats 2000000 in
theorem c_measure (d : Nat) {g : List Ed} {S s t rep : Nat} (hS : S < 2 ^ 31) (hs : s < 8) (hv : t < 8) (hrep : rep ≤ 3) {mu : Nat → Nat → Int32} (h : Int64) (hg : xg g mu) : gd_G mX5_measure (d + 2) [.ref 8, .int (nI s), .int (nI t), .int (nI S), .int (nI rep)] mu h (fun r mu' _ => r = some (.int (nI (xD g S s t rep))) ∧ RD (rlay g S s (if S = 0 then 0 else rep)).1 (rlay g S s (if S = 0 then 0 else rep)).2 mu' ∧ LW g (eW g S) mu' ∧ ∀ c, (c < 9 ∨ 13 < c) → mu' c = mu c) := by
  refine gd_of rfl (Nat.le_of_ble_eq_true rfl) ?_
  show rn_R none mX5_measure (d + 2) 0 [some (.ref 8), some (.int (nI s)), some (.int (nI t)), some (.int (nI S)), some (.int (nI rep))] [] mu h (fun r mu' _ => r = some (.int (nI (xD g S s t rep))) ∧ RD (rlay g S s (if S = 0 then 0 else rep)).1 (rlay g S s (if S = 0 then 0 else rep)).2 mu' ∧ LW g (eW g S) mu' ∧ ∀ c, (c < 9 ∨ 13 < c) → mu' c = mu c)
  refine rn_aload_n 1 dX5_measure_0 rfl rfl rfl ?_
  refine rn_iload_n 2 dX5_measure_1 rfl rfl rfl ?_
  refine rn_iload_n 3 dX5_measure_2 rfl rfl rfl ?_
  refine rn_iload 5 dX5_measure_3 rfl rfl ?_
  refine rn_callV mX5_run [.int (nI s), .int (nI S), .int (nI rep)] [] dX5_measure_5 cv_X5_34 rfl rfl rfl (by simp [Value.category]) (c_run d hS hs hrep h hg) (fun r1 m1 h1 q1 _ => ?_)
  obtain ⟨e1, hR1, hL1, fr1⟩ := q1
  subst e1
  show rn_R _ mX5_measure _ 8 [some (.ref 8), some (.int (nI s)), some (.int (nI t)), some (.int (nI S)), some (.int (nI rep))] [] m1 h1 _
  refine rn_aload_n 9 dX5_measure_8 rfl rfl rfl ?_
  refine rn_iload_n 10 dX5_measure_9 rfl rfl rfl ?_
  refine rn_cvp mX5_distanceTo [.int (nI t)] [] 13 (.int (nI (xD g S s t rep))) dX5_measure_10 cv_X5_38 rfl rfl rfl (by simp [Value.category]) rfl (c_distanceTo (d + 1) h1 hR1 hv) ?_
  exact rn_iret rfl dX5_measure_13 (⟨rfl, hR1, hL1, fr1⟩)
