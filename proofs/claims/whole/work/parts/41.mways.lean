/-! DISTANCES: the reference's ways -/
abbrev Ws : Type := (Nat → Nat) × Bool
def RA (A : Nat → Nat) (mu : Nat → Nat → Int32) : Prop := ∀ k, k < 32 → mu 27 k = nI (A k) ∧ A k ≤ 9999
/-- one place becomes less -/
def wx (k v : Nat) (A : Nat → Nat) : Nat → Nat := if v < A k then va_up A k v else A
/-- one edge at r repairs -/
def wb (g : List Ed) (S rep e r : Nat) (s : Ws) : Ws :=
  if s.1 (4 * eF g e + r) < 9999 then
    (let A1 := if eW g S e < 9999 then wx (4 * eT g e + r) (s.1 (4 * eF g e + r) + eW g S e) s.1 else s.1
     let o1 := decide (eW g S e < 9999 ∧ s.1 (4 * eF g e + r) + eW g S e < s.1 (4 * eT g e + r))
     let A2 := if r < rep then wx (4 * eT g e + r + 1) (s.1 (4 * eF g e + r) + eL g e) A1 else A1
     let o2 := decide (r < rep ∧ s.1 (4 * eF g e + r) + eL g e < A1 (4 * eT g e + r + 1))
     (A2, s.2 || o1 || o2))
  else s
theorem RA_wx {A : Nat → Nat} {mu : Nat → Nat → Int32} (h : RA A mu) {k v : Nat} (hk : k < 32) : RA (wx k v A) (mu_s mu 27 k (nI (if v < A k then v else A k))) := by
  intro j hj
  show upd (mu 27) k _ j = _ ∧ _
  unfold wx
  by_cases q : v < A k
  · rw [if_pos q, if_pos q]
    unfold va_up
    by_cases z : j = k
    · subst z; rw [pk_us, if_pos rfl]; exact ⟨rfl, by have := (h j hj).2; omega⟩
    · rw [pk_un z, if_neg z]; exact h j hj
  · rw [if_neg q, if_neg q]
    by_cases z : j = k
    · subst z; rw [pk_us]; exact ⟨rfl, (h j hj).2⟩
    · rw [pk_un z]; exact h j hj

set_option maxRecDepth 100000 in
set_option maxHeartbeats 2000000 in
theorem c_lengthOf (d : Nat) {g : List Ed} {mu : Nat → Nat → Int32} (h : Int64) (hg : mg g mu) {S e : Nat} (hS : S < 2 ^ 31) (he : e < g.length) : gd_G mX9_lengthOf (d + 1) [.ref 22, .int (nI e), .int (nI S)] mu h (pq (some (.int (nI (eW g S e)))) mu h) := by
  refine gd_of rfl (Nat.le_of_ble_eq_true rfl) ?_
  show rn_R none mX9_lengthOf (d + 1) 0 [some (.ref 22), some (.int (nI e)), some (.int (nI S))] [] mu h (pq (some (.int (nI (eW g S e)))) mu h)
  have h16 := hg.1
  have hok := e_at hg.2.1 he
  have hm := c_mhas d mu h (S := S) (e := e) hS (by omega)
  cases hb : S.testBit e with
  | false =>
    rw [hb] at hm
    refine rn_iload_n 1 dX9_lengthOf_0 rfl rfl rfl ?_
    refine rn_iload_n 2 dX9_lengthOf_1 rfl rfl rfl ?_
    refine rn_csp mX9_has [.int (nI S), .int (nI e)] [] 5 (.int (if false = true then 1 else 0)) dX9_lengthOf_2 cs_X9_42 rfl rfl (by simp [Value.category]) rfl (hm) ?_
    refine rn_if_ne 15 8 dX9_lengthOf_5 (by decide) rfl (fun c5 => absurd (rfl) c5) (fun _ => ?_)
    refine rn_aload_n 9 dX9_lengthOf_8 rfl rfl rfl ?_
    refine rn_iload_n 10 dX9_lengthOf_9 rfl rfl rfl ?_
    refine rn_iconst (v := 2) 11 dX9_lengthOf_10 (by decide) rfl ?_
    refine rn_cvp mX9_of [.int (nI e), .int 2] [] 14 (.int (nI (eL g e))) dX9_lengthOf_11 cv_X9_46 rfl rfl rfl (by simp [Value.category]) rfl (c_ofe d h hg (w := 2) he (by omega)) ?_
    exact rn_iret rfl dX9_lengthOf_14 (⟨by unfold eW; rw [hb]; rfl, rfl, rfl⟩)
  | true =>
    rw [hb] at hm
    by_cases q : eY g e = 100
    · skip
      refine rn_iload_n 1 dX9_lengthOf_0 rfl rfl rfl ?_
      refine rn_iload_n 2 dX9_lengthOf_1 rfl rfl rfl ?_
      refine rn_csp mX9_has [.int (nI S), .int (nI e)] [] 5 (.int (if true = true then 1 else 0)) dX9_lengthOf_2 cs_X9_42 rfl rfl (by simp [Value.category]) rfl (hm) ?_
      refine rn_if_ne 15 8 dX9_lengthOf_5 (by decide) rfl (fun _ => ?_) (fun c5 => absurd c5 (by decide))
      refine rn_aload_n 16 dX9_lengthOf_15 rfl rfl rfl ?_
      refine rn_iload_n 17 dX9_lengthOf_16 rfl rfl rfl ?_
      refine rn_iconst (v := 3) 18 dX9_lengthOf_17 (by decide) rfl ?_
      refine rn_cvp mX9_of [.int (nI e), .int 3] [] 21 (.int (nI (eY g e))) dX9_lengthOf_18 cv_X9_46 rfl rfl rfl (by simp [Value.category]) rfl (c_ofe d h hg (w := 3) he (by omega)) ?_
      refine rn_bipush (v := 100) 23 dX9_lengthOf_21 (by decide) rfl ?_
      refine rn_icmp_ne 32 26 dX9_lengthOf_23 (by decide) rfl (fun c23 => absurd (by rw [q]; rfl) c23) (fun _ => ?_)
      refine rn_sipush (v := 9999) 29 dX9_lengthOf_26 (by decide) rfl ?_
      refine rn_goto 45 dX9_lengthOf_29 (by decide) ?_
      exact rn_iret rfl dX9_lengthOf_45 (⟨by unfold eW; rw [hb, if_pos rfl, if_pos q]; rfl, rfl, rfl⟩)
    · skip
      refine rn_iload_n 1 dX9_lengthOf_0 rfl rfl rfl ?_
      refine rn_iload_n 2 dX9_lengthOf_1 rfl rfl rfl ?_
      refine rn_csp mX9_has [.int (nI S), .int (nI e)] [] 5 (.int (if true = true then 1 else 0)) dX9_lengthOf_2 cs_X9_42 rfl rfl (by simp [Value.category]) rfl (hm) ?_
      refine rn_if_ne 15 8 dX9_lengthOf_5 (by decide) rfl (fun _ => ?_) (fun c5 => absurd c5 (by decide))
      refine rn_aload_n 16 dX9_lengthOf_15 rfl rfl rfl ?_
      refine rn_iload_n 17 dX9_lengthOf_16 rfl rfl rfl ?_
      refine rn_iconst (v := 3) 18 dX9_lengthOf_17 (by decide) rfl ?_
      refine rn_cvp mX9_of [.int (nI e), .int 3] [] 21 (.int (nI (eY g e))) dX9_lengthOf_18 cv_X9_46 rfl rfl rfl (by simp [Value.category]) rfl (c_ofe d h hg (w := 3) he (by omega)) ?_
      refine rn_bipush (v := 100) 23 dX9_lengthOf_21 (by decide) rfl ?_
      refine rn_icmp_ne 32 26 dX9_lengthOf_23 (by decide) rfl (fun _ => ?_) (fun c23 => absurd c23 (fun z => q ((nI_eq (b := 100) (by omega) (by omega)).mp z)))
      refine rn_aload_n 33 dX9_lengthOf_32 rfl rfl rfl ?_
      refine rn_iload_n 34 dX9_lengthOf_33 rfl rfl rfl ?_
      refine rn_iconst (v := 2) 35 dX9_lengthOf_34 (by decide) rfl ?_
      refine rn_cvp mX9_of [.int (nI e), .int 2] [] 38 (.int (nI (eL g e))) dX9_lengthOf_35 cv_X9_46 rfl rfl rfl (by simp [Value.category]) rfl (c_ofe d h hg (w := 2) he (by omega)) ?_
      refine rn_aload_n 39 dX9_lengthOf_38 rfl rfl rfl ?_
      refine rn_iload_n 40 dX9_lengthOf_39 rfl rfl rfl ?_
      refine rn_iconst (v := 3) 41 dX9_lengthOf_40 (by decide) rfl ?_
      refine rn_cvp mX9_of [.int (nI e), .int 3] [.int (nI (eL g e))] 44 (.int (nI (eY g e))) dX9_lengthOf_41 cv_X9_46 rfl rfl rfl (by simp [Value.category]) rfl (c_ofe d h hg (w := 3) he (by omega)) ?_
      refine rn_iadd 45 dX9_lengthOf_44 rfl ?_
      exact rn_iret rfl dX9_lengthOf_45 (⟨by unfold eW; rw [hb, if_pos rfl, if_neg q, nI_add], rfl, rfl⟩)

set_option maxRecDepth 100000 in
set_option maxHeartbeats 2000000 in
theorem c_lessens (d : Nat) {A : Nat → Nat} {mu : Nat → Nat → Int32} (h : Int64) (hA : RA A mu) {k v : Nat} (hk : k < 32) (hv : v < 2 ^ 31) : gd_G mX9_lessens d [.ref 22, .int (nI k), .int (nI v)] mu h (pq (some (.int (if v < A k then 1 else 0))) (mu_s mu 27 k (nI (if v < A k then v else A k))) h) := by
  refine gd_of rfl (Nat.le_of_ble_eq_true rfl) ?_
  show rn_R none mX9_lessens d 0 [some (.ref 22), some (.int (nI k)), some (.int (nI v)), none] [] mu h (pq (some (.int (if v < A k then 1 else 0))) (mu_s mu 27 k (nI (if v < A k then v else A k))) h)
  have ha := hA k hk
  by_cases q : v < A k
  · skip
    rw [if_pos q]
    rw [if_pos q]
    refine rn_iload_n 1 dX9_lessens_0 rfl rfl rfl ?_
    refine rn_aload_n 2 dX9_lessens_1 rfl rfl rfl ?_
    refine rn_get 5 (.ref 27) dX9_lessens_2 fl_X9_26 rfl rfl rfl rfl ?_
    refine rn_iload_n 6 dX9_lessens_5 rfl rfl rfl ?_
    refine rn_iald 7 (nI (A k)) dX9_lessens_6 rfl (vp_in_nI (by omega) (by omega)) (by rw [nI_clamp (by omega)]; exact ha.1) rfl ?_
    refine rn_icmp_ge 14 10 dX9_lessens_7 (by decide) rfl (fun c7 => absurd c7 (nI_ge q (by omega))) (fun _ => ?_)
    refine rn_iconst (v := 1) 11 dX9_lessens_10 (by decide) rfl ?_
    refine rn_goto 15 dX9_lessens_11 (by decide) ?_
    refine rn_istore_n 16 [some (.ref 22), some (.int (nI k)), some (.int (nI v)), some (.int 1)] dX9_lessens_15 rfl rfl (Nat.le_of_ble_eq_true rfl) rfl ?_
    refine rn_aload_n 17 dX9_lessens_16 rfl rfl rfl ?_
    refine rn_get 20 (.ref 27) dX9_lessens_17 fl_X9_26 rfl rfl rfl rfl ?_
    refine rn_iload_n 21 dX9_lessens_20 rfl rfl rfl ?_
    refine rn_iload_n 22 dX9_lessens_21 rfl rfl rfl ?_
    refine rn_if_eq 29 25 dX9_lessens_22 (by decide) rfl (fun c22 => absurd c22 (by decide)) (fun _ => ?_)
    refine rn_iload_n 26 dX9_lessens_25 rfl rfl rfl ?_
    refine rn_goto 35 dX9_lessens_26 (by decide) ?_
    refine rn_iast 36 dX9_lessens_35 rfl (vp_in_nI (by omega) (by omega)) rfl ?_
    rw [nI_clamp (by omega)]
    refine rn_iload_n 37 dX9_lessens_36 rfl rfl rfl ?_
    exact rn_zret rfl dX9_lessens_37 rfl (⟨rfl, rfl, rfl⟩)
  · skip
    rw [if_neg q]
    rw [if_neg q]
    refine rn_iload_n 1 dX9_lessens_0 rfl rfl rfl ?_
    refine rn_aload_n 2 dX9_lessens_1 rfl rfl rfl ?_
    refine rn_get 5 (.ref 27) dX9_lessens_2 fl_X9_26 rfl rfl rfl rfl ?_
    refine rn_iload_n 6 dX9_lessens_5 rfl rfl rfl ?_
    refine rn_iald 7 (nI (A k)) dX9_lessens_6 rfl (vp_in_nI (by omega) (by omega)) (by rw [nI_clamp (by omega)]; exact ha.1) rfl ?_
    refine rn_icmp_ge 14 10 dX9_lessens_7 (by decide) rfl (fun _ => ?_) (fun c7 => absurd (nI_le (by omega) (by omega)) c7)
    refine rn_iconst (v := 0) 15 dX9_lessens_14 (by decide) rfl ?_
    refine rn_istore_n 16 [some (.ref 22), some (.int (nI k)), some (.int (nI v)), some (.int 0)] dX9_lessens_15 rfl rfl (Nat.le_of_ble_eq_true rfl) rfl ?_
    refine rn_aload_n 17 dX9_lessens_16 rfl rfl rfl ?_
    refine rn_get 20 (.ref 27) dX9_lessens_17 fl_X9_26 rfl rfl rfl rfl ?_
    refine rn_iload_n 21 dX9_lessens_20 rfl rfl rfl ?_
    refine rn_iload_n 22 dX9_lessens_21 rfl rfl rfl ?_
    refine rn_if_eq 29 25 dX9_lessens_22 (by decide) rfl (fun _ => ?_) (fun c22 => absurd (rfl) c22)
    refine rn_aload_n 30 dX9_lessens_29 rfl rfl rfl ?_
    refine rn_get 33 (.ref 27) dX9_lessens_30 fl_X9_26 rfl rfl rfl rfl ?_
    refine rn_iload_n 34 dX9_lessens_33 rfl rfl rfl ?_
    refine rn_iald 35 (nI (A k)) dX9_lessens_34 rfl (vp_in_nI (by omega) (by omega)) (by rw [nI_clamp (by omega)]; exact ha.1) rfl ?_
    refine rn_iast 36 dX9_lessens_35 rfl (vp_in_nI (by omega) (by omega)) rfl ?_
    rw [nI_clamp (by omega)]
    refine rn_iload_n 37 dX9_lessens_36 rfl rfl rfl ?_
    exact rn_zret rfl dX9_lessens_37 rfl (⟨rfl, rfl, rfl⟩)
