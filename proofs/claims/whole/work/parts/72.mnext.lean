/-! THE REFERENCE: the next path -/
def SPx (g : List Ed) (a s : Nat) (P : List Nat) (mu : Nat → Nat → Int32) : Prop := mu 22 12 = nI P.length ∧ mu 22 13 = nI (ptL g a P) ∧ mu 22 14 = nI (ptN g s P) ∧ ptM P (mu 28)
def FN (mu0 mu : Nat → Nat → Int32) : Prop := (∀ c, c ≠ 22 → c ≠ 28 → mu c = mu0 c) ∧ ∀ j, j ≠ 12 → j ≠ 13 → j ≠ 14 → mu 22 j = mu0 22 j
theorem FN_rfl (mu : Nat → Nat → Int32) : FN mu mu := ⟨fun _ _ _ => rfl, fun _ _ _ _ => rfl⟩
theorem FN_tr {a b c : Nat → Nat → Int32} (h1 : FN a b) (h2 : FN b c) : FN a c := ⟨fun x h3 h4 => (h2.1 x h3 h4).trans (h1.1 x h3 h4), fun j h3 h4 h5 => (h2.2 j h3 h4 h5).trans (h1.2 j h3 h4 h5)⟩
theorem mg_FN {g : List Ed} {a b : Nat → Nat → Int32} (h : mg g a) (f : FN a b) : mg g b := mg_of h (f.1 23 (by omega) (by omega))
theorem ma_FN {g : List Ed} {n : Nat} {a b : Nat → Nat → Int32} (h : ma g n a) (f : FN a b) : ma g n b := by
  unfold ma at h ⊢
  rw [f.1 23 (by omega) (by omega)]
  exact h
theorem nd_same {N i : Nat} (h : ¬ N.testBit i = true) : nd (N ||| 2 ^ i) (2 ^ i) = N := by
  rw [nd_or]
  refine tb_ext (fun j => ?_)
  rw [nd_bit, tb_pow]
  by_cases q : i = j
  · subst q
    cases a : N.testBit i
    · rfl
    · exact absurd a h
  · simp [q]

set_option maxRecDepth 100000 in
set_option maxHeartbeats 2000000 in
theorem c_lastNode (d : Nat) {g : List Ed} {a s : Nat} {P : List Nat} {mu : Nat → Nat → Int32} (h : Int64) (hg : mg g mu) (hs : s < 8) (hv : ptV g a s P) (hP : SPx g a s P mu) : gd_G mX9_lastNode (d + 1) [.ref 22, .int (nI s)] mu h (pq (some (.int (nI (ptE g s P)))) mu h) := by
  refine gd_of rfl (Nat.le_of_ble_eq_true rfl) ?_
  show rn_R none mX9_lastNode (d + 1) 0 [some (.ref 22), some (.int (nI s))] [] mu h (pq (some (.int (nI (ptE g s P)))) mu h)
  obtain ⟨p1, p2, p3, p4⟩ := id hP
  have hl7 := ptV_len hg.2.1 hs hv
  cases P with
  | nil =>
    have p5 : mu 22 12 = 0 := p1
    refine rn_aload_n 1 dX9_lastNode_0 rfl rfl rfl ?_
    refine rn_get 4 (.int (mu 22 12)) dX9_lastNode_1 fl_X9_138 rfl rfl rfl rfl ?_
    refine rn_if_ne 11 7 dX9_lastNode_4 (by decide) rfl (fun c4 => absurd (p5) c4) (fun _ => ?_)
    refine rn_iload_n 8 dX9_lastNode_7 rfl rfl rfl ?_
    refine rn_goto 27 dX9_lastNode_8 (by decide) ?_
    exact rn_iret rfl dX9_lastNode_27 (⟨rfl, rfl, rfl⟩)
  | cons e P =>
    have p5 : mu 22 12 = nI (P.length + 1) := p1
    have hl8 : P.length + 1 ≤ 7 := hl7
    refine rn_aload_n 1 dX9_lastNode_0 rfl rfl rfl ?_
    refine rn_get 4 (.int (mu 22 12)) dX9_lastNode_1 fl_X9_138 rfl rfl rfl rfl ?_
    refine rn_if_ne 11 7 dX9_lastNode_4 (by decide) rfl (fun _ => ?_) (fun c4 => absurd c4 (by rw [p5]; exact nI_ne0 (by omega) (by omega)))
    refine rn_aload_n 12 dX9_lastNode_11 rfl rfl rfl ?_
    refine rn_aload_n 13 dX9_lastNode_12 rfl rfl rfl ?_
    refine rn_get 16 (.ref 28) dX9_lastNode_13 fl_X9_29 rfl rfl rfl rfl ?_
    refine rn_aload_n 17 dX9_lastNode_16 rfl rfl rfl ?_
    refine rn_get 20 (.int (mu 22 12)) dX9_lastNode_17 fl_X9_138 rfl rfl rfl rfl ?_
    refine rn_iconst (v := 1) 21 dX9_lastNode_20 (by decide) rfl ?_
    refine rn_isub 22 dX9_lastNode_21 rfl ?_
    rw [p5, nI_pred]
    refine rn_iald 23 (nI e) dX9_lastNode_22 rfl (vp_in_nI (by omega) (by omega)) (by rw [nI_clamp (by omega)]; exact p4.1) rfl ?_
    refine rn_iconst (v := 1) 24 dX9_lastNode_23 (by decide) rfl ?_
    refine rn_cvp mX9_of [.int (nI e), .int 1] [] 27 (.int (nI (eT g e))) dX9_lastNode_24 cv_X9_46 rfl rfl rfl (by simp [Value.category]) rfl (c_ofe d h hg (w := 1) hv.2.1 (by omega)) ?_
    exact rn_iret rfl dX9_lastNode_27 (⟨rfl, rfl, rfl⟩)

set_option maxRecDepth 100000 in
set_option maxHeartbeats 2000000 in
theorem c_back (d : Nat) {e : Nat} {g : List Ed} {a s : Nat} {P : List Nat} {mu : Nat → Nat → Int32} (h : Int64) (hg : mg g mu) (hs : s < 8) (hv : ptV g a s (e :: P)) (hP : SPx g a s (e :: P) mu) (ha : ma g a mu) : gd_G mX9_back (d + 3) [.ref 22] mu h (fun r mu' _ => r = none ∧ SPx g a s P mu' ∧ FN mu mu') := by
  refine gd_of rfl (Nat.le_of_ble_eq_true rfl) ?_
  show rn_R none mX9_back (d + 3) 0 [some (.ref 22), none] [] mu h (fun r mu' _ => r = none ∧ SPx g a s P mu' ∧ FN mu mu')
  obtain ⟨p1, p2, p3, p4⟩ := id hP
  have hl8 := ptV_len hg.2.1 hs hv
  have hl9 : P.length + 1 ≤ 7 := hl8
  have p5 : mu 22 12 = nI (P.length + 1) := p1
  have p6 : mu 22 13 = nI (ptL g a P + eW g a e) := p2
  have p7 : mu 22 14 = nI (ptN g s P ||| 2 ^ eT g e) := p3
  have hp := pw_le hg.1
  have ha2 := ha.2
  have hok := e_at hg.2.1 hv.2.1
  have hT8 := hok.2.1
  refine rn_aload_n 1 dX9_back_0 rfl rfl rfl ?_
  refine rn_dup 2 dX9_back_1 rfl rfl ?_
  refine rn_get 5 (.int (mu 22 12)) dX9_back_2 fl_X9_138 rfl rfl rfl rfl ?_
  refine rn_iconst (v := 1) 6 dX9_back_5 (by decide) rfl ?_
  refine rn_isub 7 dX9_back_6 rfl ?_
  rw [p5, nI_pred]
  refine rn_put 10 dX9_back_7 fp_X9_138 rfl rfl rfl rfl rfl ?_
  refine rn_aload_n 11 dX9_back_10 rfl rfl rfl ?_
  refine rn_get 14 (.ref 28) dX9_back_11 fl_X9_29 rfl rfl rfl rfl ?_
  refine rn_aload_n 15 dX9_back_14 rfl rfl rfl ?_
  refine rn_get 18 (.int (nI P.length)) dX9_back_15 fl_X9_138 rfl rfl rfl rfl ?_
  refine rn_iald 19 (nI e) dX9_back_18 rfl (vp_in_nI (by omega) (by omega)) (by rw [nI_clamp (by omega)]; exact p4.1) rfl ?_
  refine rn_istore_n 20 [some (.ref 22), some (.int (nI e))] dX9_back_19 rfl rfl (Nat.le_of_ble_eq_true rfl) rfl ?_
  refine rn_aload_n 21 dX9_back_20 rfl rfl rfl ?_
  refine rn_dup 22 dX9_back_21 rfl rfl ?_
  refine rn_get 25 (.int (mu 22 13)) dX9_back_22 fl_X9_141 rfl rfl rfl rfl ?_
  refine rn_aload_n 26 dX9_back_25 rfl rfl rfl ?_
  refine rn_iload_n 27 dX9_back_26 rfl rfl rfl ?_
  refine rn_aload_n 28 dX9_back_27 rfl rfl rfl ?_
  refine rn_get 31 (.ref 23) dX9_back_28 fl_X9_7 rfl rfl rfl rfl ?_
  refine rn_bipush (v := 81) 33 dX9_back_31 (by decide) rfl ?_
  refine rn_iald 34 (mu 23 81) dX9_back_33 rfl (vp_in_nI (n := 81) (by decide) (by decide)) rfl rfl ?_
  have hg2 : mg g (mu_s mu 22 12 (nI P.length)) := mg_of hg (by simp [mu_s])
  rw [ha.1]
  refine rn_cvp mX9_lengthOf [.int (nI e), .int (nI a)] [.int (mu 22 13), .ref 22] 37 (.int (nI (eW g a e))) dX9_back_34 cv_X9_124 rfl rfl rfl (by simp [Value.category]) rfl (c_lengthOf (d + 1) h hg2 (S := a) (by omega) hv.2.1) ?_
  refine rn_isub 38 dX9_back_37 rfl ?_
  rw [p6, pk_sub (Nat.le_add_left _ _), Nat.add_sub_cancel]
  refine rn_put 41 dX9_back_38 fp_X9_141 rfl rfl rfl rfl rfl ?_
  refine rn_aload_n 42 dX9_back_41 rfl rfl rfl ?_
  refine rn_aload_n 43 dX9_back_42 rfl rfl rfl ?_
  refine rn_get 46 (.int (mu 22 14)) dX9_back_43 fl_X9_144 rfl rfl rfl rfl ?_
  refine rn_iconst (v := 1) 47 dX9_back_46 (by decide) rfl ?_
  refine rn_aload_n 48 dX9_back_47 rfl rfl rfl ?_
  refine rn_iload_n 49 dX9_back_48 rfl rfl rfl ?_
  refine rn_iconst (v := 1) 50 dX9_back_49 (by decide) rfl ?_
  have hg3 : mg g (mu_s (mu_s mu 22 12 (nI P.length)) 22 13 (nI (ptL g a P))) := mg_of hg (by simp [mu_s])
  refine rn_cvp mX9_of [.int (nI e), .int 1] [.int 1, .int (mu 22 14), .ref 22] 53 (.int (nI (eT g e))) dX9_back_50 cv_X9_46 rfl rfl rfl (by simp [Value.category]) rfl (c_ofe (d + 2) h hg3 (w := 1) hv.2.1 (by omega)) ?_
  refine rn_ishl 54 dX9_back_53 rfl ?_
  refine rn_iconst (v := (-1)) 55 dX9_back_54 (by decide) rfl ?_
  refine rn_ixor 56 dX9_back_55 rfl ?_
  refine rn_iand 57 dX9_back_56 rfl ?_
  rw [p7, nb_1 (by omega), nb_andn, nd_same hv.2.2.2.2]
  refine rn_put 60 dX9_back_57 fp_X9_144 rfl rfl rfl rfl rfl ?_
  exact rn_vret rfl dX9_back_60 (⟨rfl, ⟨by simp [mu_s, upd], by simp [mu_s, upd], by simp [mu_s, upd], by simp [mu_s]; exact p4.2⟩, fun c h1 h2 => by simp [mu_s, h1], fun j h1 h2 h3 => by simp [mu_s, upd, h1, h2, h3]⟩)

set_option maxRecDepth 100000 in
set_option maxHeartbeats 2000000 in
theorem lp_forth (d : Nat) {first : Nat} {g : List Ed} {a s : Nat} {P : List Nat} {mu : Nat → Nat → Int32} (h : Int64) (hg : mg g mu) (hs : s < 8) (hv : ptV g a s P) (hP : SPx g a s P mu) (ha : ma g a mu) : ∀ (k e : Nat), e + k = g.length → first ≤ e → (∀ i, first ≤ i → i < e → ¬ ptC g a s P i) → rn_R none mX9_forth (d + 3) 9 [some (.ref 22), some (.int (nI s)), some (.int (nI first)), some (.int (nI (ptE g s P))), some (.int (nI e)), none] [] mu h (fun r mu' _ => ((∃ e, first ≤ e ∧ e < g.length ∧ ptC g a s P e ∧ (∀ i, first ≤ i → i < e → ¬ ptC g a s P i) ∧ r = some (.int 1) ∧ SPx g a s (e :: P) mu') ∨ ((∀ i, first ≤ i → i < g.length → ¬ ptC g a s P i) ∧ r = some (.int 0) ∧ SPx g a s P mu')) ∧ FN mu mu') := by
  intro k
  induction k with
  | zero =>
    intro e hek hfe hno
    have h16 := hg.1
    have hp := pw_le hg.1
    have ha2 := ha.2
    obtain ⟨p1, p2, p3, p4⟩ := id hP
    have hl7 := ptV_len hg.2.1 hs hv
    have hN := ptN_lt hg.2.1 hs P hv
    have hE := ptE_lt hg.2.1 hs P hv
    refine rn_iload 11 dX9_forth_9 rfl rfl ?_
    refine rn_aload_n 12 dX9_forth_11 rfl rfl rfl ?_
    refine rn_get 15 (.ref 23) dX9_forth_12 fl_X9_7 rfl rfl rfl rfl ?_
    refine rn_bipush (v := 80) 17 dX9_forth_15 (by decide) rfl ?_
    refine rn_iald 18 (mu 23 80) dX9_forth_17 rfl (vp_in_nI (n := 80) (by decide) (by decide)) rfl rfl ?_
    refine rn_icmp_ge 149 21 dX9_forth_18 (by decide) rfl (fun _ => ?_) (fun c18 => absurd (by rw [hg.2.2.1]; exact nI_le (by omega) (by omega)) c18)
    refine rn_iconst (v := 0) 150 dX9_forth_149 (by decide) rfl ?_
    exact rn_zret rfl dX9_forth_150 rfl (⟨Or.inr ⟨fun i h1 h2 => hno i h1 (by omega), rfl, hP⟩, FN_rfl mu⟩)
  | succ k ih =>
    intro e hek hfe hno
    have h16 := hg.1
    have hp := pw_le hg.1
    have ha2 := ha.2
    obtain ⟨p1, p2, p3, p4⟩ := id hP
    have hl7 := ptV_len hg.2.1 hs hv
    have hN := ptN_lt hg.2.1 hs P hv
    have hE := ptE_lt hg.2.1 hs P hv
    have hlt : e < g.length := by omega
    have hok := e_at hg.2.1 hlt
    have hT8 := hok.2.1
    have hF8 := hok.1
    have hW := eW_le hg.2.1 a hlt
    by_cases q1 : eF g e = ptE g s P
    · skip
      by_cases q2 : eW g a e < 9999
      · skip
        by_cases q3 : (ptN g s P).testBit (eT g e) = true
        · skip
          have bb : (nI (ptN g s P) >>> (nI (eT g e) &&& 31)) &&& 1 = 1 := by rw [nb_bit (by omega) (by omega), if_pos q3]
          refine rn_iload 11 dX9_forth_9 rfl rfl ?_
          refine rn_aload_n 12 dX9_forth_11 rfl rfl rfl ?_
          refine rn_get 15 (.ref 23) dX9_forth_12 fl_X9_7 rfl rfl rfl rfl ?_
          refine rn_bipush (v := 80) 17 dX9_forth_15 (by decide) rfl ?_
          refine rn_iald 18 (mu 23 80) dX9_forth_17 rfl (vp_in_nI (n := 80) (by decide) (by decide)) rfl rfl ?_
          refine rn_icmp_ge 149 21 dX9_forth_18 (by decide) rfl (fun c18 => absurd c18 (by rw [hg.2.2.1]; exact nI_ge hlt (by omega))) (fun _ => ?_)
          refine rn_aload_n 22 dX9_forth_21 rfl rfl rfl ?_
          refine rn_iload 24 dX9_forth_22 rfl rfl ?_
          refine rn_iconst (v := 0) 25 dX9_forth_24 (by decide) rfl ?_
          refine rn_cvp mX9_of [.int (nI e), .int 0] [] 28 (.int (nI (eF g e))) dX9_forth_25 cv_X9_46 rfl rfl rfl (by simp [Value.category]) rfl (c_ofe (d + 2) h hg (w := 0) hlt (by omega)) ?_
          refine rn_iload_n 29 dX9_forth_28 rfl rfl rfl ?_
          refine rn_icmp_ne 72 32 dX9_forth_29 (by decide) rfl (fun c29 => absurd (congrArg nI q1) c29) (fun _ => ?_)
          refine rn_aload_n 33 dX9_forth_32 rfl rfl rfl ?_
          refine rn_iload 35 dX9_forth_33 rfl rfl ?_
          refine rn_aload_n 36 dX9_forth_35 rfl rfl rfl ?_
          refine rn_get 39 (.ref 23) dX9_forth_36 fl_X9_7 rfl rfl rfl rfl ?_
          refine rn_bipush (v := 81) 41 dX9_forth_39 (by decide) rfl ?_
          refine rn_iald 42 (mu 23 81) dX9_forth_41 rfl (vp_in_nI (n := 81) (by decide) (by decide)) rfl rfl ?_
          rw [ha.1]
          refine rn_cvp mX9_lengthOf [.int (nI e), .int (nI a)] [] 45 (.int (nI (eW g a e))) dX9_forth_42 cv_X9_124 rfl rfl rfl (by simp [Value.category]) rfl (c_lengthOf (d + 1) h hg (S := a) (by omega) hlt) ?_
          refine rn_sipush (v := 9999) 48 dX9_forth_45 (by decide) rfl ?_
          refine rn_icmp_ge 72 51 dX9_forth_48 (by decide) rfl (fun c48 => absurd c48 (nI_ge (b := 9999) (by omega) (by omega))) (fun _ => ?_)
          refine rn_aload_n 52 dX9_forth_51 rfl rfl rfl ?_
          refine rn_get 55 (.int (mu 22 14)) dX9_forth_52 fl_X9_144 rfl rfl rfl rfl ?_
          refine rn_aload_n 56 dX9_forth_55 rfl rfl rfl ?_
          refine rn_iload 58 dX9_forth_56 rfl rfl ?_
          refine rn_iconst (v := 1) 59 dX9_forth_58 (by decide) rfl ?_
          refine rn_cvp mX9_of [.int (nI e), .int 1] [.int (mu 22 14)] 62 (.int (nI (eT g e))) dX9_forth_59 cv_X9_46 rfl rfl rfl (by simp [Value.category]) rfl (c_ofe (d + 2) h hg (w := 1) hlt (by omega)) ?_
          refine rn_ishr 63 dX9_forth_62 rfl ?_
          refine rn_iconst (v := 1) 64 dX9_forth_63 (by decide) rfl ?_
          refine rn_iand 65 dX9_forth_64 rfl ?_
          rw [p3, bb]
          refine rn_if_ne 72 68 dX9_forth_65 (by decide) rfl (fun _ => ?_) (fun c65 => absurd c65 (by decide))
          refine rn_iconst (v := 0) 73 dX9_forth_72 (by decide) rfl ?_
          refine rn_istore 75 [some (.ref 22), some (.int (nI s)), some (.int (nI first)), some (.int (nI (ptE g s P))), some (.int (nI e)), some (.int 0)] dX9_forth_73 rfl (Nat.le_of_ble_eq_true rfl) rfl ?_
          refine rn_iload 77 dX9_forth_75 rfl rfl ?_
          refine rn_if_eq 143 80 dX9_forth_77 (by decide) rfl (fun _ => ?_) (fun c77 => absurd (by decide) c77)
          refine rn_iinc (v := (nI (e + 1))) 146 [some (.ref 22), some (.int (nI s)), some (.int (nI first)), some (.int (nI (ptE g s P))), some (.int (nI (e + 1))), some (.int 0)] dX9_forth_143 rfl (nI_1 _) rfl rfl ?_
          refine rn_goto 9 dX9_forth_146 (by decide) ?_
          refine rn_drop 5 [some (.ref 22), some (.int (nI s)), some (.int (nI first)), some (.int (nI (ptE g s P))), some (.int (nI (e + 1))), none] rfl ?_
          exact ih (e + 1) (by omega) (by omega) (fun i h1 h2 => by by_cases z : i = e; (rw [z]; exact fun c => c.2.2 q3); exact hno i h1 (by omega))
        · skip
          have bb : (nI (ptN g s P) >>> (nI (eT g e) &&& 31)) &&& 1 = 0 := by rw [nb_bit (by omega) (by omega), if_neg q3]
          have hcan : ptC g a s P e := ⟨q1, by omega, q3⟩
          have hl9 : P.length + 1 ≤ 7 := ptV_len (P := e :: P) hg.2.1 hs ⟨hv, hlt, hcan⟩
          refine rn_iload 11 dX9_forth_9 rfl rfl ?_
          refine rn_aload_n 12 dX9_forth_11 rfl rfl rfl ?_
          refine rn_get 15 (.ref 23) dX9_forth_12 fl_X9_7 rfl rfl rfl rfl ?_
          refine rn_bipush (v := 80) 17 dX9_forth_15 (by decide) rfl ?_
          refine rn_iald 18 (mu 23 80) dX9_forth_17 rfl (vp_in_nI (n := 80) (by decide) (by decide)) rfl rfl ?_
          refine rn_icmp_ge 149 21 dX9_forth_18 (by decide) rfl (fun c18 => absurd c18 (by rw [hg.2.2.1]; exact nI_ge hlt (by omega))) (fun _ => ?_)
          refine rn_aload_n 22 dX9_forth_21 rfl rfl rfl ?_
          refine rn_iload 24 dX9_forth_22 rfl rfl ?_
          refine rn_iconst (v := 0) 25 dX9_forth_24 (by decide) rfl ?_
          refine rn_cvp mX9_of [.int (nI e), .int 0] [] 28 (.int (nI (eF g e))) dX9_forth_25 cv_X9_46 rfl rfl rfl (by simp [Value.category]) rfl (c_ofe (d + 2) h hg (w := 0) hlt (by omega)) ?_
          refine rn_iload_n 29 dX9_forth_28 rfl rfl rfl ?_
          refine rn_icmp_ne 72 32 dX9_forth_29 (by decide) rfl (fun c29 => absurd (congrArg nI q1) c29) (fun _ => ?_)
          refine rn_aload_n 33 dX9_forth_32 rfl rfl rfl ?_
          refine rn_iload 35 dX9_forth_33 rfl rfl ?_
          refine rn_aload_n 36 dX9_forth_35 rfl rfl rfl ?_
          refine rn_get 39 (.ref 23) dX9_forth_36 fl_X9_7 rfl rfl rfl rfl ?_
          refine rn_bipush (v := 81) 41 dX9_forth_39 (by decide) rfl ?_
          refine rn_iald 42 (mu 23 81) dX9_forth_41 rfl (vp_in_nI (n := 81) (by decide) (by decide)) rfl rfl ?_
          rw [ha.1]
          refine rn_cvp mX9_lengthOf [.int (nI e), .int (nI a)] [] 45 (.int (nI (eW g a e))) dX9_forth_42 cv_X9_124 rfl rfl rfl (by simp [Value.category]) rfl (c_lengthOf (d + 1) h hg (S := a) (by omega) hlt) ?_
          refine rn_sipush (v := 9999) 48 dX9_forth_45 (by decide) rfl ?_
          refine rn_icmp_ge 72 51 dX9_forth_48 (by decide) rfl (fun c48 => absurd c48 (nI_ge (b := 9999) (by omega) (by omega))) (fun _ => ?_)
          refine rn_aload_n 52 dX9_forth_51 rfl rfl rfl ?_
          refine rn_get 55 (.int (mu 22 14)) dX9_forth_52 fl_X9_144 rfl rfl rfl rfl ?_
          refine rn_aload_n 56 dX9_forth_55 rfl rfl rfl ?_
          refine rn_iload 58 dX9_forth_56 rfl rfl ?_
          refine rn_iconst (v := 1) 59 dX9_forth_58 (by decide) rfl ?_
          refine rn_cvp mX9_of [.int (nI e), .int 1] [.int (mu 22 14)] 62 (.int (nI (eT g e))) dX9_forth_59 cv_X9_46 rfl rfl rfl (by simp [Value.category]) rfl (c_ofe (d + 2) h hg (w := 1) hlt (by omega)) ?_
          refine rn_ishr 63 dX9_forth_62 rfl ?_
          refine rn_iconst (v := 1) 64 dX9_forth_63 (by decide) rfl ?_
          refine rn_iand 65 dX9_forth_64 rfl ?_
          rw [p3, bb]
          refine rn_if_ne 72 68 dX9_forth_65 (by decide) rfl (fun c65 => absurd (rfl) c65) (fun _ => ?_)
          refine rn_iconst (v := 1) 69 dX9_forth_68 (by decide) rfl ?_
          refine rn_goto 73 dX9_forth_69 (by decide) ?_
          refine rn_istore 75 [some (.ref 22), some (.int (nI s)), some (.int (nI first)), some (.int (nI (ptE g s P))), some (.int (nI e)), some (.int 1)] dX9_forth_73 rfl (Nat.le_of_ble_eq_true rfl) rfl ?_
          refine rn_iload 77 dX9_forth_75 rfl rfl ?_
          refine rn_if_eq 143 80 dX9_forth_77 (by decide) rfl (fun c77 => absurd c77 (by decide)) (fun _ => ?_)
          refine rn_aload_n 81 dX9_forth_80 rfl rfl rfl ?_
          refine rn_get 84 (.ref 28) dX9_forth_81 fl_X9_29 rfl rfl rfl rfl ?_
          refine rn_aload_n 85 dX9_forth_84 rfl rfl rfl ?_
          refine rn_get 88 (.int (mu 22 12)) dX9_forth_85 fl_X9_138 rfl rfl rfl rfl ?_
          rw [p1]
          refine rn_iload 90 dX9_forth_88 rfl rfl ?_
          refine rn_iast 91 dX9_forth_90 rfl (vp_in_nI (by omega) (by omega)) rfl ?_
          rw [nI_clamp (by omega)]
          refine rn_aload_n 92 dX9_forth_91 rfl rfl rfl ?_
          refine rn_dup 93 dX9_forth_92 rfl rfl ?_
          refine rn_get 96 (.int (mu 22 12)) dX9_forth_93 fl_X9_138 rfl rfl rfl rfl ?_
          refine rn_iconst (v := 1) 97 dX9_forth_96 (by decide) rfl ?_
          refine rn_iadd 98 dX9_forth_97 rfl ?_
          rw [p1, nI_1]
          refine rn_put 101 dX9_forth_98 fp_X9_138 rfl rfl rfl rfl rfl ?_
          refine rn_aload_n 102 dX9_forth_101 rfl rfl rfl ?_
          refine rn_dup 103 dX9_forth_102 rfl rfl ?_
          refine rn_get 106 (.int (mu 22 13)) dX9_forth_103 fl_X9_141 rfl rfl rfl rfl ?_
          refine rn_aload_n 107 dX9_forth_106 rfl rfl rfl ?_
          refine rn_iload 109 dX9_forth_107 rfl rfl ?_
          refine rn_aload_n 110 dX9_forth_109 rfl rfl rfl ?_
          refine rn_get 113 (.ref 23) dX9_forth_110 fl_X9_7 rfl rfl rfl rfl ?_
          refine rn_bipush (v := 81) 115 dX9_forth_113 (by decide) rfl ?_
          refine rn_iald 116 (mu 23 81) dX9_forth_115 rfl (vp_in_nI (n := 81) (by decide) (by decide)) rfl rfl ?_
          have hg2 : mg g (mu_s (mu_s mu 28 P.length (nI e)) 22 12 (nI (P.length + 1))) := mg_of hg (by simp [mu_s])
          rw [ha.1]
          refine rn_cvp mX9_lengthOf [.int (nI e), .int (nI a)] [.int (mu 22 13), .ref 22] 119 (.int (nI (eW g a e))) dX9_forth_116 cv_X9_124 rfl rfl rfl (by simp [Value.category]) rfl (c_lengthOf (d + 1) h hg2 (S := a) (by omega) hlt) ?_
          refine rn_iadd 120 dX9_forth_119 rfl ?_
          rw [p2, nI_add]
          refine rn_put 123 dX9_forth_120 fp_X9_141 rfl rfl rfl rfl rfl ?_
          refine rn_aload_n 124 dX9_forth_123 rfl rfl rfl ?_
          refine rn_dup 125 dX9_forth_124 rfl rfl ?_
          refine rn_get 128 (.int (mu 22 14)) dX9_forth_125 fl_X9_144 rfl rfl rfl rfl ?_
          refine rn_iconst (v := 1) 129 dX9_forth_128 (by decide) rfl ?_
          refine rn_aload_n 130 dX9_forth_129 rfl rfl rfl ?_
          refine rn_iload 132 dX9_forth_130 rfl rfl ?_
          refine rn_iconst (v := 1) 133 dX9_forth_132 (by decide) rfl ?_
          have hg3 : mg g (mu_s (mu_s (mu_s mu 28 P.length (nI e)) 22 12 (nI (P.length + 1))) 22 13 (nI (ptL g a P + eW g a e))) := mg_of hg (by simp [mu_s])
          refine rn_cvp mX9_of [.int (nI e), .int 1] [.int 1, .int (mu 22 14), .ref 22] 136 (.int (nI (eT g e))) dX9_forth_133 cv_X9_46 rfl rfl rfl (by simp [Value.category]) rfl (c_ofe (d + 2) h hg3 (w := 1) hlt (by omega)) ?_
          refine rn_ishl 137 dX9_forth_136 rfl ?_
          refine rn_ior 138 dX9_forth_137 rfl ?_
          rw [p3, nb_1 (by omega), nb_or]
          refine rn_put 141 dX9_forth_138 fp_X9_144 rfl rfl rfl rfl rfl ?_
          refine rn_iconst (v := 1) 142 dX9_forth_141 (by decide) rfl ?_
          exact rn_zret rfl dX9_forth_142 rfl (⟨Or.inl ⟨e, hfe, hlt, hcan, hno, rfl, by simp [mu_s, upd], by simp [mu_s, upd]; rfl, by simp [mu_s, upd]; rfl, by simp [mu_s]; exact ptM_push p4⟩, fun c h1 h2 => by simp [mu_s, h1, h2], fun j h1 h2 h3 => by simp [mu_s, upd, h1, h2, h3]⟩)
      · skip
        refine rn_iload 11 dX9_forth_9 rfl rfl ?_
        refine rn_aload_n 12 dX9_forth_11 rfl rfl rfl ?_
        refine rn_get 15 (.ref 23) dX9_forth_12 fl_X9_7 rfl rfl rfl rfl ?_
        refine rn_bipush (v := 80) 17 dX9_forth_15 (by decide) rfl ?_
        refine rn_iald 18 (mu 23 80) dX9_forth_17 rfl (vp_in_nI (n := 80) (by decide) (by decide)) rfl rfl ?_
        refine rn_icmp_ge 149 21 dX9_forth_18 (by decide) rfl (fun c18 => absurd c18 (by rw [hg.2.2.1]; exact nI_ge hlt (by omega))) (fun _ => ?_)
        refine rn_aload_n 22 dX9_forth_21 rfl rfl rfl ?_
        refine rn_iload 24 dX9_forth_22 rfl rfl ?_
        refine rn_iconst (v := 0) 25 dX9_forth_24 (by decide) rfl ?_
        refine rn_cvp mX9_of [.int (nI e), .int 0] [] 28 (.int (nI (eF g e))) dX9_forth_25 cv_X9_46 rfl rfl rfl (by simp [Value.category]) rfl (c_ofe (d + 2) h hg (w := 0) hlt (by omega)) ?_
        refine rn_iload_n 29 dX9_forth_28 rfl rfl rfl ?_
        refine rn_icmp_ne 72 32 dX9_forth_29 (by decide) rfl (fun c29 => absurd (congrArg nI q1) c29) (fun _ => ?_)
        refine rn_aload_n 33 dX9_forth_32 rfl rfl rfl ?_
        refine rn_iload 35 dX9_forth_33 rfl rfl ?_
        refine rn_aload_n 36 dX9_forth_35 rfl rfl rfl ?_
        refine rn_get 39 (.ref 23) dX9_forth_36 fl_X9_7 rfl rfl rfl rfl ?_
        refine rn_bipush (v := 81) 41 dX9_forth_39 (by decide) rfl ?_
        refine rn_iald 42 (mu 23 81) dX9_forth_41 rfl (vp_in_nI (n := 81) (by decide) (by decide)) rfl rfl ?_
        rw [ha.1]
        refine rn_cvp mX9_lengthOf [.int (nI e), .int (nI a)] [] 45 (.int (nI (eW g a e))) dX9_forth_42 cv_X9_124 rfl rfl rfl (by simp [Value.category]) rfl (c_lengthOf (d + 1) h hg (S := a) (by omega) hlt) ?_
        refine rn_sipush (v := 9999) 48 dX9_forth_45 (by decide) rfl ?_
        refine rn_icmp_ge 72 51 dX9_forth_48 (by decide) rfl (fun _ => ?_) (fun c48 => absurd (nI_le (a := 9999) (by omega) (by omega)) c48)
        refine rn_iconst (v := 0) 73 dX9_forth_72 (by decide) rfl ?_
        refine rn_istore 75 [some (.ref 22), some (.int (nI s)), some (.int (nI first)), some (.int (nI (ptE g s P))), some (.int (nI e)), some (.int 0)] dX9_forth_73 rfl (Nat.le_of_ble_eq_true rfl) rfl ?_
        refine rn_iload 77 dX9_forth_75 rfl rfl ?_
        refine rn_if_eq 143 80 dX9_forth_77 (by decide) rfl (fun _ => ?_) (fun c77 => absurd (by decide) c77)
        refine rn_iinc (v := (nI (e + 1))) 146 [some (.ref 22), some (.int (nI s)), some (.int (nI first)), some (.int (nI (ptE g s P))), some (.int (nI (e + 1))), some (.int 0)] dX9_forth_143 rfl (nI_1 _) rfl rfl ?_
        refine rn_goto 9 dX9_forth_146 (by decide) ?_
        refine rn_drop 5 [some (.ref 22), some (.int (nI s)), some (.int (nI first)), some (.int (nI (ptE g s P))), some (.int (nI (e + 1))), none] rfl ?_
        exact ih (e + 1) (by omega) (by omega) (fun i h1 h2 => by by_cases z : i = e; (rw [z]; exact fun c => q2 c.2.1); exact hno i h1 (by omega))
    · skip
      refine rn_iload 11 dX9_forth_9 rfl rfl ?_
      refine rn_aload_n 12 dX9_forth_11 rfl rfl rfl ?_
      refine rn_get 15 (.ref 23) dX9_forth_12 fl_X9_7 rfl rfl rfl rfl ?_
      refine rn_bipush (v := 80) 17 dX9_forth_15 (by decide) rfl ?_
      refine rn_iald 18 (mu 23 80) dX9_forth_17 rfl (vp_in_nI (n := 80) (by decide) (by decide)) rfl rfl ?_
      refine rn_icmp_ge 149 21 dX9_forth_18 (by decide) rfl (fun c18 => absurd c18 (by rw [hg.2.2.1]; exact nI_ge hlt (by omega))) (fun _ => ?_)
      refine rn_aload_n 22 dX9_forth_21 rfl rfl rfl ?_
      refine rn_iload 24 dX9_forth_22 rfl rfl ?_
      refine rn_iconst (v := 0) 25 dX9_forth_24 (by decide) rfl ?_
      refine rn_cvp mX9_of [.int (nI e), .int 0] [] 28 (.int (nI (eF g e))) dX9_forth_25 cv_X9_46 rfl rfl rfl (by simp [Value.category]) rfl (c_ofe (d + 2) h hg (w := 0) hlt (by omega)) ?_
      refine rn_iload_n 29 dX9_forth_28 rfl rfl rfl ?_
      refine rn_icmp_ne 72 32 dX9_forth_29 (by decide) rfl (fun _ => ?_) (fun c29 => absurd c29 (fun z => q1 ((nI_eq (by omega) (by omega)).mp z)))
      refine rn_iconst (v := 0) 73 dX9_forth_72 (by decide) rfl ?_
      refine rn_istore 75 [some (.ref 22), some (.int (nI s)), some (.int (nI first)), some (.int (nI (ptE g s P))), some (.int (nI e)), some (.int 0)] dX9_forth_73 rfl (Nat.le_of_ble_eq_true rfl) rfl ?_
      refine rn_iload 77 dX9_forth_75 rfl rfl ?_
      refine rn_if_eq 143 80 dX9_forth_77 (by decide) rfl (fun _ => ?_) (fun c77 => absurd (by decide) c77)
      refine rn_iinc (v := (nI (e + 1))) 146 [some (.ref 22), some (.int (nI s)), some (.int (nI first)), some (.int (nI (ptE g s P))), some (.int (nI (e + 1))), some (.int 0)] dX9_forth_143 rfl (nI_1 _) rfl rfl ?_
      refine rn_goto 9 dX9_forth_146 (by decide) ?_
      refine rn_drop 5 [some (.ref 22), some (.int (nI s)), some (.int (nI first)), some (.int (nI (ptE g s P))), some (.int (nI (e + 1))), none] rfl ?_
      exact ih (e + 1) (by omega) (by omega) (fun i h1 h2 => by by_cases z : i = e; (rw [z]; exact fun c => q1 c.1); exact hno i h1 (by omega))

set_option maxRecDepth 100000 in
set_option maxHeartbeats 2000000 in
theorem c_forth (d : Nat) {first : Nat} {g : List Ed} {a s : Nat} {P : List Nat} {mu : Nat → Nat → Int32} (h : Int64) (hg : mg g mu) (hs : s < 8) (hv : ptV g a s P) (hP : SPx g a s P mu) (ha : ma g a mu) (hf : first ≤ g.length) : gd_G mX9_forth (d + 3) [.ref 22, .int (nI s), .int (nI first)] mu h (fun r mu' _ => ((∃ e, first ≤ e ∧ e < g.length ∧ ptC g a s P e ∧ (∀ i, first ≤ i → i < e → ¬ ptC g a s P i) ∧ r = some (.int 1) ∧ SPx g a s (e :: P) mu') ∨ ((∀ i, first ≤ i → i < g.length → ¬ ptC g a s P i) ∧ r = some (.int 0) ∧ SPx g a s P mu')) ∧ FN mu mu') := by
  refine gd_of rfl (Nat.le_of_ble_eq_true rfl) ?_
  show rn_R none mX9_forth (d + 3) 0 [some (.ref 22), some (.int (nI s)), some (.int (nI first)), none, none, none] [] mu h (fun r mu' _ => ((∃ e, first ≤ e ∧ e < g.length ∧ ptC g a s P e ∧ (∀ i, first ≤ i → i < e → ¬ ptC g a s P i) ∧ r = some (.int 1) ∧ SPx g a s (e :: P) mu') ∨ ((∀ i, first ≤ i → i < g.length → ¬ ptC g a s P i) ∧ r = some (.int 0) ∧ SPx g a s P mu')) ∧ FN mu mu')
  refine rn_aload_n 1 dX9_forth_0 rfl rfl rfl ?_
  refine rn_iload_n 2 dX9_forth_1 rfl rfl rfl ?_
  refine rn_cvp mX9_lastNode [.int (nI s)] [] 5 (.int (nI (ptE g s P))) dX9_forth_2 cv_X9_147 rfl rfl rfl (by simp [Value.category]) rfl (c_lastNode (d + 1) h hg hs hv hP) ?_
  refine rn_istore_n 6 [some (.ref 22), some (.int (nI s)), some (.int (nI first)), some (.int (nI (ptE g s P))), none, none] dX9_forth_5 rfl rfl (Nat.le_of_ble_eq_true rfl) rfl ?_
  refine rn_iload_n 7 dX9_forth_6 rfl rfl rfl ?_
  refine rn_istore 9 [some (.ref 22), some (.int (nI s)), some (.int (nI first)), some (.int (nI (ptE g s P))), some (.int (nI first)), none] dX9_forth_7 rfl (Nat.le_of_ble_eq_true rfl) rfl ?_
  exact lp_forth d h hg hs hv hP ha (g.length - first) first (by omega) (Nat.le_refl _) (fun i h1 h2 => by omega)

def NPq (g : List Ed) (a s t : Nat) (Z : List (List Nat)) (mu0 : Nat → Nat → Int32) : rn_Q := fun r mu' _ => (match ptF g s t Z with
  | [] => r = some (.int 0)
  | q :: rest => r = some (.int 1) ∧ SPx g a s q mu' ∧ ptV g a s q ∧ ptE g s q = t ∧ ptF g s t (ptX g a s t q) = rest) ∧ FN mu0 mu'
theorem ptF_y {g : List Ed} {s t : Nat} {q : List Nat} {L : List (List Nat)} (h : ptE g s q = t) : ptF g s t (q :: L) = q :: ptF g s t L := by
  unfold ptF
  rw [List.filter_cons_of_pos (by simpa using h)]
theorem ptF_n {g : List Ed} {s t : Nat} {q : List Nat} {L : List (List Nat)} (h : ¬ ptE g s q = t) : ptF g s t (q :: L) = ptF g s t L := by
  unfold ptF
  rw [List.filter_cons_of_neg (by simpa using h)]
theorem NPq_y {g : List Ed} {a s t : Nat} {q : List Nat} {L : List (List Nat)} {mu0 mu : Nat → Nat → Int32} {h : Int64} (h1 : ptE g s q = t) (h2 : SPx g a s q mu) (h3 : ptV g a s q) (h4 : L = ptX g a s t q) (h5 : FN mu0 mu) : NPq g a s t (q :: L) mu0 (some (.int 1)) mu h := by
  unfold NPq
  rw [ptF_y h1, h4]
  exact ⟨⟨rfl, h2, h3, h1, rfl⟩, h5⟩
theorem NPq_n {g : List Ed} {a s t : Nat} {q : List Nat} {L : List (List Nat)} {mu0 : Nat → Nat → Int32} (h1 : ¬ ptE g s q = t) : NPq g a s t (q :: L) mu0 = NPq g a s t L mu0 := by
  unfold NPq
  rw [ptF_n h1]

set_option maxRecDepth 100000 in
set_option maxHeartbeats 2000000 in
theorem lp_np (d : Nat) {g : List Ed} {a s t : Nat} {fr : Int32} (hs : s < 8) (ht : t < 8) {mu0 : Nat → Nat → Int32} : ∀ (N : Nat) (P : List Nat) (first : Nat) (dn : Int32) (mu : Nat → Nat → Int32) (h : Int64), 9 * (ptB g a s t P first ++ ptR g a s t P).length + P.length < N → ptV g a s P → first ≤ g.length → SPx g a s P mu → mg g mu → ma g a mu → FN mu0 mu → rn_R none mX9_nextPath (d + 4) 67 [some (.ref 22), some (.int (nI s)), some (.int (nI t)), some (.int fr), some (.int (nI first)), some (.int dn)] [] mu h (NPq g a s t (ptB g a s t P first ++ ptR g a s t P) mu0) := by
  intro N
  induction N with
  | zero => intro P first dn mu h hN; omega
  | succ N ih =>
    intro P first dn mu h hN hv hf hP hg ha hfn
    refine rn_aload_n 68 dX9_nextPath_67 rfl rfl rfl ?_
    refine rn_iload_n 69 dX9_nextPath_68 rfl rfl rfl ?_
    refine rn_iload 71 dX9_nextPath_69 rfl rfl ?_
    refine rn_callV mX9_forth [.int (nI s), .int (nI first)] [] dX9_nextPath_71 cv_X9_153 rfl rfl rfl (by simp [Value.category]) (c_forth d h hg hs hv hP ha hf) (fun r1 m1 h1 qq _ => ?_)
    obtain ⟨b1, f1⟩ := qq
    have hg1 := mg_FN hg f1
    have ha1 := ma_FN ha f1
    rcases b1 with ⟨e, k1, k2, k3, k4, k5, k6⟩ | ⟨k1, k2, k3⟩
    · skip
      subst k5
      have hve : ptV g a s (e :: P) := ⟨hv, k2, k3⟩
      have hl9 : P.length + 1 ≤ 7 := ptV_len (P := e :: P) hg.2.1 hs hve
      have eB := ptB_some (t := t) k4 k1 k2 k3 (show P.length ≤ 6 by omega)
      rw [eB] at hN ⊢
      have hT := (e_at hg.2.1 k2).2.1
      show rn_R _ mX9_nextPath _ 74 [some (.ref 22), some (.int (nI s)), some (.int (nI t)), some (.int fr), some (.int (nI first)), some (.int dn)] [.int 1] m1 h1 _
      by_cases qt : eT g e = t
      · skip
        refine rn_istore 76 [some (.ref 22), some (.int (nI s)), some (.int (nI t)), some (.int fr), some (.int (nI first)), some (.int 1)] dX9_nextPath_74 rfl (Nat.le_of_ble_eq_true rfl) rfl ?_
        refine rn_iconst (v := 0) 77 dX9_nextPath_76 (by decide) rfl ?_
        refine rn_istore 79 [some (.ref 22), some (.int (nI s)), some (.int (nI t)), some (.int fr), some (.int 0), some (.int 1)] dX9_nextPath_77 rfl (Nat.le_of_ble_eq_true rfl) rfl ?_
        refine rn_iload 81 dX9_nextPath_79 rfl rfl ?_
        refine rn_if_eq 34 84 dX9_nextPath_81 (by decide) rfl (fun c81 => absurd c81 (by decide)) (fun _ => ?_)
        refine rn_aload_n 85 dX9_nextPath_84 rfl rfl rfl ?_
        refine rn_iload_n 86 dX9_nextPath_85 rfl rfl rfl ?_
        refine rn_cvp mX9_lastNode [.int (nI s)] [] 89 (.int (nI (eT g e))) dX9_nextPath_86 cv_X9_147 rfl rfl rfl (by simp [Value.category]) rfl (c_lastNode (d + 2) h1 hg1 hs hve k6) ?_
        refine rn_iload_n 90 dX9_nextPath_89 rfl rfl rfl ?_
        refine rn_icmp_ne 34 93 dX9_nextPath_90 (by decide) rfl (fun c90 => absurd (congrArg nI qt) c90) (fun _ => ?_)
        refine rn_iconst (v := 1) 94 dX9_nextPath_93 (by decide) rfl ?_
        exact rn_zret rfl dX9_nextPath_94 rfl (NPq_y qt k6 hve rfl (FN_tr hfn f1))
      · skip
        refine rn_istore 76 [some (.ref 22), some (.int (nI s)), some (.int (nI t)), some (.int fr), some (.int (nI first)), some (.int 1)] dX9_nextPath_74 rfl (Nat.le_of_ble_eq_true rfl) rfl ?_
        refine rn_iconst (v := 0) 77 dX9_nextPath_76 (by decide) rfl ?_
        refine rn_istore 79 [some (.ref 22), some (.int (nI s)), some (.int (nI t)), some (.int fr), some (.int 0), some (.int 1)] dX9_nextPath_77 rfl (Nat.le_of_ble_eq_true rfl) rfl ?_
        refine rn_iload 81 dX9_nextPath_79 rfl rfl ?_
        refine rn_if_eq 34 84 dX9_nextPath_81 (by decide) rfl (fun c81 => absurd c81 (by decide)) (fun _ => ?_)
        refine rn_aload_n 85 dX9_nextPath_84 rfl rfl rfl ?_
        refine rn_iload_n 86 dX9_nextPath_85 rfl rfl rfl ?_
        refine rn_cvp mX9_lastNode [.int (nI s)] [] 89 (.int (nI (eT g e))) dX9_nextPath_86 cv_X9_147 rfl rfl rfl (by simp [Value.category]) rfl (c_lastNode (d + 2) h1 hg1 hs hve k6) ?_
        refine rn_iload_n 90 dX9_nextPath_89 rfl rfl rfl ?_
        refine rn_icmp_ne 34 93 dX9_nextPath_90 (by decide) rfl (fun _ => ?_) (fun c90 => absurd c90 (fun z => qt ((nI_eq (by omega) (by omega)).mp z)))
        refine rn_iload 36 dX9_nextPath_34 rfl rfl ?_
        refine rn_if_ne 67 39 dX9_nextPath_36 (by decide) rfl (fun _ => ?_) (fun c36 => absurd c36 (by decide))
        have ex : ptX g a s t (e :: P) = ptB g a s t (e :: P) 0 ++ ptR g a s t (e :: P) := by unfold ptX; rw [if_neg (show ¬ ptE g s (e :: P) = t from qt)]
        rw [NPq_n (show ¬ ptE g s (e :: P) = t from qt), ex]
        rw [ex] at hN
        exact ih (e :: P) 0 1 m1 h1 (by rw [List.length_cons] at hN ⊢; omega) hve (Nat.zero_le _) k6 hg1 ha1 (FN_tr hfn f1)
    · skip
      subst k2
      have eB := ptB_none (t := t) k1
      rw [eB, List.nil_append] at hN ⊢
      obtain ⟨p1, p2, p3, p4⟩ := id k3
      show rn_R _ mX9_nextPath _ 74 [some (.ref 22), some (.int (nI s)), some (.int (nI t)), some (.int fr), some (.int (nI first)), some (.int dn)] [.int 0] m1 h1 _
      refine rn_istore 76 [some (.ref 22), some (.int (nI s)), some (.int (nI t)), some (.int fr), some (.int (nI first)), some (.int 0)] dX9_nextPath_74 rfl (Nat.le_of_ble_eq_true rfl) rfl ?_
      refine rn_iconst (v := 0) 77 dX9_nextPath_76 (by decide) rfl ?_
      refine rn_istore 79 [some (.ref 22), some (.int (nI s)), some (.int (nI t)), some (.int fr), some (.int 0), some (.int 0)] dX9_nextPath_77 rfl (Nat.le_of_ble_eq_true rfl) rfl ?_
      refine rn_iload 81 dX9_nextPath_79 rfl rfl ?_
      refine rn_if_eq 34 84 dX9_nextPath_81 (by decide) rfl (fun _ => ?_) (fun c81 => absurd (by decide) c81)
      refine rn_iload 36 dX9_nextPath_34 rfl rfl ?_
      refine rn_if_ne 67 39 dX9_nextPath_36 (by decide) rfl (fun c36 => absurd (rfl) c36) (fun _ => ?_)
      cases P with
      | nil =>
        have p5 : m1 22 12 = 0 := p1
        refine rn_aload_n 40 dX9_nextPath_39 rfl rfl rfl ?_
        refine rn_get 43 (.int (m1 22 12)) dX9_nextPath_40 fl_X9_138 rfl rfl rfl rfl ?_
        refine rn_if_ne 48 46 dX9_nextPath_43 (by decide) rfl (fun c43 => absurd (p5) c43) (fun _ => ?_)
        refine rn_iconst (v := 0) 47 dX9_nextPath_46 (by decide) rfl ?_
        exact rn_zret rfl dX9_nextPath_47 rfl (⟨rfl, FN_tr hfn f1⟩)
      | cons e P =>
        have p5 : m1 22 12 = nI (P.length + 1) := p1
        have hl9 : P.length + 1 ≤ 7 := ptV_len (P := e :: P) hg.2.1 hs hv
        refine rn_aload_n 40 dX9_nextPath_39 rfl rfl rfl ?_
        refine rn_get 43 (.int (m1 22 12)) dX9_nextPath_40 fl_X9_138 rfl rfl rfl rfl ?_
        refine rn_if_ne 48 46 dX9_nextPath_43 (by decide) rfl (fun _ => ?_) (fun c43 => absurd c43 (by rw [p5]; exact nI_ne0 (by omega) (by omega)))
        refine rn_aload_n 49 dX9_nextPath_48 rfl rfl rfl ?_
        refine rn_get 52 (.ref 28) dX9_nextPath_49 fl_X9_29 rfl rfl rfl rfl ?_
        refine rn_aload_n 53 dX9_nextPath_52 rfl rfl rfl ?_
        refine rn_get 56 (.int (m1 22 12)) dX9_nextPath_53 fl_X9_138 rfl rfl rfl rfl ?_
        refine rn_iconst (v := 1) 57 dX9_nextPath_56 (by decide) rfl ?_
        refine rn_isub 58 dX9_nextPath_57 rfl ?_
        rw [p5, nI_pred]
        refine rn_iald 59 (nI e) dX9_nextPath_58 rfl (vp_in_nI (by omega) (by omega)) (by rw [nI_clamp (by omega)]; exact p4.1) rfl ?_
        refine rn_iconst (v := 1) 60 dX9_nextPath_59 (by decide) rfl ?_
        refine rn_iadd 61 dX9_nextPath_60 rfl ?_
        refine rn_istore 63 [some (.ref 22), some (.int (nI s)), some (.int (nI t)), some (.int fr), some (.int ((nI e) + 1)), some (.int 0)] dX9_nextPath_61 rfl (Nat.le_of_ble_eq_true rfl) rfl ?_
        refine rn_aload_n 64 dX9_nextPath_63 rfl rfl rfl ?_
        refine rn_callV mX9_back [] [] dX9_nextPath_64 cv_X9_150 rfl rfl rfl (by simp [Value.category]) (c_back d h1 hg1 hs hv k3 ha1) (fun r2 m2 h2 qq _ => ?_)
        obtain ⟨e2, s2, f2⟩ := qq
        subst e2
        show rn_R _ mX9_nextPath _ 67 [some (.ref 22), some (.int (nI s)), some (.int (nI t)), some (.int fr), some (.int ((nI e) + 1)), some (.int 0)] [] m2 h2 _
        rw [nI_1]
        exact ih P (e + 1) 0 m2 h2 (by rw [List.length_cons] at hN; have hN2 : 9 * (ptB g a s t P (e + 1) ++ ptR g a s t P).length + (P.length + 1) < N + 1 := hN; omega) hv.1 hv.2.1 s2 (mg_FN hg1 f2) (ma_FN ha1 f2) (FN_tr hfn (FN_tr f1 f2))

set_option maxRecDepth 100000 in
set_option maxHeartbeats 2000000 in
theorem c_npN (d : Nat) {g : List Ed} {a s t : Nat} {P : List Nat} {mu : Nat → Nat → Int32} (h : Int64) (hg : mg g mu) (hs : s < 8) (ht : t < 8) (hv : ptV g a s P) (hP : SPx g a s P mu) (ha : ma g a mu) (he : ptE g s P = t) : gd_G mX9_nextPath (d + 4) [.ref 22, .int (nI s), .int (nI t), .int 0] mu h (NPq g a s t (ptX g a s t P) mu) := by
  refine gd_of rfl (Nat.le_of_ble_eq_true rfl) ?_
  show rn_R none mX9_nextPath (d + 4) 0 [some (.ref 22), some (.int (nI s)), some (.int (nI t)), some (.int 0), none, none] [] mu h (NPq g a s t (ptX g a s t P) mu)
  obtain ⟨p1, p2, p3, p4⟩ := id hP
  refine rn_iconst (v := 0) 1 dX9_nextPath_0 (by decide) rfl ?_
  refine rn_istore 3 [some (.ref 22), some (.int (nI s)), some (.int (nI t)), some (.int 0), some (.int 0), none] dX9_nextPath_1 rfl (Nat.le_of_ble_eq_true rfl) rfl ?_
  refine rn_iload_n 4 dX9_nextPath_3 rfl rfl rfl ?_
  refine rn_if_eq 20 7 dX9_nextPath_4 (by decide) rfl (fun _ => ?_) (fun c4 => absurd (by decide) c4)
  refine rn_iconst (v := 0) 21 dX9_nextPath_20 (by decide) rfl ?_
  refine rn_istore 23 [some (.ref 22), some (.int (nI s)), some (.int (nI t)), some (.int 0), some (.int 0), some (.int 0)] dX9_nextPath_21 rfl (Nat.le_of_ble_eq_true rfl) rfl ?_
  refine rn_iload_n 24 dX9_nextPath_23 rfl rfl rfl ?_
  refine rn_if_eq 34 27 dX9_nextPath_24 (by decide) rfl (fun _ => ?_) (fun c24 => absurd (by decide) c24)
  refine rn_iload 36 dX9_nextPath_34 rfl rfl ?_
  refine rn_if_ne 67 39 dX9_nextPath_36 (by decide) rfl (fun c36 => absurd (rfl) c36) (fun _ => ?_)
  cases P with
  | nil =>
    have p5 : mu 22 12 = 0 := p1
    have ex : ptX g a s t [] = [] := by unfold ptX; rw [if_pos he]; rfl
    rw [ex]
    refine rn_aload_n 40 dX9_nextPath_39 rfl rfl rfl ?_
    refine rn_get 43 (.int (mu 22 12)) dX9_nextPath_40 fl_X9_138 rfl rfl rfl rfl ?_
    refine rn_if_ne 48 46 dX9_nextPath_43 (by decide) rfl (fun c43 => absurd (p5) c43) (fun _ => ?_)
    refine rn_iconst (v := 0) 47 dX9_nextPath_46 (by decide) rfl ?_
    exact rn_zret rfl dX9_nextPath_47 rfl (⟨rfl, FN_rfl mu⟩)
  | cons e P =>
    have p5 : mu 22 12 = nI (P.length + 1) := p1
    have hl9 : P.length + 1 ≤ 7 := ptV_len (P := e :: P) hg.2.1 hs hv
    have ex : ptX g a s t (e :: P) = ptB g a s t P (e + 1) ++ ptR g a s t P := by unfold ptX; rw [if_pos he]; rfl
    rw [ex]
    refine rn_aload_n 40 dX9_nextPath_39 rfl rfl rfl ?_
    refine rn_get 43 (.int (mu 22 12)) dX9_nextPath_40 fl_X9_138 rfl rfl rfl rfl ?_
    refine rn_if_ne 48 46 dX9_nextPath_43 (by decide) rfl (fun _ => ?_) (fun c43 => absurd c43 (by rw [p5]; exact nI_ne0 (by omega) (by omega)))
    refine rn_aload_n 49 dX9_nextPath_48 rfl rfl rfl ?_
    refine rn_get 52 (.ref 28) dX9_nextPath_49 fl_X9_29 rfl rfl rfl rfl ?_
    refine rn_aload_n 53 dX9_nextPath_52 rfl rfl rfl ?_
    refine rn_get 56 (.int (mu 22 12)) dX9_nextPath_53 fl_X9_138 rfl rfl rfl rfl ?_
    refine rn_iconst (v := 1) 57 dX9_nextPath_56 (by decide) rfl ?_
    refine rn_isub 58 dX9_nextPath_57 rfl ?_
    rw [p5, nI_pred]
    refine rn_iald 59 (nI e) dX9_nextPath_58 rfl (vp_in_nI (by omega) (by omega)) (by rw [nI_clamp (by omega)]; exact p4.1) rfl ?_
    refine rn_iconst (v := 1) 60 dX9_nextPath_59 (by decide) rfl ?_
    refine rn_iadd 61 dX9_nextPath_60 rfl ?_
    refine rn_istore 63 [some (.ref 22), some (.int (nI s)), some (.int (nI t)), some (.int 0), some (.int ((nI e) + 1)), some (.int 0)] dX9_nextPath_61 rfl (Nat.le_of_ble_eq_true rfl) rfl ?_
    refine rn_aload_n 64 dX9_nextPath_63 rfl rfl rfl ?_
    refine rn_callV mX9_back [] [] dX9_nextPath_64 cv_X9_150 rfl rfl rfl (by simp [Value.category]) (c_back d h hg hs hv hP ha) (fun r2 m2 h2 qq _ => ?_)
    obtain ⟨e2, s2, f2⟩ := qq
    subst e2
    show rn_R _ mX9_nextPath _ 67 [some (.ref 22), some (.int (nI s)), some (.int (nI t)), some (.int 0), some (.int ((nI e) + 1)), some (.int 0)] [] m2 h2 _
    rw [nI_1]
    exact lp_np d hs ht (mu0 := mu) _ P (e + 1) 0 m2 h2 (Nat.lt_succ_self _) hv.1 hv.2.1 s2 (mg_FN hg f2) (ma_FN ha f2) f2

set_option maxRecDepth 100000 in
set_option maxHeartbeats 2000000 in
theorem c_npF (d : Nat) {g : List Ed} {a s t : Nat} {mu : Nat → Nat → Int32} (h : Int64) (hg : mg g mu) (hs : s < 8) (ht : t < 8) (hv : ptV g a s []) (hP : SPx g a s [] mu) (ha : ma g a mu) : gd_G mX9_nextPath (d + 4) [.ref 22, .int (nI s), .int (nI t), .int 1] mu h (NPq g a s t (ptA g a s t 8 []) mu) := by
  refine gd_of rfl (Nat.le_of_ble_eq_true rfl) ?_
  show rn_R none mX9_nextPath (d + 4) 0 [some (.ref 22), some (.int (nI s)), some (.int (nI t)), some (.int 1), none, none] [] mu h (NPq g a s t (ptA g a s t 8 []) mu)
  rw [ptA_0]
  by_cases q : s = t
  · skip
    refine rn_iconst (v := 0) 1 dX9_nextPath_0 (by decide) rfl ?_
    refine rn_istore 3 [some (.ref 22), some (.int (nI s)), some (.int (nI t)), some (.int 1), some (.int 0), none] dX9_nextPath_1 rfl (Nat.le_of_ble_eq_true rfl) rfl ?_
    refine rn_iload_n 4 dX9_nextPath_3 rfl rfl rfl ?_
    refine rn_if_eq 20 7 dX9_nextPath_4 (by decide) rfl (fun c4 => absurd c4 (by decide)) (fun _ => ?_)
    refine rn_aload_n 8 dX9_nextPath_7 rfl rfl rfl ?_
    refine rn_iload_n 9 dX9_nextPath_8 rfl rfl rfl ?_
    refine rn_cvp mX9_lastNode [.int (nI s)] [] 12 (.int (nI s)) dX9_nextPath_9 cv_X9_147 rfl rfl rfl (by simp [Value.category]) rfl (c_lastNode (d + 2) h hg hs hv hP) ?_
    refine rn_iload_n 13 dX9_nextPath_12 rfl rfl rfl ?_
    refine rn_icmp_eq 20 16 dX9_nextPath_13 (by decide) rfl (fun _ => ?_) (fun c13 => absurd (congrArg nI q) c13)
    refine rn_iconst (v := 0) 21 dX9_nextPath_20 (by decide) rfl ?_
    refine rn_istore 23 [some (.ref 22), some (.int (nI s)), some (.int (nI t)), some (.int 1), some (.int 0), some (.int 0)] dX9_nextPath_21 rfl (Nat.le_of_ble_eq_true rfl) rfl ?_
    refine rn_iload_n 24 dX9_nextPath_23 rfl rfl rfl ?_
    refine rn_if_eq 34 27 dX9_nextPath_24 (by decide) rfl (fun c24 => absurd c24 (by decide)) (fun _ => ?_)
    refine rn_iload 29 dX9_nextPath_27 rfl rfl ?_
    refine rn_if_ne 34 32 dX9_nextPath_29 (by decide) rfl (fun c29 => absurd (rfl) c29) (fun _ => ?_)
    refine rn_iconst (v := 1) 33 dX9_nextPath_32 (by decide) rfl ?_
    exact rn_zret rfl dX9_nextPath_33 rfl (NPq_y q hP hv rfl (FN_rfl mu))
  · skip
    refine rn_iconst (v := 0) 1 dX9_nextPath_0 (by decide) rfl ?_
    refine rn_istore 3 [some (.ref 22), some (.int (nI s)), some (.int (nI t)), some (.int 1), some (.int 0), none] dX9_nextPath_1 rfl (Nat.le_of_ble_eq_true rfl) rfl ?_
    refine rn_iload_n 4 dX9_nextPath_3 rfl rfl rfl ?_
    refine rn_if_eq 20 7 dX9_nextPath_4 (by decide) rfl (fun c4 => absurd c4 (by decide)) (fun _ => ?_)
    refine rn_aload_n 8 dX9_nextPath_7 rfl rfl rfl ?_
    refine rn_iload_n 9 dX9_nextPath_8 rfl rfl rfl ?_
    refine rn_cvp mX9_lastNode [.int (nI s)] [] 12 (.int (nI s)) dX9_nextPath_9 cv_X9_147 rfl rfl rfl (by simp [Value.category]) rfl (c_lastNode (d + 2) h hg hs hv hP) ?_
    refine rn_iload_n 13 dX9_nextPath_12 rfl rfl rfl ?_
    refine rn_icmp_eq 20 16 dX9_nextPath_13 (by decide) rfl (fun c13 => absurd c13 (fun z => q ((nI_eq (by omega) (by omega)).mp z))) (fun _ => ?_)
    refine rn_iconst (v := 1) 17 dX9_nextPath_16 (by decide) rfl ?_
    refine rn_goto 21 dX9_nextPath_17 (by decide) ?_
    refine rn_istore 23 [some (.ref 22), some (.int (nI s)), some (.int (nI t)), some (.int 1), some (.int 0), some (.int 1)] dX9_nextPath_21 rfl (Nat.le_of_ble_eq_true rfl) rfl ?_
    refine rn_iload_n 24 dX9_nextPath_23 rfl rfl rfl ?_
    refine rn_if_eq 34 27 dX9_nextPath_24 (by decide) rfl (fun c24 => absurd c24 (by decide)) (fun _ => ?_)
    refine rn_iload 29 dX9_nextPath_27 rfl rfl ?_
    refine rn_if_ne 34 32 dX9_nextPath_29 (by decide) rfl (fun _ => ?_) (fun c29 => absurd c29 (by decide))
    refine rn_iload 36 dX9_nextPath_34 rfl rfl ?_
    refine rn_if_ne 67 39 dX9_nextPath_36 (by decide) rfl (fun _ => ?_) (fun c36 => absurd c36 (by decide))
    have ex : ptX g a s t [] = ptB g a s t [] 0 ++ ptR g a s t [] := by unfold ptX; rw [if_neg (show ¬ ptE g s [] = t from q)]
    rw [NPq_n (show ¬ ptE g s [] = t from q), ex]
    exact lp_np d hs ht (mu0 := mu) _ [] 0 1 mu h (Nat.lt_succ_self _) hv (Nat.zero_le _) hP hg ha (FN_rfl mu)

set_option maxRecDepth 100000 in
set_option maxHeartbeats 2000000 in
theorem c_starts (d : Nat) {g : List Ed} {a s : Nat} {mu : Nat → Nat → Int32} (h : Int64) (hs : s < 8) : gd_G mX9_starts d [.ref 22, .int (nI s)] mu h (fun r mu' _ => r = none ∧ SPx g a s [] mu' ∧ FN mu mu') := by
  refine gd_of rfl (Nat.le_of_ble_eq_true rfl) ?_
  show rn_R none mX9_starts d 0 [some (.ref 22), some (.int (nI s))] [] mu h (fun r mu' _ => r = none ∧ SPx g a s [] mu' ∧ FN mu mu')
  refine rn_aload_n 1 dX9_starts_0 rfl rfl rfl ?_
  refine rn_iconst (v := 0) 2 dX9_starts_1 (by decide) rfl ?_
  refine rn_put 5 dX9_starts_2 fp_X9_138 rfl rfl rfl rfl rfl ?_
  refine rn_aload_n 6 dX9_starts_5 rfl rfl rfl ?_
  refine rn_iconst (v := 0) 7 dX9_starts_6 (by decide) rfl ?_
  refine rn_put 10 dX9_starts_7 fp_X9_141 rfl rfl rfl rfl rfl ?_
  refine rn_aload_n 11 dX9_starts_10 rfl rfl rfl ?_
  refine rn_iconst (v := 1) 12 dX9_starts_11 (by decide) rfl ?_
  refine rn_iload_n 13 dX9_starts_12 rfl rfl rfl ?_
  refine rn_ishl 14 dX9_starts_13 rfl ?_
  rw [nb_1 (by omega)]
  refine rn_put 17 dX9_starts_14 fp_X9_144 rfl rfl rfl rfl rfl ?_
  exact rn_vret rfl dX9_starts_17 (⟨rfl, ⟨by simp [mu_s, upd]; rfl, by simp [mu_s, upd]; rfl, by simp [mu_s, upd]; rfl, trivial⟩, fun c h1 h2 => by simp [mu_s, h1], fun j h1 h2 h3 => by simp [mu_s, upd, h1, h2, h3]⟩)
