/-! THE TEXT: the reference's fault, the whole -/
theorem fNode_sk {tx : List Nat} {p : Nat} (hp : p ≤ tx.length) : fNode tx (sk tx p) = fNode tx p := by unfold fNode; rw [sk_sk hp]
theorem fOther_sk {tx : List Nat} {a p : Nat} (hp : p ≤ tx.length) : fOther tx a (sk tx p) = fOther tx a p := by unfold fOther; rw [fNode_sk hp]
theorem fNum_sk {tx : List Nat} {p : Nat} (hp : p ≤ tx.length) : fNum tx (sk tx p) = fNum tx p := by unfold fNum; rw [sk_sk hp]
theorem fSign_at {tx : List Nat} {c p : Nat} : fSign tx c p = if tx[sk tx p]? = some c then (true, sk tx p + 1) else (false, sk tx p) := rfl
theorem nd_ch {tx : List Nat} (ht : ∀ b ∈ tx, b < 128) {p : Nat} (h1 : ¬ lt tx p - 97 < 0) (h2 : ¬ 7 < lt tx p - 97) : ∃ b, tx[p]? = some b ∧ 97 ≤ b ∧ b ≤ 104 ∧ lt tx p - 97 = nI (b - 97) := by
  cases hb : tx[p]? with
  | none => rw [lt_none hb] at h1; exact absurd (by decide) h1
  | some b =>
    have hl := ht b (List.mem_of_getElem? hb)
    rw [lt_some hb] at h1 h2 ⊢
    rcases Nat.lt_or_ge b 97 with q | q
    · exact absurd (pk_sneg (b := 97) (by omega) q) h1
    · rw [show (97 : Int32) = nI 97 from rfl, pk_sub q] at h2 ⊢
      refine ⟨b, rfl, q, ?_, rfl⟩
      rcases Nat.lt_or_ge 104 b with w | w
      · exact absurd (nI_lt (a := 7) (by omega) (by omega)) h2
      · exact w
theorem fNode_some {tx : List Nat} {p a : Nat} (hsk : sk tx p = p) (h : (fNode tx p).1 = some a) : ∃ b, tx[p]? = some b ∧ 97 ≤ b ∧ b ≤ 104 ∧ a = b - 97 ∧ (fNode tx p).2 = p + 1 := by
  unfold fNode at h ⊢
  rw [hsk] at h ⊢
  cases hb : tx[p]? with
  | none => rw [hb] at h; cases h
  | some b =>
    rw [hb] at h
    simp only at h ⊢
    by_cases q : 97 ≤ b ∧ b ≤ 104
    · rw [if_pos q] at h ⊢; cases h; exact ⟨b, rfl, q.1, q.2, rfl, rfl⟩
    · rw [if_neg q] at h; cases h
theorem fNode_none {tx : List Nat} (ht : ∀ b ∈ tx, b < 128) {p : Nat} (hsk : sk tx p = p) (h : (fNode tx p).1 = none) : (fNode tx p).2 = p ∧ ∀ bt : Int32, (¬ lt tx p - 97 < 0 → ¬ 7 < lt tx p - 97 → lt tx p - 97 = bt) := by
  constructor
  · unfold fNode at h ⊢
    rw [hsk] at h ⊢
    cases hb : tx[p]? with
    | none => rfl
    | some b =>
      rw [hb] at h
      simp only at h ⊢
      by_cases q : 97 ≤ b ∧ b ≤ 104
      · rw [if_pos q] at h; cases h
      · rw [if_neg q]
  · intro bt h1 h2
    obtain ⟨b, hb, q1, q2, -⟩ := nd_ch ht h1 h2
    unfold fNode at h
    rw [hsk, hb] at h
    simp only at h
    rw [if_pos ⟨q1, q2⟩] at h
    cases h
theorem fOther_some {tx : List Nat} {p a b : Nat} (hsk : sk tx p = p) (h : (fOther tx a p).1 = some b) : ∃ c, tx[p]? = some c ∧ 97 ≤ c ∧ c ≤ 104 ∧ b = c - 97 ∧ b ≠ a ∧ (fOther tx a p).2 = p + 1 := by
  unfold fOther at h ⊢
  cases e : (fNode tx p).1 with
  | none => rw [e] at h; cases h
  | some z =>
    rw [e] at h
    simp only at h ⊢
    obtain ⟨c, q1, q2, q3, q4, q5⟩ := fNode_some hsk e
    by_cases q : z = a
    · rw [if_pos q] at h; cases h
    · rw [if_neg q] at h ⊢; cases h; exact ⟨c, q1, q2, q3, q4, q, q5⟩
theorem fOther_none {tx : List Nat} (ht : ∀ b ∈ tx, b < 128) {p a : Nat} (hsk : sk tx p = p) (h : (fOther tx a p).1 = none) : (fOther tx a p).2 = p ∧ (¬ lt tx p - 97 < 0 → ¬ 7 < lt tx p - 97 → lt tx p - 97 = nI a) := by
  unfold fOther at h ⊢
  cases e : (fNode tx p).1 with
  | none =>
    have := fNode_none ht hsk e
    exact ⟨this.1, this.2 _⟩
  | some z =>
    rw [e] at h
    simp only at h ⊢
    obtain ⟨c, q1, q2, q3, q4, q5⟩ := fNode_some hsk e
    by_cases q : z = a
    · rw [if_pos q] at h ⊢
      subst q
      refine ⟨by rw [q5]; rfl, fun _ _ => ?_⟩
      rw [lt_some q1, q4, show (97 : Int32) = nI 97 from rfl, pk_sub q2]
    · rw [if_neg q] at h; cases h
theorem fNum_at {tx : List Nat} {p : Nat} (hsk : sk tx p = p) (h : (fNum tx p).1 = none) : (fNum tx p).2 = p ∧ dgN tx p = none := by
  have q := (fNum_none hsk).mp h
  refine ⟨?_, q⟩
  unfold fNum
  rw [hsk, q]
theorem fCost_some {tx : List Nat} {p c : Nat} (h : (fCost tx p).1 = some c) : dgN tx (sk tx p) = some c ∧ 1 ≤ c ∧ (fCost tx p).2 = sk tx p + 1 := by
  unfold fCost at h ⊢
  cases e : dgN tx (sk tx p) with
  | none => rw [e] at h; cases h
  | some z =>
    rw [e] at h
    cases z with
    | zero => cases h
    | succ k => cases h; exact ⟨rfl, by omega, rfl⟩
theorem fCost_none {tx : List Nat} (ht : ∀ b ∈ tx, b < 128) {p : Nat} (h : (fCost tx p).1 = none) : (fCost tx p).2 = sk tx p ∧ (lt tx (sk tx p) - 48 < 1 ∨ 9 < lt tx (sk tx p) - 48) := by
  unfold fCost at h ⊢
  cases e : dgN tx (sk tx p) with
  | none =>
    refine ⟨rfl, ?_⟩
    cases hb : tx[sk tx p]? with
    | none => rw [lt_none hb]; exact Or.inl (by decide)
    | some b =>
      have hl := ht b (List.mem_of_getElem? hb)
      rw [lt_some hb]
      unfold dgN at e
      rw [hb] at e
      simp only at e
      rcases Nat.lt_or_ge b 48 with q | q
      · exact Or.inl (Int32.lt_trans (pk_sneg (b := 48) (by omega) q) (by decide))
      · rcases Nat.lt_or_ge 57 b with w | w
        · rw [show (48 : Int32) = nI 48 from rfl, pk_sub q]; exact Or.inr (nI_lt (a := 9) (by omega) (by omega))
        · rw [if_pos ⟨q, w⟩] at e; cases e
  | some z =>
    rw [e] at h
    cases z with
    | zero =>
      refine ⟨rfl, Or.inl ?_⟩
      rw [lt_dg e, show (48 : Int32) = nI 48 from rfl, pk_sub (by omega)]
      decide
    | succ k => cases h

set_option maxRecDepth 100000 in
set_option maxHeartbeats 4000000 in
theorem lp_mfault (d : Nat) {tx : List Nat} (mu0 : Nat → Nat → Int32) : ∀ (k e p : Nat) (acc : List Ed) (m : Nat → Nat → Int32) (h : Int64), e + k = 16 → acc.length = e → p ≤ tx.length → sk tx p = p → FM tx mu0 p 1 e m → m5 acc (m 26) → rn_R none mX9_fault (d + 5) 19 [some (.ref 22)] [] m h (QM mu0 (scF tx (k + 1) p acc)) := by
  intro k
  induction k with
  | zero =>
    intro e p acc m h hek hac hp hsk hF hrow
    obtain ⟨k1, k2, k3, k4, k5, k6⟩ := id hF
    have h110 := k1.1
    by_cases q1 : tx.length ≤ p
    · skip
      have ez : scF tx (0 + 1) p acc = (none, acc) := by simp only [scF]; rw [if_pos q1]
      rw [ez]
      refine rn_aload_n 20 dX9_fault_19 rfl rfl rfl ?_
      refine rn_get 23 (.int (m 22 9)) dX9_fault_20 fl_X9_83 rfl rfl rfl rfl ?_
      refine rn_if_eq 183 26 dX9_fault_23 (by decide) rfl (fun c23 => absurd c23 (by rw [k3]; decide)) (fun _ => ?_)
      refine rn_aload_n 27 dX9_fault_26 rfl rfl rfl ?_
      refine rn_get 30 (.int (m 22 8)) dX9_fault_27 fl_X9_73 rfl rfl rfl rfl ?_
      refine rn_aload_n 31 dX9_fault_30 rfl rfl rfl ?_
      refine rn_get 34 (.int (m 22 5)) dX9_fault_31 fl_X9_70 rfl rfl rfl rfl ?_
      refine rn_icmp_ge 183 37 dX9_fault_34 (by decide) rfl (fun _ => ?_) (fun c34 => absurd (by rw [k2, k1.2.1]; exact nI_le q1 (by omega)) c34)
      refine rn_aload_n 184 dX9_fault_183 rfl rfl rfl ?_
      refine rn_get 187 (.int (m 22 9)) dX9_fault_184 fl_X9_83 rfl rfl rfl rfl ?_
      refine rn_if_eq 194 190 dX9_fault_187 (by decide) rfl (fun c187 => absurd c187 (by rw [k3]; decide)) (fun _ => ?_)
      refine rn_iconst (v := (-1)) 191 dX9_fault_190 (by decide) rfl ?_
      refine rn_goto 198 dX9_fault_191 (by decide) ?_
      exact rn_iret rfl dX9_fault_198 (⟨rfl, k5, k6, fun _ => ⟨by rw [k4, hac], hrow⟩⟩)
    · skip
      have ez : scF tx (0 + 1) p acc = (some p, acc) := by simp only [scF]; rw [if_neg q1, if_pos (by omega)]
      rw [ez]
      refine rn_aload_n 20 dX9_fault_19 rfl rfl rfl ?_
      refine rn_get 23 (.int (m 22 9)) dX9_fault_20 fl_X9_83 rfl rfl rfl rfl ?_
      refine rn_if_eq 183 26 dX9_fault_23 (by decide) rfl (fun c23 => absurd c23 (by rw [k3]; decide)) (fun _ => ?_)
      refine rn_aload_n 27 dX9_fault_26 rfl rfl rfl ?_
      refine rn_get 30 (.int (m 22 8)) dX9_fault_27 fl_X9_73 rfl rfl rfl rfl ?_
      refine rn_aload_n 31 dX9_fault_30 rfl rfl rfl ?_
      refine rn_get 34 (.int (m 22 5)) dX9_fault_31 fl_X9_70 rfl rfl rfl rfl ?_
      refine rn_icmp_ge 183 37 dX9_fault_34 (by decide) rfl (fun c34 => absurd c34 (by rw [k2, k1.2.1]; exact nI_ge (by omega) (by omega))) (fun _ => ?_)
      refine rn_aload_n 38 dX9_fault_37 rfl rfl rfl ?_
      refine rn_aload_n 39 dX9_fault_38 rfl rfl rfl ?_
      refine rn_get 42 (.int (m 22 7)) dX9_fault_39 fl_X9_98 rfl rfl rfl rfl ?_
      refine rn_bipush (v := 16) 44 dX9_fault_42 (by decide) rfl ?_
      refine rn_icmp_ge 51 47 dX9_fault_44 (by decide) rfl (fun _ => ?_) (fun c44 => absurd (by rw [k4]; exact nI_le (a := 16) (by omega) (by omega)) c44)
      refine rn_iconst (v := 0) 52 dX9_fault_51 (by decide) rfl ?_
      refine rn_put 55 dX9_fault_52 fp_X9_83 rfl rfl rfl rfl rfl ?_
      refine rn_aload_n 56 dX9_fault_55 rfl rfl rfl ?_
      refine rn_get 59 (.int (0)) dX9_fault_56 fl_X9_83 rfl rfl rfl rfl ?_
      refine rn_if_eq 19 62 dX9_fault_59 (by decide) rfl (fun _ => ?_) (fun c59 => absurd (rfl) c59)
      exact tl_19 d hp (by omega) _ h (FM_9 hF 0)
  | succ k ih =>
    intro e p acc m h hek hac hp hsk hF hrow
    obtain ⟨k1, k2, k3, k4, k5, k6⟩ := id hF
    have h110 := k1.1
    by_cases q1 : tx.length ≤ p
    · skip
      have ez : scF tx ((k + 1) + 1) p acc = (none, acc) := by simp only [scF]; rw [if_pos q1]
      rw [ez]
      refine rn_aload_n 20 dX9_fault_19 rfl rfl rfl ?_
      refine rn_get 23 (.int (m 22 9)) dX9_fault_20 fl_X9_83 rfl rfl rfl rfl ?_
      refine rn_if_eq 183 26 dX9_fault_23 (by decide) rfl (fun c23 => absurd c23 (by rw [k3]; decide)) (fun _ => ?_)
      refine rn_aload_n 27 dX9_fault_26 rfl rfl rfl ?_
      refine rn_get 30 (.int (m 22 8)) dX9_fault_27 fl_X9_73 rfl rfl rfl rfl ?_
      refine rn_aload_n 31 dX9_fault_30 rfl rfl rfl ?_
      refine rn_get 34 (.int (m 22 5)) dX9_fault_31 fl_X9_70 rfl rfl rfl rfl ?_
      refine rn_icmp_ge 183 37 dX9_fault_34 (by decide) rfl (fun _ => ?_) (fun c34 => absurd (by rw [k2, k1.2.1]; exact nI_le q1 (by omega)) c34)
      refine rn_aload_n 184 dX9_fault_183 rfl rfl rfl ?_
      refine rn_get 187 (.int (m 22 9)) dX9_fault_184 fl_X9_83 rfl rfl rfl rfl ?_
      refine rn_if_eq 194 190 dX9_fault_187 (by decide) rfl (fun c187 => absurd c187 (by rw [k3]; decide)) (fun _ => ?_)
      refine rn_iconst (v := (-1)) 191 dX9_fault_190 (by decide) rfl ?_
      refine rn_goto 198 dX9_fault_191 (by decide) ?_
      exact rn_iret rfl dX9_fault_198 (⟨rfl, k5, k6, fun _ => ⟨by rw [k4, hac], hrow⟩⟩)
    · skip
      have hf := fEdge_ok hp
      refine rn_aload_n 20 dX9_fault_19 rfl rfl rfl ?_
      refine rn_get 23 (.int (m 22 9)) dX9_fault_20 fl_X9_83 rfl rfl rfl rfl ?_
      refine rn_if_eq 183 26 dX9_fault_23 (by decide) rfl (fun c23 => absurd c23 (by rw [k3]; decide)) (fun _ => ?_)
      refine rn_aload_n 27 dX9_fault_26 rfl rfl rfl ?_
      refine rn_get 30 (.int (m 22 8)) dX9_fault_27 fl_X9_73 rfl rfl rfl rfl ?_
      refine rn_aload_n 31 dX9_fault_30 rfl rfl rfl ?_
      refine rn_get 34 (.int (m 22 5)) dX9_fault_31 fl_X9_70 rfl rfl rfl rfl ?_
      refine rn_icmp_ge 183 37 dX9_fault_34 (by decide) rfl (fun c34 => absurd c34 (by rw [k2, k1.2.1]; exact nI_ge (by omega) (by omega))) (fun _ => ?_)
      refine rn_aload_n 38 dX9_fault_37 rfl rfl rfl ?_
      refine rn_aload_n 39 dX9_fault_38 rfl rfl rfl ?_
      refine rn_get 42 (.int (m 22 7)) dX9_fault_39 fl_X9_98 rfl rfl rfl rfl ?_
      refine rn_bipush (v := 16) 44 dX9_fault_42 (by decide) rfl ?_
      refine rn_icmp_ge 51 47 dX9_fault_44 (by decide) rfl (fun c44 => absurd c44 (by rw [k4]; exact nI_ge (b := 16) (by omega) (by omega))) (fun _ => ?_)
      refine rn_iconst (v := 1) 48 dX9_fault_47 (by decide) rfl ?_
      refine rn_goto 52 dX9_fault_48 (by decide) ?_
      refine rn_put 55 dX9_fault_52 fp_X9_83 rfl rfl rfl rfl rfl ?_
      rw [mu_same k3]
      refine rn_aload_n 56 dX9_fault_55 rfl rfl rfl ?_
      refine rn_get 59 (.int (m 22 9)) dX9_fault_56 fl_X9_83 rfl rfl rfl rfl ?_
      refine rn_if_eq 19 62 dX9_fault_59 (by decide) rfl (fun c59 => absurd c59 (by rw [k3]; decide)) (fun _ => ?_)
      refine rn_aload_n 63 dX9_fault_62 rfl rfl rfl ?_
      refine rn_get 66 (.ref 26) dX9_fault_63 fl_X9_23 rfl rfl rfl rfl ?_
      refine rn_iconst (v := 5) 67 dX9_fault_66 (by decide) rfl ?_
      refine rn_aload_n 68 dX9_fault_67 rfl rfl rfl ?_
      refine rn_get 71 (.int (m 22 7)) dX9_fault_68 fl_X9_98 rfl rfl rfl rfl ?_
      refine rn_imul 72 dX9_fault_71 rfl ?_
      refine rn_aload_n 73 dX9_fault_72 rfl rfl rfl ?_
      refine rn_iconst (v := (-1)) 74 dX9_fault_73 (by decide) rfl ?_
      rw [show 5 * (m 22 7) = nI (5 * e + 0) by rw [k4, show (5 : Int32) = nI 5 from rfl, pk_mul]; rfl]
      have hf1 := fNode_le hp
      cases e1 : (fNode tx p).1 with
      | none =>
        have z1 := fNode_none k1.2.2.1 hsk e1
        have ef : fEdge tx p = (none, p) := by unfold fEdge; simp only [e1, z1.1]
        have ez : scF tx ((k + 1) + 1) p acc = (some (p), acc) := by rw [scF, if_neg q1, if_neg (by omega), ef]
        rw [ez]
        refine rn_cvj mX9_node [.int (-1)] [.int (nI (5 * e + 0)), .ref 26] 77 (mu_s m 22 9 0) dX9_fault_74 cv_X9_101 rfl rfl rfl (by simp [Value.category]) rfl (c_node_f (d + 1) h k1 k2 hp (Or.inr (z1.2 _))) (fun v => ?_)
        exact tl_77 d hp (by omega) _ h v (FM_9 hF 0)
      | some a =>
        have k7 := (hf1.2 a e1).1
        obtain ⟨b1, w1, w2, w3, w4, w5⟩ := fNode_some hsk e1
        have hl1 : p < tx.length := (List.getElem?_eq_some_iff.mp w1).1
        have hc1 := c_node_t (d + 1) h k1 k2 hp k3 w1 w2 w3 (bt := -1) (fun z => absurd (by rw [z]; decide) (nI_pos (n := b1 - 97) (by omega)))
        rw [← w4, ← w5] at hc1
        have F1 := FM_26 (FM_8 hF (sk tx (fNode tx p).2)) (5 * e + 0) (nI a)
        have hs1 := sk_le hf1.1
        have hk1 := sk_sk hf1.1
        refine rn_cvm mX9_node [.int (-1)] [.int (nI (5 * e + 0)), .ref 26] 77 (some (.int (nI a))) (mu_s m 22 8 (nI (sk tx (fNode tx p).2))) dX9_fault_74 cv_X9_101 rfl rfl rfl (by simp [Value.category]) rfl (hc1) ?_
        refine rn_iast 78 dX9_fault_77 rfl (vp_in_nI (by omega) (by omega)) rfl ?_
        rw [nI_clamp (by omega)]
        refine rn_aload_n 79 dX9_fault_78 rfl rfl rfl ?_
        refine rn_get 82 (.ref 26) dX9_fault_79 fl_X9_23 rfl rfl rfl rfl ?_
        refine rn_iconst (v := 5) 83 dX9_fault_82 (by decide) rfl ?_
        refine rn_aload_n 84 dX9_fault_83 rfl rfl rfl ?_
        refine rn_get 87 (.int (m 22 7)) dX9_fault_84 fl_X9_98 rfl rfl rfl rfl ?_
        refine rn_imul 88 dX9_fault_87 rfl ?_
        refine rn_iconst (v := 1) 89 dX9_fault_88 (by decide) rfl ?_
        refine rn_iadd 90 dX9_fault_89 rfl ?_
        rw [show (5 * (m 22 7)) + 1 = nI (5 * e + 1) by rw [k4, show (5 : Int32) = nI 5 from rfl, pk_mul]; exact nI_add _ 1]
        refine rn_aload_n 91 dX9_fault_90 rfl rfl rfl ?_
        refine rn_aload_n 92 dX9_fault_91 rfl rfl rfl ?_
        refine rn_get 95 (.ref 26) dX9_fault_92 fl_X9_23 rfl rfl rfl rfl ?_
        refine rn_iconst (v := 5) 96 dX9_fault_95 (by decide) rfl ?_
        refine rn_aload_n 97 dX9_fault_96 rfl rfl rfl ?_
        refine rn_get 100 (.int (m 22 7)) dX9_fault_97 fl_X9_98 rfl rfl rfl rfl ?_
        refine rn_imul 101 dX9_fault_100 rfl ?_
        rw [show 5 * (m 22 7) = nI (5 * e + 0) by rw [k4, show (5 : Int32) = nI 5 from rfl, pk_mul]; rfl]
        refine rn_iald 102 (nI a) dX9_fault_101 rfl (vp_in_nI (by omega) (by omega)) (by rw [nI_clamp (by omega)]; exact pk_us) rfl ?_
        have hf2 := fOther_le (a := a) hf1.1
        have ok2 := fOther_sk (a := a) hf1.1
        cases e2 : (fOther tx a (fNode tx p).2).1 with
        | none =>
          have z2 := fOther_none k1.2.2.1 hk1 (by rw [ok2]; exact e2)
          rw [ok2] at z2
          have ef : fEdge tx p = (none, sk tx (fNode tx p).2) := by unfold fEdge; simp only [e1, e2, z2.1]
          have ez : scF tx ((k + 1) + 1) p acc = (some (sk tx (fNode tx p).2), acc) := by rw [scF, if_neg q1, if_neg (by omega), ef]
          rw [ez]
          refine rn_cvj mX9_node [.int (nI a)] [.int (nI (5 * e + 1)), .ref 26] 105 (mu_s (mu_s (mu_s m 22 8 (nI (sk tx (fNode tx p).2))) 26 (5 * e + 0) (nI a)) 22 9 0) dX9_fault_102 cv_X9_101 rfl rfl rfl (by simp [Value.category]) rfl (c_node_f (d + 1) (mu := mu_s (mu_s m 22 8 (nI (sk tx (fNode tx p).2))) 26 (5 * e + 0) (nI a)) h F1.1 rfl hs1.2 (Or.inr z2.2)) (fun v => ?_)
          exact tl_105 d hs1.2 (by omega) _ h v (FM_9 F1 0)
        | some b =>
          have k8 := (hf2.2 b e2).1
          obtain ⟨b2, w6, w7, w8, w9, w10, w11⟩ := fOther_some hk1 (by rw [ok2]; exact e2)
          rw [ok2] at w11
          have hc2 := c_node_t (d + 1) (mu := mu_s (mu_s m 22 8 (nI (sk tx (fNode tx p).2))) 26 (5 * e + 0) (nI a)) h F1.1 rfl hs1.2 k3 w6 w7 w8 (bt := nI a) (fun z => w10 (by rw [w9]; exact (nI_eq (by omega) (by omega)).mp z))
          rw [← w9, ← w11] at hc2
          have F2 := FM_26 (FM_8 F1 (sk tx (fOther tx a (fNode tx p).2).2)) (5 * e + 1) (nI b)
          have hs2 := sk_le hf2.1
          have hk2 := sk_sk hf2.1
          refine rn_cvm mX9_node [.int (nI a)] [.int (nI (5 * e + 1)), .ref 26] 105 (some (.int (nI b))) (mu_s (mu_s (mu_s m 22 8 (nI (sk tx (fNode tx p).2))) 26 (5 * e + 0) (nI a)) 22 8 (nI (sk tx (fOther tx a (fNode tx p).2).2))) dX9_fault_102 cv_X9_101 rfl rfl rfl (by simp [Value.category]) rfl (hc2) ?_
          refine rn_iast 106 dX9_fault_105 rfl (vp_in_nI (by omega) (by omega)) rfl ?_
          rw [nI_clamp (by omega)]
          refine rn_aload_n 107 dX9_fault_106 rfl rfl rfl ?_
          refine rn_get 110 (.ref 26) dX9_fault_107 fl_X9_23 rfl rfl rfl rfl ?_
          refine rn_iconst (v := 5) 111 dX9_fault_110 (by decide) rfl ?_
          refine rn_aload_n 112 dX9_fault_111 rfl rfl rfl ?_
          refine rn_get 115 (.int (m 22 7)) dX9_fault_112 fl_X9_98 rfl rfl rfl rfl ?_
          refine rn_imul 116 dX9_fault_115 rfl ?_
          refine rn_iconst (v := 2) 117 dX9_fault_116 (by decide) rfl ?_
          refine rn_iadd 118 dX9_fault_117 rfl ?_
          rw [show (5 * (m 22 7)) + 2 = nI (5 * e + 2) by rw [k4, show (5 : Int32) = nI 5 from rfl, pk_mul]; exact nI_add _ 2]
          refine rn_aload_n 119 dX9_fault_118 rfl rfl rfl ?_
          refine rn_iconst (v := 0) 120 dX9_fault_119 (by decide) rfl ?_
          have hf3 := fNum_le hf2.1
          have ok3 := fNum_sk hf2.1
          cases e3 : (fNum tx (fOther tx a (fNode tx p).2).2).1 with
          | none =>
            have z3 := fNum_at hk2 (by rw [ok3]; exact e3)
            rw [ok3] at z3
            have ef : fEdge tx p = (none, sk tx (fOther tx a (fNode tx p).2).2) := by unfold fEdge; simp only [e1, e2, e3, z3.1]
            have ez : scF tx ((k + 1) + 1) p acc = (some (sk tx (fOther tx a (fNode tx p).2).2), acc) := by rw [scF, if_neg q1, if_neg (by omega), ef]
            rw [ez]
            refine rn_cvm mX9_number [.int 0] [.int (nI (5 * e + 2)), .ref 26] 123 (some (.int 0)) (mu_s (mu_s (mu_s (mu_s (mu_s m 22 8 (nI (sk tx (fNode tx p).2))) 26 (5 * e + 0) (nI a)) 22 8 (nI (sk tx (fOther tx a (fNode tx p).2).2))) 26 (5 * e + 1) (nI b)) 22 9 0) dX9_fault_120 cv_X9_94 rfl rfl rfl (by simp [Value.category]) rfl (c_num_f (d + 1) (mu := mu_s (mu_s (mu_s (mu_s m 22 8 (nI (sk tx (fNode tx p).2))) 26 (5 * e + 0) (nI a)) 22 8 (nI (sk tx (fOther tx a (fNode tx p).2).2))) 26 (5 * e + 1) (nI b)) h F2.1 rfl hs2.2 (Or.inr z3.2)) ?_
            exact tl_123 d hs2.2 (by omega) _ h 0 (FM_9 F2 0)
          | some l =>
            have hc3 := c_number_0 (d + 1) (mu := mu_s (mu_s (mu_s (mu_s m 22 8 (nI (sk tx (fNode tx p).2))) 26 (5 * e + 0) (nI a)) 22 8 (nI (sk tx (fOther tx a (fNode tx p).2).2))) 26 (5 * e + 1) (nI b)) h F2.1 rfl hs2.2 k3 hk2 (v := l) (by rw [ok3]; exact e3)
            rw [ok3] at hc3
            have F3 := FM_26 (FM_8 F2 (sk tx (fNum tx (fOther tx a (fNode tx p).2).2).2)) (5 * e + 2) (nI l)
            have hs3 := sk_le hf3.1
            have hf4 := fSign_le (c := 43) hf3.1
            refine rn_cvm mX9_number [.int 0] [.int (nI (5 * e + 2)), .ref 26] 123 (some (.int (nI l))) (mu_s (mu_s (mu_s (mu_s (mu_s m 22 8 (nI (sk tx (fNode tx p).2))) 26 (5 * e + 0) (nI a)) 22 8 (nI (sk tx (fOther tx a (fNode tx p).2).2))) 26 (5 * e + 1) (nI b)) 22 8 (nI (sk tx (fNum tx (fOther tx a (fNode tx p).2).2).2))) dX9_fault_120 cv_X9_94 rfl rfl rfl (by simp [Value.category]) rfl (hc3) ?_
            refine rn_iast 124 dX9_fault_123 rfl (vp_in_nI (by omega) (by omega)) rfl ?_
            rw [nI_clamp (by omega)]
            refine rn_aload_n 125 dX9_fault_124 rfl rfl rfl ?_
            refine rn_bipush (v := 43) 127 dX9_fault_125 (by decide) rfl ?_
            by_cases e4 : tx[sk tx (fNum tx (fOther tx a (fNode tx p).2).2).2]? = some 43
            · skip
              have e5 : fSign tx 43 (fNum tx (fOther tx a (fNode tx p).2).2).2 = (true, sk tx (fNum tx (fOther tx a (fNode tx p).2).2).2 + 1) := if_pos e4
              rw [e5] at hf4
              simp only at hf4
              obtain ⟨q4, hq4⟩ : ∃ q4, q4 = sk tx (fNum tx (fOther tx a (fNode tx p).2).2).2 + 1 := ⟨_, rfl⟩
              have hc4 := c_sign_t (d + 1) (mu := mu_s (mu_s (mu_s (mu_s (mu_s (mu_s m 22 8 (nI (sk tx (fNode tx p).2))) 26 (5 * e + 0) (nI a)) 22 8 (nI (sk tx (fOther tx a (fNode tx p).2).2))) 26 (5 * e + 1) (nI b)) 22 8 (nI (sk tx (fNum tx (fOther tx a (fNode tx p).2).2).2))) 26 (5 * e + 2) (nI l)) h F3.1 rfl hs3.2 k3 (c := 43) (by omega) e4
              rw [← hq4] at hf4 e5 hc4
              have F4 := FM_8 F3 (sk tx q4)
              have hs4 := sk_le hf4
              have hk4 := sk_sk hf4
              refine rn_cvm mX9_sign [.int 43] [] 130 (none) (mu_s (mu_s (mu_s (mu_s (mu_s (mu_s (mu_s m 22 8 (nI (sk tx (fNode tx p).2))) 26 (5 * e + 0) (nI a)) 22 8 (nI (sk tx (fOther tx a (fNode tx p).2).2))) 26 (5 * e + 1) (nI b)) 22 8 (nI (sk tx (fNum tx (fOther tx a (fNode tx p).2).2).2))) 26 (5 * e + 2) (nI l)) 22 8 (nI (sk tx q4))) dX9_fault_127 cv_X9_105 rfl rfl rfl (by simp [Value.category]) rfl (hc4) ?_
              refine rn_aload_n 131 dX9_fault_130 rfl rfl rfl ?_
              refine rn_get 134 (.ref 26) dX9_fault_131 fl_X9_23 rfl rfl rfl rfl ?_
              refine rn_iconst (v := 5) 135 dX9_fault_134 (by decide) rfl ?_
              refine rn_aload_n 136 dX9_fault_135 rfl rfl rfl ?_
              refine rn_get 139 (.int (m 22 7)) dX9_fault_136 fl_X9_98 rfl rfl rfl rfl ?_
              refine rn_imul 140 dX9_fault_139 rfl ?_
              refine rn_iconst (v := 3) 141 dX9_fault_140 (by decide) rfl ?_
              refine rn_iadd 142 dX9_fault_141 rfl ?_
              rw [show (5 * (m 22 7)) + 3 = nI (5 * e + 3) by rw [k4, show (5 : Int32) = nI 5 from rfl, pk_mul]; exact nI_add _ 3]
              refine rn_aload_n 143 dX9_fault_142 rfl rfl rfl ?_
              have hf5 := fDelay_le hf4
              have ok5 := fNum_sk hf4
              have hn5 := fNum_le hf4
              by_cases e6 : tx[sk tx q4]? = some 120
              · skip
                have e7 : fDelay tx q4 = (some 100, sk tx q4 + 1) := by unfold fDelay; rw [show fSign tx 120 q4 = (true, sk tx q4 + 1) from if_pos e6]; rfl
                have hc5 := c_delay_x d (mu := mu_s (mu_s (mu_s (mu_s (mu_s (mu_s (mu_s m 22 8 (nI (sk tx (fNode tx p).2))) 26 (5 * e + 0) (nI a)) 22 8 (nI (sk tx (fOther tx a (fNode tx p).2).2))) 26 (5 * e + 1) (nI b)) 22 8 (nI (sk tx (fNum tx (fOther tx a (fNode tx p).2).2).2))) 26 (5 * e + 2) (nI l)) 22 8 (nI (sk tx q4))) h F4.1 rfl hs4.2 k3 e6
                rw [e7] at hf5
                simp only at hf5
                have F5 := FM_26 (FM_8 F4 (sk tx (sk tx q4 + 1))) (5 * e + 3) (nI 100)
                refine rn_cvm mX9_delay [] [.int (nI (5 * e + 3)), .ref 26] 146 (some (.int 100)) (mu_s (mu_s (mu_s (mu_s (mu_s (mu_s (mu_s (mu_s m 22 8 (nI (sk tx (fNode tx p).2))) 26 (5 * e + 0) (nI a)) 22 8 (nI (sk tx (fOther tx a (fNode tx p).2).2))) 26 (5 * e + 1) (nI b)) 22 8 (nI (sk tx (fNum tx (fOther tx a (fNode tx p).2).2).2))) 26 (5 * e + 2) (nI l)) 22 8 (nI (sk tx q4))) 22 8 (nI (sk tx (sk tx q4 + 1)))) dX9_fault_143 cv_X9_109 rfl rfl rfl (by simp [Value.category]) rfl (hc5) ?_
                have hs5 := sk_le hf5.1
                have hf6 := fSign_le (c := 58) hf5.1
                show rn_R _ mX9_fault _ 146 [some (.ref 22)] [.int (nI 100), .int (nI (5 * e + 3)), .ref 26] (mu_s (mu_s (mu_s (mu_s (mu_s (mu_s (mu_s (mu_s m 22 8 (nI (sk tx (fNode tx p).2))) 26 (5 * e + 0) (nI a)) 22 8 (nI (sk tx (fOther tx a (fNode tx p).2).2))) 26 (5 * e + 1) (nI b)) 22 8 (nI (sk tx (fNum tx (fOther tx a (fNode tx p).2).2).2))) 26 (5 * e + 2) (nI l)) 22 8 (nI (sk tx q4))) 22 8 (nI (sk tx (sk tx q4 + 1)))) h _
                refine rn_iast 147 dX9_fault_146 rfl (vp_in_nI (by omega) (by omega)) rfl ?_
                rw [nI_clamp (by omega)]
                refine rn_aload_n 148 dX9_fault_147 rfl rfl rfl ?_
                refine rn_bipush (v := 58) 150 dX9_fault_148 (by decide) rfl ?_
                by_cases e11 : tx[sk tx (sk tx q4 + 1)]? = some 58
                · skip
                  have e12 : fSign tx 58 (sk tx q4 + 1) = (true, sk tx (sk tx q4 + 1) + 1) := if_pos e11
                  rw [e12] at hf6
                  simp only at hf6
                  obtain ⟨q6, hq6⟩ : ∃ q6, q6 = sk tx (sk tx q4 + 1) + 1 := ⟨_, rfl⟩
                  have hc6 := c_sign_t (d + 1) (mu := mu_s (mu_s (mu_s (mu_s (mu_s (mu_s (mu_s (mu_s (mu_s m 22 8 (nI (sk tx (fNode tx p).2))) 26 (5 * e + 0) (nI a)) 22 8 (nI (sk tx (fOther tx a (fNode tx p).2).2))) 26 (5 * e + 1) (nI b)) 22 8 (nI (sk tx (fNum tx (fOther tx a (fNode tx p).2).2).2))) 26 (5 * e + 2) (nI l)) 22 8 (nI (sk tx q4))) 22 8 (nI (sk tx (sk tx q4 + 1)))) 26 (5 * e + 3) (nI 100)) h F5.1 rfl hs5.2 k3 (c := 58) (by omega) e11
                  rw [← hq6] at hf6 e12 hc6
                  have F6 := FM_8 F5 (sk tx q6)
                  have hs6 := sk_le hf6
                  refine rn_cvm mX9_sign [.int 58] [] 153 (none) (mu_s (mu_s (mu_s (mu_s (mu_s (mu_s (mu_s (mu_s (mu_s (mu_s m 22 8 (nI (sk tx (fNode tx p).2))) 26 (5 * e + 0) (nI a)) 22 8 (nI (sk tx (fOther tx a (fNode tx p).2).2))) 26 (5 * e + 1) (nI b)) 22 8 (nI (sk tx (fNum tx (fOther tx a (fNode tx p).2).2).2))) 26 (5 * e + 2) (nI l)) 22 8 (nI (sk tx q4))) 22 8 (nI (sk tx (sk tx q4 + 1)))) 26 (5 * e + 3) (nI 100)) 22 8 (nI (sk tx q6))) dX9_fault_150 cv_X9_105 rfl rfl rfl (by simp [Value.category]) rfl (hc6) ?_
                  refine rn_aload_n 154 dX9_fault_153 rfl rfl rfl ?_
                  refine rn_get 157 (.ref 26) dX9_fault_154 fl_X9_23 rfl rfl rfl rfl ?_
                  refine rn_iconst (v := 5) 158 dX9_fault_157 (by decide) rfl ?_
                  refine rn_aload_n 159 dX9_fault_158 rfl rfl rfl ?_
                  refine rn_get 162 (.int (m 22 7)) dX9_fault_159 fl_X9_98 rfl rfl rfl rfl ?_
                  refine rn_imul 163 dX9_fault_162 rfl ?_
                  refine rn_iconst (v := 4) 164 dX9_fault_163 (by decide) rfl ?_
                  refine rn_iadd 165 dX9_fault_164 rfl ?_
                  rw [show (5 * (m 22 7)) + 4 = nI (5 * e + 4) by rw [k4, show (5 : Int32) = nI 5 from rfl, pk_mul]; exact nI_add _ 4]
                  refine rn_aload_n 166 dX9_fault_165 rfl rfl rfl ?_
                  have hf7 := fCost_le hf6
                  cases e13 : (fCost tx q6).1 with
                  | none =>
                    have z7 := fCost_none k1.2.2.1 e13
                    have ef : fEdge tx p = (none, sk tx q6) := by unfold fEdge; simp only [e1, e2, e3, e5, e7, e12, e13, z7.1]
                    have ez : scF tx ((k + 1) + 1) p acc = (some (sk tx q6), acc) := by rw [scF, if_neg q1, if_neg (by omega), ef]
                    rw [ez]
                    refine rn_cvj mX9_digit [] [.int (nI (5 * e + 4)), .ref 26] 169 (mu_s (mu_s (mu_s (mu_s (mu_s (mu_s (mu_s (mu_s (mu_s (mu_s (mu_s m 22 8 (nI (sk tx (fNode tx p).2))) 26 (5 * e + 0) (nI a)) 22 8 (nI (sk tx (fOther tx a (fNode tx p).2).2))) 26 (5 * e + 1) (nI b)) 22 8 (nI (sk tx (fNum tx (fOther tx a (fNode tx p).2).2).2))) 26 (5 * e + 2) (nI l)) 22 8 (nI (sk tx q4))) 22 8 (nI (sk tx (sk tx q4 + 1)))) 26 (5 * e + 3) (nI 100)) 22 8 (nI (sk tx q6))) 22 9 0) dX9_fault_166 cv_X9_112 rfl rfl rfl (by simp [Value.category]) rfl (c_mdigit_f (d + 1) (mu := mu_s (mu_s (mu_s (mu_s (mu_s (mu_s (mu_s (mu_s (mu_s (mu_s m 22 8 (nI (sk tx (fNode tx p).2))) 26 (5 * e + 0) (nI a)) 22 8 (nI (sk tx (fOther tx a (fNode tx p).2).2))) 26 (5 * e + 1) (nI b)) 22 8 (nI (sk tx (fNum tx (fOther tx a (fNode tx p).2).2).2))) 26 (5 * e + 2) (nI l)) 22 8 (nI (sk tx q4))) 22 8 (nI (sk tx (sk tx q4 + 1)))) 26 (5 * e + 3) (nI 100)) 22 8 (nI (sk tx q6))) h F6.1 rfl hs6.2 (Or.inr z7.2)) (fun v => ?_)
                    exact tl_169 d hs6.2 (by omega) _ h v (FM_9 F6 0)
                  | some c =>
                    have z7 := fCost_some e13
                    have hc7 := c_mdigit_t (d + 1) (mu := mu_s (mu_s (mu_s (mu_s (mu_s (mu_s (mu_s (mu_s (mu_s (mu_s m 22 8 (nI (sk tx (fNode tx p).2))) 26 (5 * e + 0) (nI a)) 22 8 (nI (sk tx (fOther tx a (fNode tx p).2).2))) 26 (5 * e + 1) (nI b)) 22 8 (nI (sk tx (fNum tx (fOther tx a (fNode tx p).2).2).2))) 26 (5 * e + 2) (nI l)) 22 8 (nI (sk tx q4))) 22 8 (nI (sk tx (sk tx q4 + 1)))) 26 (5 * e + 3) (nI 100)) 22 8 (nI (sk tx q6))) h F6.1 rfl hs6.2 k3 z7.1 z7.2.1
                    rw [← z7.2.2] at hc7
                    have ef : fEdge tx p = (some (a, b, l, 100, c), (fCost tx q6).2) := by unfold fEdge; simp only [e1, e2, e3, e5, e7, e12, e13]
                    have ez : scF tx ((k + 1) + 1) p acc = scF tx (k + 1) (sk tx (fCost tx q6).2) (acc ++ [(a, b, l, 100, c)]) := by rw [scF, if_neg q1, if_neg (by omega), ef]
                    rw [ez]
                    have hrow2 := m5_app hrow (a, b, l, 100, c)
                    rw [hac] at hrow2
                    refine rn_cvm mX9_digit [] [.int (nI (5 * e + 4)), .ref 26] 169 (some (.int (nI c))) (mu_s (mu_s (mu_s (mu_s (mu_s (mu_s (mu_s (mu_s (mu_s (mu_s (mu_s m 22 8 (nI (sk tx (fNode tx p).2))) 26 (5 * e + 0) (nI a)) 22 8 (nI (sk tx (fOther tx a (fNode tx p).2).2))) 26 (5 * e + 1) (nI b)) 22 8 (nI (sk tx (fNum tx (fOther tx a (fNode tx p).2).2).2))) 26 (5 * e + 2) (nI l)) 22 8 (nI (sk tx q4))) 22 8 (nI (sk tx (sk tx q4 + 1)))) 26 (5 * e + 3) (nI 100)) 22 8 (nI (sk tx q6))) 22 8 (nI (sk tx (fCost tx q6).2))) dX9_fault_166 cv_X9_112 rfl rfl rfl (by simp [Value.category]) rfl (hc7) ?_
                    refine rn_iast 170 dX9_fault_169 rfl (vp_in_nI (by omega) (by omega)) rfl ?_
                    rw [nI_clamp (by omega)]
                    refine rn_aload_n 171 dX9_fault_170 rfl rfl rfl ?_
                    refine rn_dup 172 dX9_fault_171 rfl rfl ?_
                    refine rn_get 175 (.int (m 22 7)) dX9_fault_172 fl_X9_98 rfl rfl rfl rfl ?_
                    refine rn_iconst (v := 1) 176 dX9_fault_175 (by decide) rfl ?_
                    refine rn_iadd 177 dX9_fault_176 rfl ?_
                    rw [show m 22 7 + 1 = nI (e + 1) by rw [k4, nI_1]]
                    refine rn_put 180 dX9_fault_177 fp_X9_98 rfl rfl rfl rfl rfl ?_
                    refine rn_goto 19 dX9_fault_180 (by decide) ?_
                    exact ih (e + 1) _ _ _ h (by omega) (by simp; omega) (sk_le hf7.1).2 (sk_sk hf7.1) (FM_7 (FM_26 (FM_8 F6 _) _ _) (e + 1)) hrow2
                · skip
                  have e12 : fSign tx 58 (sk tx q4 + 1) = (false, sk tx (sk tx q4 + 1)) := if_neg e11
                  have ef : fEdge tx p = (none, sk tx (sk tx q4 + 1)) := by unfold fEdge; simp only [e1, e2, e3, e5, e7, e12]
                  have ez : scF tx ((k + 1) + 1) p acc = (some (sk tx (sk tx q4 + 1)), acc) := by rw [scF, if_neg q1, if_neg (by omega), ef]
                  rw [ez]
                  refine rn_cvm mX9_sign [.int 58] [] 153 (none) (mu_s (mu_s (mu_s (mu_s (mu_s (mu_s (mu_s (mu_s (mu_s (mu_s m 22 8 (nI (sk tx (fNode tx p).2))) 26 (5 * e + 0) (nI a)) 22 8 (nI (sk tx (fOther tx a (fNode tx p).2).2))) 26 (5 * e + 1) (nI b)) 22 8 (nI (sk tx (fNum tx (fOther tx a (fNode tx p).2).2).2))) 26 (5 * e + 2) (nI l)) 22 8 (nI (sk tx q4))) 22 8 (nI (sk tx (sk tx q4 + 1)))) 26 (5 * e + 3) (nI 100)) 22 9 0) dX9_fault_150 cv_X9_105 rfl rfl rfl (by simp [Value.category]) rfl (c_sign_f (d + 1) (mu := mu_s (mu_s (mu_s (mu_s (mu_s (mu_s (mu_s (mu_s (mu_s m 22 8 (nI (sk tx (fNode tx p).2))) 26 (5 * e + 0) (nI a)) 22 8 (nI (sk tx (fOther tx a (fNode tx p).2).2))) 26 (5 * e + 1) (nI b)) 22 8 (nI (sk tx (fNum tx (fOther tx a (fNode tx p).2).2).2))) 26 (5 * e + 2) (nI l)) 22 8 (nI (sk tx q4))) 22 8 (nI (sk tx (sk tx q4 + 1)))) 26 (5 * e + 3) (nI 100)) h F5.1 rfl hs5.2 (c := 58) (by omega) (Or.inr e11)) ?_
                  exact tl_153 d hs5.2 (by omega) _ h (FM_9 F5 0)
              · skip
                have e8 : fSign tx 120 q4 = (false, sk tx q4) := if_neg e6
                cases e9 : (fNum tx q4).1 with
                | none =>
                  have z5 := fNum_at hk4 (by rw [ok5]; exact e9)
                  rw [ok5] at z5
                  have e7 : fDelay tx q4 = (none, sk tx q4) := by unfold fDelay; rw [e8]; simp only [Bool.false_eq_true, if_false]; rw [ok5, if_neg (by rw [e9]; simp)]; exact Prod.ext e9 z5.1
                  have ef : fEdge tx p = (none, sk tx q4) := by unfold fEdge; simp only [e1, e2, e3, e5, e7]
                  have ez : scF tx ((k + 1) + 1) p acc = (some (sk tx q4), acc) := by rw [scF, if_neg q1, if_neg (by omega), ef]
                  rw [ez]
                  refine rn_cvm mX9_delay [] [.int (nI (5 * e + 3)), .ref 26] 146 (some (.int 0)) (mu_s (mu_s (mu_s (mu_s (mu_s (mu_s (mu_s (mu_s m 22 8 (nI (sk tx (fNode tx p).2))) 26 (5 * e + 0) (nI a)) 22 8 (nI (sk tx (fOther tx a (fNode tx p).2).2))) 26 (5 * e + 1) (nI b)) 22 8 (nI (sk tx (fNum tx (fOther tx a (fNode tx p).2).2).2))) 26 (5 * e + 2) (nI l)) 22 8 (nI (sk tx q4))) 22 9 0) dX9_fault_143 cv_X9_109 rfl rfl rfl (by simp [Value.category]) rfl (c_delay_f d (mu := mu_s (mu_s (mu_s (mu_s (mu_s (mu_s (mu_s m 22 8 (nI (sk tx (fNode tx p).2))) 26 (5 * e + 0) (nI a)) 22 8 (nI (sk tx (fOther tx a (fNode tx p).2).2))) 26 (5 * e + 1) (nI b)) 22 8 (nI (sk tx (fNum tx (fOther tx a (fNode tx p).2).2).2))) 26 (5 * e + 2) (nI l)) 22 8 (nI (sk tx q4))) h F4.1 rfl hs4.2 (Or.inr ⟨e6, z5.2⟩)) ?_
                  exact tl_146 d hs4.2 (by omega) _ h 0 (FM_9 F4 0)
                | some y0 =>
                  by_cases e10 : y0 = 0
                  · skip
                    subst e10
                    have hr5 := (hn5.2 0 e9).2
                    have e7 : fDelay tx q4 = (none, (fNum tx q4).2 - 1) := by unfold fDelay; rw [e8]; simp only [Bool.false_eq_true, if_false]; rw [ok5, if_pos e9]
                    have hc5 := c_delay_z d (mu := mu_s (mu_s (mu_s (mu_s (mu_s (mu_s (mu_s m 22 8 (nI (sk tx (fNode tx p).2))) 26 (5 * e + 0) (nI a)) 22 8 (nI (sk tx (fOther tx a (fNode tx p).2).2))) 26 (5 * e + 1) (nI b)) 22 8 (nI (sk tx (fNum tx (fOther tx a (fNode tx p).2).2).2))) 26 (5 * e + 2) (nI l)) 22 8 (nI (sk tx q4))) h F4.1 rfl hs4.2 k3 hk4 e6 (by rw [ok5]; exact e9)
                    rw [ok5] at hc5
                    have ef : fEdge tx p = (none, (fNum tx q4).2 - 1) := by unfold fEdge; simp only [e1, e2, e3, e5, e7]
                    have ez : scF tx ((k + 1) + 1) p acc = (some ((fNum tx q4).2 - 1), acc) := by rw [scF, if_neg q1, if_neg (by omega), ef]
                    rw [ez]
                    refine rn_cvm mX9_delay [] [.int (nI (5 * e + 3)), .ref 26] 146 (some (.int 0)) (mu_s (mu_s (mu_s (mu_s (mu_s (mu_s (mu_s (mu_s (mu_s m 22 8 (nI (sk tx (fNode tx p).2))) 26 (5 * e + 0) (nI a)) 22 8 (nI (sk tx (fOther tx a (fNode tx p).2).2))) 26 (5 * e + 1) (nI b)) 22 8 (nI (sk tx (fNum tx (fOther tx a (fNode tx p).2).2).2))) 26 (5 * e + 2) (nI l)) 22 8 (nI (sk tx q4))) 22 8 (nI ((fNum tx q4).2 - 1))) 22 9 0) dX9_fault_143 cv_X9_109 rfl rfl rfl (by simp [Value.category]) rfl (hc5) ?_
                    exact tl_146 d (q := (fNum tx q4).2 - 1) (by omega) (by omega) _ h 0 (FM_9 (FM_8 F4 _) 0)
                  · skip
                    have e7 : fDelay tx q4 = (some y0, (fNum tx q4).2) := by unfold fDelay; rw [e8]; simp only [Bool.false_eq_true, if_false]; rw [ok5, if_neg (by rw [e9]; simp [e10])]; exact Prod.ext e9 rfl
                    have hc5 := c_delay_n d (mu := mu_s (mu_s (mu_s (mu_s (mu_s (mu_s (mu_s m 22 8 (nI (sk tx (fNode tx p).2))) 26 (5 * e + 0) (nI a)) 22 8 (nI (sk tx (fOther tx a (fNode tx p).2).2))) 26 (5 * e + 1) (nI b)) 22 8 (nI (sk tx (fNum tx (fOther tx a (fNode tx p).2).2).2))) 26 (5 * e + 2) (nI l)) 22 8 (nI (sk tx q4))) h F4.1 rfl hs4.2 k3 hk4 e6 (v := y0) (by rw [ok5]; exact e9) e10
                    rw [ok5] at hc5
                    rw [e7] at hf5
                    simp only at hf5
                    have F5 := FM_26 (FM_8 F4 (sk tx ((fNum tx q4).2))) (5 * e + 3) (nI y0)
                    refine rn_cvm mX9_delay [] [.int (nI (5 * e + 3)), .ref 26] 146 (some (.int (nI y0))) (mu_s (mu_s (mu_s (mu_s (mu_s (mu_s (mu_s (mu_s m 22 8 (nI (sk tx (fNode tx p).2))) 26 (5 * e + 0) (nI a)) 22 8 (nI (sk tx (fOther tx a (fNode tx p).2).2))) 26 (5 * e + 1) (nI b)) 22 8 (nI (sk tx (fNum tx (fOther tx a (fNode tx p).2).2).2))) 26 (5 * e + 2) (nI l)) 22 8 (nI (sk tx q4))) 22 8 (nI (sk tx ((fNum tx q4).2)))) dX9_fault_143 cv_X9_109 rfl rfl rfl (by simp [Value.category]) rfl (hc5) ?_
                    have hs5 := sk_le hf5.1
                    have hf6 := fSign_le (c := 58) hf5.1
                    refine rn_iast 147 dX9_fault_146 rfl (vp_in_nI (by omega) (by omega)) rfl ?_
                    rw [nI_clamp (by omega)]
                    refine rn_aload_n 148 dX9_fault_147 rfl rfl rfl ?_
                    refine rn_bipush (v := 58) 150 dX9_fault_148 (by decide) rfl ?_
                    by_cases e11 : tx[sk tx ((fNum tx q4).2)]? = some 58
                    · skip
                      have e12 : fSign tx 58 ((fNum tx q4).2) = (true, sk tx ((fNum tx q4).2) + 1) := if_pos e11
                      rw [e12] at hf6
                      simp only at hf6
                      obtain ⟨q6, hq6⟩ : ∃ q6, q6 = sk tx ((fNum tx q4).2) + 1 := ⟨_, rfl⟩
                      have hc6 := c_sign_t (d + 1) (mu := mu_s (mu_s (mu_s (mu_s (mu_s (mu_s (mu_s (mu_s (mu_s m 22 8 (nI (sk tx (fNode tx p).2))) 26 (5 * e + 0) (nI a)) 22 8 (nI (sk tx (fOther tx a (fNode tx p).2).2))) 26 (5 * e + 1) (nI b)) 22 8 (nI (sk tx (fNum tx (fOther tx a (fNode tx p).2).2).2))) 26 (5 * e + 2) (nI l)) 22 8 (nI (sk tx q4))) 22 8 (nI (sk tx ((fNum tx q4).2)))) 26 (5 * e + 3) (nI y0)) h F5.1 rfl hs5.2 k3 (c := 58) (by omega) e11
                      rw [← hq6] at hf6 e12 hc6
                      have F6 := FM_8 F5 (sk tx q6)
                      have hs6 := sk_le hf6
                      refine rn_cvm mX9_sign [.int 58] [] 153 (none) (mu_s (mu_s (mu_s (mu_s (mu_s (mu_s (mu_s (mu_s (mu_s (mu_s m 22 8 (nI (sk tx (fNode tx p).2))) 26 (5 * e + 0) (nI a)) 22 8 (nI (sk tx (fOther tx a (fNode tx p).2).2))) 26 (5 * e + 1) (nI b)) 22 8 (nI (sk tx (fNum tx (fOther tx a (fNode tx p).2).2).2))) 26 (5 * e + 2) (nI l)) 22 8 (nI (sk tx q4))) 22 8 (nI (sk tx ((fNum tx q4).2)))) 26 (5 * e + 3) (nI y0)) 22 8 (nI (sk tx q6))) dX9_fault_150 cv_X9_105 rfl rfl rfl (by simp [Value.category]) rfl (hc6) ?_
                      refine rn_aload_n 154 dX9_fault_153 rfl rfl rfl ?_
                      refine rn_get 157 (.ref 26) dX9_fault_154 fl_X9_23 rfl rfl rfl rfl ?_
                      refine rn_iconst (v := 5) 158 dX9_fault_157 (by decide) rfl ?_
                      refine rn_aload_n 159 dX9_fault_158 rfl rfl rfl ?_
                      refine rn_get 162 (.int (m 22 7)) dX9_fault_159 fl_X9_98 rfl rfl rfl rfl ?_
                      refine rn_imul 163 dX9_fault_162 rfl ?_
                      refine rn_iconst (v := 4) 164 dX9_fault_163 (by decide) rfl ?_
                      refine rn_iadd 165 dX9_fault_164 rfl ?_
                      rw [show (5 * (m 22 7)) + 4 = nI (5 * e + 4) by rw [k4, show (5 : Int32) = nI 5 from rfl, pk_mul]; exact nI_add _ 4]
                      refine rn_aload_n 166 dX9_fault_165 rfl rfl rfl ?_
                      have hf7 := fCost_le hf6
                      cases e13 : (fCost tx q6).1 with
                      | none =>
                        have z7 := fCost_none k1.2.2.1 e13
                        have ef : fEdge tx p = (none, sk tx q6) := by unfold fEdge; simp only [e1, e2, e3, e5, e7, e12, e13, z7.1]
                        have ez : scF tx ((k + 1) + 1) p acc = (some (sk tx q6), acc) := by rw [scF, if_neg q1, if_neg (by omega), ef]
                        rw [ez]
                        refine rn_cvj mX9_digit [] [.int (nI (5 * e + 4)), .ref 26] 169 (mu_s (mu_s (mu_s (mu_s (mu_s (mu_s (mu_s (mu_s (mu_s (mu_s (mu_s m 22 8 (nI (sk tx (fNode tx p).2))) 26 (5 * e + 0) (nI a)) 22 8 (nI (sk tx (fOther tx a (fNode tx p).2).2))) 26 (5 * e + 1) (nI b)) 22 8 (nI (sk tx (fNum tx (fOther tx a (fNode tx p).2).2).2))) 26 (5 * e + 2) (nI l)) 22 8 (nI (sk tx q4))) 22 8 (nI (sk tx ((fNum tx q4).2)))) 26 (5 * e + 3) (nI y0)) 22 8 (nI (sk tx q6))) 22 9 0) dX9_fault_166 cv_X9_112 rfl rfl rfl (by simp [Value.category]) rfl (c_mdigit_f (d + 1) (mu := mu_s (mu_s (mu_s (mu_s (mu_s (mu_s (mu_s (mu_s (mu_s (mu_s m 22 8 (nI (sk tx (fNode tx p).2))) 26 (5 * e + 0) (nI a)) 22 8 (nI (sk tx (fOther tx a (fNode tx p).2).2))) 26 (5 * e + 1) (nI b)) 22 8 (nI (sk tx (fNum tx (fOther tx a (fNode tx p).2).2).2))) 26 (5 * e + 2) (nI l)) 22 8 (nI (sk tx q4))) 22 8 (nI (sk tx ((fNum tx q4).2)))) 26 (5 * e + 3) (nI y0)) 22 8 (nI (sk tx q6))) h F6.1 rfl hs6.2 (Or.inr z7.2)) (fun v => ?_)
                        exact tl_169 d hs6.2 (by omega) _ h v (FM_9 F6 0)
                      | some c =>
                        have z7 := fCost_some e13
                        have hc7 := c_mdigit_t (d + 1) (mu := mu_s (mu_s (mu_s (mu_s (mu_s (mu_s (mu_s (mu_s (mu_s (mu_s m 22 8 (nI (sk tx (fNode tx p).2))) 26 (5 * e + 0) (nI a)) 22 8 (nI (sk tx (fOther tx a (fNode tx p).2).2))) 26 (5 * e + 1) (nI b)) 22 8 (nI (sk tx (fNum tx (fOther tx a (fNode tx p).2).2).2))) 26 (5 * e + 2) (nI l)) 22 8 (nI (sk tx q4))) 22 8 (nI (sk tx ((fNum tx q4).2)))) 26 (5 * e + 3) (nI y0)) 22 8 (nI (sk tx q6))) h F6.1 rfl hs6.2 k3 z7.1 z7.2.1
                        rw [← z7.2.2] at hc7
                        have ef : fEdge tx p = (some (a, b, l, y0, c), (fCost tx q6).2) := by unfold fEdge; simp only [e1, e2, e3, e5, e7, e12, e13]
                        have ez : scF tx ((k + 1) + 1) p acc = scF tx (k + 1) (sk tx (fCost tx q6).2) (acc ++ [(a, b, l, y0, c)]) := by rw [scF, if_neg q1, if_neg (by omega), ef]
                        rw [ez]
                        have hrow2 := m5_app hrow (a, b, l, y0, c)
                        rw [hac] at hrow2
                        refine rn_cvm mX9_digit [] [.int (nI (5 * e + 4)), .ref 26] 169 (some (.int (nI c))) (mu_s (mu_s (mu_s (mu_s (mu_s (mu_s (mu_s (mu_s (mu_s (mu_s (mu_s m 22 8 (nI (sk tx (fNode tx p).2))) 26 (5 * e + 0) (nI a)) 22 8 (nI (sk tx (fOther tx a (fNode tx p).2).2))) 26 (5 * e + 1) (nI b)) 22 8 (nI (sk tx (fNum tx (fOther tx a (fNode tx p).2).2).2))) 26 (5 * e + 2) (nI l)) 22 8 (nI (sk tx q4))) 22 8 (nI (sk tx ((fNum tx q4).2)))) 26 (5 * e + 3) (nI y0)) 22 8 (nI (sk tx q6))) 22 8 (nI (sk tx (fCost tx q6).2))) dX9_fault_166 cv_X9_112 rfl rfl rfl (by simp [Value.category]) rfl (hc7) ?_
                        refine rn_iast 170 dX9_fault_169 rfl (vp_in_nI (by omega) (by omega)) rfl ?_
                        rw [nI_clamp (by omega)]
                        refine rn_aload_n 171 dX9_fault_170 rfl rfl rfl ?_
                        refine rn_dup 172 dX9_fault_171 rfl rfl ?_
                        refine rn_get 175 (.int (m 22 7)) dX9_fault_172 fl_X9_98 rfl rfl rfl rfl ?_
                        refine rn_iconst (v := 1) 176 dX9_fault_175 (by decide) rfl ?_
                        refine rn_iadd 177 dX9_fault_176 rfl ?_
                        rw [show m 22 7 + 1 = nI (e + 1) by rw [k4, nI_1]]
                        refine rn_put 180 dX9_fault_177 fp_X9_98 rfl rfl rfl rfl rfl ?_
                        refine rn_goto 19 dX9_fault_180 (by decide) ?_
                        exact ih (e + 1) _ _ _ h (by omega) (by simp; omega) (sk_le hf7.1).2 (sk_sk hf7.1) (FM_7 (FM_26 (FM_8 F6 _) _ _) (e + 1)) hrow2
                    · skip
                      have e12 : fSign tx 58 ((fNum tx q4).2) = (false, sk tx ((fNum tx q4).2)) := if_neg e11
                      have ef : fEdge tx p = (none, sk tx ((fNum tx q4).2)) := by unfold fEdge; simp only [e1, e2, e3, e5, e7, e12]
                      have ez : scF tx ((k + 1) + 1) p acc = (some (sk tx ((fNum tx q4).2)), acc) := by rw [scF, if_neg q1, if_neg (by omega), ef]
                      rw [ez]
                      refine rn_cvm mX9_sign [.int 58] [] 153 (none) (mu_s (mu_s (mu_s (mu_s (mu_s (mu_s (mu_s (mu_s (mu_s (mu_s m 22 8 (nI (sk tx (fNode tx p).2))) 26 (5 * e + 0) (nI a)) 22 8 (nI (sk tx (fOther tx a (fNode tx p).2).2))) 26 (5 * e + 1) (nI b)) 22 8 (nI (sk tx (fNum tx (fOther tx a (fNode tx p).2).2).2))) 26 (5 * e + 2) (nI l)) 22 8 (nI (sk tx q4))) 22 8 (nI (sk tx ((fNum tx q4).2)))) 26 (5 * e + 3) (nI y0)) 22 9 0) dX9_fault_150 cv_X9_105 rfl rfl rfl (by simp [Value.category]) rfl (c_sign_f (d + 1) (mu := mu_s (mu_s (mu_s (mu_s (mu_s (mu_s (mu_s (mu_s (mu_s m 22 8 (nI (sk tx (fNode tx p).2))) 26 (5 * e + 0) (nI a)) 22 8 (nI (sk tx (fOther tx a (fNode tx p).2).2))) 26 (5 * e + 1) (nI b)) 22 8 (nI (sk tx (fNum tx (fOther tx a (fNode tx p).2).2).2))) 26 (5 * e + 2) (nI l)) 22 8 (nI (sk tx q4))) 22 8 (nI (sk tx ((fNum tx q4).2)))) 26 (5 * e + 3) (nI y0)) h F5.1 rfl hs5.2 (c := 58) (by omega) (Or.inr e11)) ?_
                      exact tl_153 d hs5.2 (by omega) _ h (FM_9 F5 0)
            · skip
              have e5 : fSign tx 43 (fNum tx (fOther tx a (fNode tx p).2).2).2 = (false, sk tx (fNum tx (fOther tx a (fNode tx p).2).2).2) := if_neg e4
              have ef : fEdge tx p = (none, sk tx (fNum tx (fOther tx a (fNode tx p).2).2).2) := by unfold fEdge; simp only [e1, e2, e3, e5]
              have ez : scF tx ((k + 1) + 1) p acc = (some (sk tx (fNum tx (fOther tx a (fNode tx p).2).2).2), acc) := by rw [scF, if_neg q1, if_neg (by omega), ef]
              rw [ez]
              refine rn_cvm mX9_sign [.int 43] [] 130 (none) (mu_s (mu_s (mu_s (mu_s (mu_s (mu_s (mu_s m 22 8 (nI (sk tx (fNode tx p).2))) 26 (5 * e + 0) (nI a)) 22 8 (nI (sk tx (fOther tx a (fNode tx p).2).2))) 26 (5 * e + 1) (nI b)) 22 8 (nI (sk tx (fNum tx (fOther tx a (fNode tx p).2).2).2))) 26 (5 * e + 2) (nI l)) 22 9 0) dX9_fault_127 cv_X9_105 rfl rfl rfl (by simp [Value.category]) rfl (c_sign_f (d + 1) (mu := mu_s (mu_s (mu_s (mu_s (mu_s (mu_s m 22 8 (nI (sk tx (fNode tx p).2))) 26 (5 * e + 0) (nI a)) 22 8 (nI (sk tx (fOther tx a (fNode tx p).2).2))) 26 (5 * e + 1) (nI b)) 22 8 (nI (sk tx (fNum tx (fOther tx a (fNode tx p).2).2).2))) 26 (5 * e + 2) (nI l)) h F3.1 rfl hs3.2 (c := 43) (by omega) (Or.inr e4)) ?_
              exact tl_130 d hs3.2 (by omega) _ h (FM_9 F3 0)
