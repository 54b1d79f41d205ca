/-! THE TEXT, read by the class -/
theorem fNode_le {tx : List Nat} {p : Nat} (h : p ≤ tx.length) : (fNode tx p).2 ≤ tx.length ∧ ∀ a, (fNode tx p).1 = some a → a < 8 ∧ 1 ≤ (fNode tx p).2 := by
  have hs := sk_le h
  unfold fNode
  cases hb : tx[sk tx p]? with
  | none => exact ⟨hs.2, fun a q => by cases q⟩
  | some b =>
    have hl : sk tx p < tx.length := (List.getElem?_eq_some_iff.mp hb).1
    simp only
    by_cases q : 97 ≤ b ∧ b ≤ 104
    · rw [if_pos q]; exact ⟨hl, fun a z => by cases z; exact ⟨by omega, by simp⟩⟩
    · rw [if_neg q]; exact ⟨hs.2, fun a z => by cases z⟩
theorem fOther_le {tx : List Nat} {a p : Nat} (h : p ≤ tx.length) : (fOther tx a p).2 ≤ tx.length ∧ ∀ b, (fOther tx a p).1 = some b → b < 8 ∧ b ≠ a := by
  have hs := fNode_le h
  unfold fOther
  cases hb : (fNode tx p).1 with
  | none => exact ⟨hs.1, fun a q => by cases q⟩
  | some b =>
    simp only
    by_cases q : b = a
    · rw [if_pos q]; exact ⟨by show _ - 1 ≤ _; omega, fun a z => by cases z⟩
    · rw [if_neg q]; exact ⟨hs.1, fun c z => by cases z; exact ⟨(hs.2 b hb).1, q⟩⟩
theorem fNum_le {tx : List Nat} {p : Nat} (h : p ≤ tx.length) : (fNum tx p).2 ≤ tx.length ∧ ∀ a, (fNum tx p).1 = some a → a < 100 ∧ 1 ≤ (fNum tx p).2 := by
  have hs := sk_le h
  unfold fNum
  cases hb : dgN tx (sk tx p) with
  | none => exact ⟨hs.2, fun a q => by cases q⟩
  | some d1 =>
    have q1 := dgN_lt hb
    cases hc : dgN tx (sk tx p + 1) with
    | none => exact ⟨q1.2, fun a q => by cases q; exact ⟨by omega, by simp⟩⟩
    | some d2 =>
      have q2 := dgN_lt hc
      exact ⟨q2.2, fun a q => by cases q; exact ⟨by omega, by simp⟩⟩
theorem fSign_le {tx : List Nat} {c p : Nat} (h : p ≤ tx.length) : (fSign tx c p).2 ≤ tx.length := by
  have hs := sk_le h
  unfold fSign
  by_cases q : tx[sk tx p]? = some c
  · rw [if_pos q]; exact (List.getElem?_eq_some_iff.mp q).1
  · rw [if_neg q]; exact hs.2
theorem fDelay_le {tx : List Nat} {p : Nat} (h : p ≤ tx.length) : (fDelay tx p).2 ≤ tx.length ∧ ∀ a, (fDelay tx p).1 = some a → 1 ≤ a ∧ a ≤ 100 := by
  have h1 := fSign_le (c := 120) h
  have h2 := fNum_le h1
  unfold fDelay
  by_cases q : (fSign tx 120 p).1 = true
  · rw [if_pos q]; exact ⟨h1, fun a z => by cases z; omega⟩
  · rw [if_neg q]
    by_cases q2 : (fNum tx (fSign tx 120 p).2).1 = some 0
    · rw [if_pos q2]; exact ⟨by show _ - 1 ≤ _; omega, fun a z => by cases z⟩
    · rw [if_neg q2]
      refine ⟨h2.1, fun a z => ?_⟩
      have := (h2.2 a z).1
      rcases Nat.eq_zero_or_pos a with w | w
      · subst w; exact absurd z q2
      · omega
theorem fCost_le {tx : List Nat} {p : Nat} (h : p ≤ tx.length) : (fCost tx p).2 ≤ tx.length ∧ ∀ a, (fCost tx p).1 = some a → 1 ≤ a ∧ a ≤ 9 := by
  have hs := sk_le h
  unfold fCost
  cases hb : dgN tx (sk tx p) with
  | none => exact ⟨hs.2, fun a q => by cases q⟩
  | some d1 =>
    have q1 := dgN_lt hb
    cases d1 with
    | zero => exact ⟨hs.2, fun a q => by cases q⟩
    | succ k => exact ⟨q1.2, fun a q => by cases q; omega⟩
theorem oI_m1 {v : Option Nat} (hv : ∀ a, v = some a → a < 2 ^ 31) : oI v = -1 ↔ v = none := by
  cases v with
  | none => exact ⟨fun _ => rfl, fun _ => rfl⟩
  | some k => exact ⟨fun q => absurd (by show nI k < 0; rw [show nI k = -1 from q]; decide) (nI_pos (hv k rfl)), fun q => by cases q⟩
theorem oI_is {v : Option Nat} (hv : ∀ a, v = some a → a < 2 ^ 31) {b : Nat} (hb : b < 2 ^ 31) : oI v = nI b ↔ v = some b := by
  cases v with
  | none => exact ⟨fun q => absurd (by rw [← show (-1 : Int32) = nI b from q]; decide) (nI_pos hb), fun q => by cases q⟩
  | some k => 
    show nI k = nI b ↔ _
    rw [nI_eq (hv k rfl) hb]
    exact ⟨fun q => by rw [q], fun q => by cases q; rfl⟩

set_option maxRecDepth 100000 in
set_option maxHeartbeats 2000000 in
theorem c_readNode (d : Nat) {tx : List Nat} {mu : Nat → Nat → Int32} (h : Int64) (ht : xt tx mu) {p : Nat} (h4 : mu 5 4 = nI p) (hp : p ≤ tx.length) : gd_G mX6_readNode (d + 2) [.ref 5] mu h (pq (some (.int (oI (fNode tx p).1))) (mu_s mu 5 4 (nI (fNode tx p).2)) h) := by
  have hs := sk_le hp
  have h110 := ht.1
  refine gd_of rfl (Nat.le_of_ble_eq_true rfl) ?_
  show rn_R none mX6_readNode (d + 2) 0 [some (.ref 5), none] [] mu h (pq (some (.int (oI (fNode tx p).1))) (mu_s mu 5 4 (nI (fNode tx p).2)) h)
  cases hb : tx[sk tx p]? with
  | none =>
    have e : fNode tx p = (none, sk tx p) := by unfold fNode; rw [hb]
    rw [e]
    refine rn_aload_n 1 dX6_readNode_0 rfl rfl rfl ?_
    refine rn_cvm mX6_skipBlanks [] [] 4 (none) (mu_s mu 5 4 (nI (sk tx p))) dX6_readNode_1 cv_X6_29 rfl rfl rfl (by simp [Value.category]) rfl (c_skipBlanks (d) h ht h4 hp) ?_
    refine rn_aload_n 5 dX6_readNode_4 rfl rfl rfl ?_
    refine rn_aload_n 6 dX6_readNode_5 rfl rfl rfl ?_
    refine rn_get 9 (.int (nI (sk tx p))) dX6_readNode_6 fl_X6_26 rfl rfl rfl rfl ?_
    refine rn_cvp mX6_letterAt [.int (nI (sk tx p))] [] 12 (.int (lt tx (sk tx p))) dX6_readNode_9 cv_X6_63 rfl rfl rfl (by simp [Value.category]) rfl (c_letterAt (d + 1) h (xt_of (mu' := mu_s mu 5 4 (nI (sk tx p))) ht rfl rfl) (by omega)) ?_
    rw [lt_none hb]
    refine rn_istore_n 13 [some (.ref 5), some (.int (-1))] dX6_readNode_12 rfl rfl (Nat.le_of_ble_eq_true rfl) rfl ?_
    refine rn_iload_n 14 dX6_readNode_13 rfl rfl rfl ?_
    refine rn_bipush (v := 97) 16 dX6_readNode_14 (by decide) rfl ?_
    refine rn_icmp_lt 25 19 dX6_readNode_16 (by decide) rfl (fun _ => ?_) (fun c16 => absurd (by decide) c16)
    refine rn_iconst (v := (-1)) 26 dX6_readNode_25 (by decide) rfl ?_
    exact rn_iret rfl dX6_readNode_26 (⟨rfl, rfl, rfl⟩)
  | some b =>
    have hlt := ht.2.2.1 b (List.mem_of_getElem? hb)
    rcases (show b < 97 ∨ 104 < b ∨ (97 ≤ b ∧ b ≤ 104) by omega) with q | q | q
    · skip
      have e : fNode tx p = (none, sk tx p) := by unfold fNode; rw [hb]; simp only; rw [if_neg (by omega)]
      rw [e]
      refine rn_aload_n 1 dX6_readNode_0 rfl rfl rfl ?_
      refine rn_cvm mX6_skipBlanks [] [] 4 (none) (mu_s mu 5 4 (nI (sk tx p))) dX6_readNode_1 cv_X6_29 rfl rfl rfl (by simp [Value.category]) rfl (c_skipBlanks (d) h ht h4 hp) ?_
      refine rn_aload_n 5 dX6_readNode_4 rfl rfl rfl ?_
      refine rn_aload_n 6 dX6_readNode_5 rfl rfl rfl ?_
      refine rn_get 9 (.int (nI (sk tx p))) dX6_readNode_6 fl_X6_26 rfl rfl rfl rfl ?_
      refine rn_cvp mX6_letterAt [.int (nI (sk tx p))] [] 12 (.int (lt tx (sk tx p))) dX6_readNode_9 cv_X6_63 rfl rfl rfl (by simp [Value.category]) rfl (c_letterAt (d + 1) h (xt_of (mu' := mu_s mu 5 4 (nI (sk tx p))) ht rfl rfl) (by omega)) ?_
      rw [lt_some hb]
      refine rn_istore_n 13 [some (.ref 5), some (.int (nI b))] dX6_readNode_12 rfl rfl (Nat.le_of_ble_eq_true rfl) rfl ?_
      refine rn_iload_n 14 dX6_readNode_13 rfl rfl rfl ?_
      refine rn_bipush (v := 97) 16 dX6_readNode_14 (by decide) rfl ?_
      refine rn_icmp_lt 25 19 dX6_readNode_16 (by decide) rfl (fun _ => ?_) (fun c16 => absurd (nI_lt (b := 97) q (by omega)) c16)
      refine rn_iconst (v := (-1)) 26 dX6_readNode_25 (by decide) rfl ?_
      exact rn_iret rfl dX6_readNode_26 (⟨rfl, rfl, rfl⟩)
    · skip
      have e : fNode tx p = (none, sk tx p) := by unfold fNode; rw [hb]; simp only; rw [if_neg (by omega)]
      rw [e]
      refine rn_aload_n 1 dX6_readNode_0 rfl rfl rfl ?_
      refine rn_cvm mX6_skipBlanks [] [] 4 (none) (mu_s mu 5 4 (nI (sk tx p))) dX6_readNode_1 cv_X6_29 rfl rfl rfl (by simp [Value.category]) rfl (c_skipBlanks (d) h ht h4 hp) ?_
      refine rn_aload_n 5 dX6_readNode_4 rfl rfl rfl ?_
      refine rn_aload_n 6 dX6_readNode_5 rfl rfl rfl ?_
      refine rn_get 9 (.int (nI (sk tx p))) dX6_readNode_6 fl_X6_26 rfl rfl rfl rfl ?_
      refine rn_cvp mX6_letterAt [.int (nI (sk tx p))] [] 12 (.int (lt tx (sk tx p))) dX6_readNode_9 cv_X6_63 rfl rfl rfl (by simp [Value.category]) rfl (c_letterAt (d + 1) h (xt_of (mu' := mu_s mu 5 4 (nI (sk tx p))) ht rfl rfl) (by omega)) ?_
      rw [lt_some hb]
      refine rn_istore_n 13 [some (.ref 5), some (.int (nI b))] dX6_readNode_12 rfl rfl (Nat.le_of_ble_eq_true rfl) rfl ?_
      refine rn_iload_n 14 dX6_readNode_13 rfl rfl rfl ?_
      refine rn_bipush (v := 97) 16 dX6_readNode_14 (by decide) rfl ?_
      refine rn_icmp_lt 25 19 dX6_readNode_16 (by decide) rfl (fun c16 => absurd c16 (nI_nlt (b := 97) (by omega) (by omega))) (fun _ => ?_)
      refine rn_iload_n 20 dX6_readNode_19 rfl rfl rfl ?_
      refine rn_bipush (v := 104) 22 dX6_readNode_20 (by decide) rfl ?_
      refine rn_icmp_le 27 25 dX6_readNode_22 (by decide) rfl (fun c22 => absurd c22 (fun z => absurd z (nI_ge (a := 104) q (by omega)))) (fun _ => ?_)
      refine rn_iconst (v := (-1)) 26 dX6_readNode_25 (by decide) rfl ?_
      exact rn_iret rfl dX6_readNode_26 (⟨rfl, rfl, rfl⟩)
    · skip
      have e : fNode tx p = (some (b - 97), sk tx p + 1) := by unfold fNode; rw [hb]; simp only; rw [if_pos q]
      rw [e]
      refine rn_aload_n 1 dX6_readNode_0 rfl rfl rfl ?_
      refine rn_cvm mX6_skipBlanks [] [] 4 (none) (mu_s mu 5 4 (nI (sk tx p))) dX6_readNode_1 cv_X6_29 rfl rfl rfl (by simp [Value.category]) rfl (c_skipBlanks (d) h ht h4 hp) ?_
      refine rn_aload_n 5 dX6_readNode_4 rfl rfl rfl ?_
      refine rn_aload_n 6 dX6_readNode_5 rfl rfl rfl ?_
      refine rn_get 9 (.int (nI (sk tx p))) dX6_readNode_6 fl_X6_26 rfl rfl rfl rfl ?_
      refine rn_cvp mX6_letterAt [.int (nI (sk tx p))] [] 12 (.int (lt tx (sk tx p))) dX6_readNode_9 cv_X6_63 rfl rfl rfl (by simp [Value.category]) rfl (c_letterAt (d + 1) h (xt_of (mu' := mu_s mu 5 4 (nI (sk tx p))) ht rfl rfl) (by omega)) ?_
      rw [lt_some hb]
      refine rn_istore_n 13 [some (.ref 5), some (.int (nI b))] dX6_readNode_12 rfl rfl (Nat.le_of_ble_eq_true rfl) rfl ?_
      refine rn_iload_n 14 dX6_readNode_13 rfl rfl rfl ?_
      refine rn_bipush (v := 97) 16 dX6_readNode_14 (by decide) rfl ?_
      refine rn_icmp_lt 25 19 dX6_readNode_16 (by decide) rfl (fun c16 => absurd c16 (nI_nlt (b := 97) (by omega) (by omega))) (fun _ => ?_)
      refine rn_iload_n 20 dX6_readNode_19 rfl rfl rfl ?_
      refine rn_bipush (v := 104) 22 dX6_readNode_20 (by decide) rfl ?_
      refine rn_icmp_le 27 25 dX6_readNode_22 (by decide) rfl (fun _ => ?_) (fun c22 => absurd (nI_le (b := 104) q.2 (by omega)) c22)
      refine rn_aload_n 28 dX6_readNode_27 rfl rfl rfl ?_
      refine rn_dup 29 dX6_readNode_28 rfl rfl ?_
      refine rn_get 32 (.int (nI (sk tx p))) dX6_readNode_29 fl_X6_26 rfl rfl rfl rfl ?_
      refine rn_iconst (v := 1) 33 dX6_readNode_32 (by decide) rfl ?_
      refine rn_iadd 34 dX6_readNode_33 rfl ?_
      rw [nI_1]
      refine rn_put 37 dX6_readNode_34 fp_X6_26 rfl rfl rfl rfl rfl ?_
      refine rn_iload_n 38 dX6_readNode_37 rfl rfl rfl ?_
      refine rn_bipush (v := 97) 40 dX6_readNode_38 (by decide) rfl ?_
      refine rn_isub 41 dX6_readNode_40 rfl ?_
      exact rn_iret rfl dX6_readNode_41 (⟨by rw [show (97 : Int32) = nI 97 from rfl, pk_sub q.1]; rfl, by rw [mu_ss], rfl⟩)

set_option maxRecDepth 100000 in
set_option maxHeartbeats 2000000 in
theorem c_readOther (d : Nat) {tx : List Nat} {mu : Nat → Nat → Int32} (h : Int64) (ht : xt tx mu) {p : Nat} (h4 : mu 5 4 = nI p) (hp : p ≤ tx.length) {a : Nat} (ha : a < 8) : gd_G mX6_readOtherNode (d + 3) [.ref 5, .int (nI a)] mu h (pq (some (.int (oI (fOther tx a p).1))) (mu_s mu 5 4 (nI (fOther tx a p).2)) h) := by
  have hs := sk_le hp
  have h110 := ht.1
  refine gd_of rfl (Nat.le_of_ble_eq_true rfl) ?_
  show rn_R none mX6_readOtherNode (d + 3) 0 [some (.ref 5), some (.int (nI a)), none] [] mu h (pq (some (.int (oI (fOther tx a p).1))) (mu_s mu 5 4 (nI (fOther tx a p).2)) h)
  have hf := fNode_le hp
  have ho : oI (fNode tx p).1 = nI a ↔ (fNode tx p).1 = some a := oI_is (fun b hb => by have := (hf.2 b hb).1; omega) (by omega)
  by_cases q : (fNode tx p).1 = some a
  · skip
    have e : fOther tx a p = (none, (fNode tx p).2 - 1) := by unfold fOther; rw [q]; simp
    rw [e]
    have h1 := (hf.2 a q).2
    refine rn_aload_n 1 dX6_readOtherNode_0 rfl rfl rfl ?_
    refine rn_cvm mX6_readNode [] [] 4 (some (.int (oI (fNode tx p).1))) (mu_s mu 5 4 (nI (fNode tx p).2)) dX6_readOtherNode_1 cv_X6_36 rfl rfl rfl (by simp [Value.category]) rfl (c_readNode d h ht h4 hp) ?_
    refine rn_istore_n 5 [some (.ref 5), some (.int (nI a)), some (.int (oI (fNode tx p).1))] dX6_readOtherNode_4 rfl rfl (Nat.le_of_ble_eq_true rfl) rfl ?_
    refine rn_iload_n 6 dX6_readOtherNode_5 rfl rfl rfl ?_
    refine rn_iload_n 7 dX6_readOtherNode_6 rfl rfl rfl ?_
    refine rn_icmp_ne 22 10 dX6_readOtherNode_7 (by decide) rfl (fun c7 => absurd (ho.mpr q) c7) (fun _ => ?_)
    refine rn_aload_n 11 dX6_readOtherNode_10 rfl rfl rfl ?_
    refine rn_dup 12 dX6_readOtherNode_11 rfl rfl ?_
    refine rn_get 15 (.int (nI (fNode tx p).2)) dX6_readOtherNode_12 fl_X6_26 rfl rfl rfl rfl ?_
    refine rn_iconst (v := 1) 16 dX6_readOtherNode_15 (by decide) rfl ?_
    refine rn_isub 17 dX6_readOtherNode_16 rfl ?_
    rw [nI_sub1 (by omega)]
    refine rn_put 20 dX6_readOtherNode_17 fp_X6_26 rfl rfl rfl rfl rfl ?_
    refine rn_iconst (v := (-1)) 21 dX6_readOtherNode_20 (by decide) rfl ?_
    exact rn_iret rfl dX6_readOtherNode_21 (⟨rfl, by rw [mu_ss], rfl⟩)
  · skip
    have e : fOther tx a p = fNode tx p := by unfold fOther; cases z : (fNode tx p).1 with | none => simp [← z] | some b => simp only; rw [if_neg (fun y => q (by rw [z, y])), ← z]
    rw [e]
    refine rn_aload_n 1 dX6_readOtherNode_0 rfl rfl rfl ?_
    refine rn_cvm mX6_readNode [] [] 4 (some (.int (oI (fNode tx p).1))) (mu_s mu 5 4 (nI (fNode tx p).2)) dX6_readOtherNode_1 cv_X6_36 rfl rfl rfl (by simp [Value.category]) rfl (c_readNode d h ht h4 hp) ?_
    refine rn_istore_n 5 [some (.ref 5), some (.int (nI a)), some (.int (oI (fNode tx p).1))] dX6_readOtherNode_4 rfl rfl (Nat.le_of_ble_eq_true rfl) rfl ?_
    refine rn_iload_n 6 dX6_readOtherNode_5 rfl rfl rfl ?_
    refine rn_iload_n 7 dX6_readOtherNode_6 rfl rfl rfl ?_
    refine rn_icmp_ne 22 10 dX6_readOtherNode_7 (by decide) rfl (fun _ => ?_) (fun c7 => absurd c7 (fun z => q (ho.mp z)))
    refine rn_iload_n 23 dX6_readOtherNode_22 rfl rfl rfl ?_
    exact rn_iret rfl dX6_readOtherNode_23 (⟨rfl, rfl, rfl⟩)

set_option maxRecDepth 100000 in
set_option maxHeartbeats 2000000 in
theorem c_readNumber (d : Nat) {tx : List Nat} {mu : Nat → Nat → Int32} (h : Int64) (ht : xt tx mu) {p : Nat} (h4 : mu 5 4 = nI p) (hp : p ≤ tx.length) : gd_G mX6_readNumber (d + 3) [.ref 5] mu h (pq (some (.int (oI (fNum tx p).1))) (mu_s mu 5 4 (nI (fNum tx p).2)) h) := by
  have hs := sk_le hp
  have h110 := ht.1
  refine gd_of rfl (Nat.le_of_ble_eq_true rfl) ?_
  show rn_R none mX6_readNumber (d + 3) 0 [some (.ref 5), none, none] [] mu h (pq (some (.int (oI (fNum tx p).1))) (mu_s mu 5 4 (nI (fNum tx p).2)) h)
  cases hb : dgN tx (sk tx p) with
  | none =>
    have e : fNum tx p = (none, sk tx p) := by unfold fNum; rw [hb]
    rw [e]
    refine rn_aload_n 1 dX6_readNumber_0 rfl rfl rfl ?_
    refine rn_cvm mX6_skipBlanks [] [] 4 (none) (mu_s mu 5 4 (nI (sk tx p))) dX6_readNumber_1 cv_X6_29 rfl rfl rfl (by simp [Value.category]) rfl (c_skipBlanks (d + 1) h ht h4 hp) ?_
    refine rn_aload_n 5 dX6_readNumber_4 rfl rfl rfl ?_
    refine rn_aload_n 6 dX6_readNumber_5 rfl rfl rfl ?_
    refine rn_get 9 (.int (nI (sk tx p))) dX6_readNumber_6 fl_X6_26 rfl rfl rfl rfl ?_
    refine rn_cvp mX6_digitAt [.int (nI (sk tx p))] [] 12 (.int (oI (dgN tx (sk tx p)))) dX6_readNumber_9 cv_X6_66 rfl rfl rfl (by simp [Value.category]) rfl (c_digitAt (d + 1) h (xt_of (mu' := mu_s mu 5 4 (nI (sk tx p))) ht rfl rfl) (by omega)) ?_
    rw [hb, show oI none = -1 from rfl]
    refine rn_istore_n 13 [some (.ref 5), some (.int (-1)), none] dX6_readNumber_12 rfl rfl (Nat.le_of_ble_eq_true rfl) rfl ?_
    refine rn_iload_n 14 dX6_readNumber_13 rfl rfl rfl ?_
    refine rn_iconst (v := (-1)) 15 dX6_readNumber_14 (by decide) rfl ?_
    refine rn_icmp_ne 20 18 dX6_readNumber_15 (by decide) rfl (fun c15 => absurd (rfl) c15) (fun _ => ?_)
    refine rn_iconst (v := (-1)) 19 dX6_readNumber_18 (by decide) rfl ?_
    exact rn_iret rfl dX6_readNumber_19 (⟨rfl, rfl, rfl⟩)
  | some d1 =>
    have q1 := dgN_lt hb
    cases hc : dgN tx (sk tx p + 1) with
    | none =>
      have e : fNum tx p = (some d1, sk tx p + 1) := by unfold fNum; rw [hb]; simp only; rw [hc]
      rw [e]
      refine rn_aload_n 1 dX6_readNumber_0 rfl rfl rfl ?_
      refine rn_cvm mX6_skipBlanks [] [] 4 (none) (mu_s mu 5 4 (nI (sk tx p))) dX6_readNumber_1 cv_X6_29 rfl rfl rfl (by simp [Value.category]) rfl (c_skipBlanks (d + 1) h ht h4 hp) ?_
      refine rn_aload_n 5 dX6_readNumber_4 rfl rfl rfl ?_
      refine rn_aload_n 6 dX6_readNumber_5 rfl rfl rfl ?_
      refine rn_get 9 (.int (nI (sk tx p))) dX6_readNumber_6 fl_X6_26 rfl rfl rfl rfl ?_
      refine rn_cvp mX6_digitAt [.int (nI (sk tx p))] [] 12 (.int (oI (dgN tx (sk tx p)))) dX6_readNumber_9 cv_X6_66 rfl rfl rfl (by simp [Value.category]) rfl (c_digitAt (d + 1) h (xt_of (mu' := mu_s mu 5 4 (nI (sk tx p))) ht rfl rfl) (by omega)) ?_
      rw [hb, show oI (some d1) = nI d1 from rfl]
      refine rn_istore_n 13 [some (.ref 5), some (.int (nI d1)), none] dX6_readNumber_12 rfl rfl (Nat.le_of_ble_eq_true rfl) rfl ?_
      refine rn_iload_n 14 dX6_readNumber_13 rfl rfl rfl ?_
      refine rn_iconst (v := (-1)) 15 dX6_readNumber_14 (by decide) rfl ?_
      refine rn_icmp_ne 20 18 dX6_readNumber_15 (by decide) rfl (fun _ => ?_) (fun c15 => absurd c15 (fun z => absurd (by rw [z]; decide) (nI_pos (n := d1) (by omega))))
      refine rn_aload_n 21 dX6_readNumber_20 rfl rfl rfl ?_
      refine rn_dup 22 dX6_readNumber_21 rfl rfl ?_
      refine rn_get 25 (.int (nI (sk tx p))) dX6_readNumber_22 fl_X6_26 rfl rfl rfl rfl ?_
      refine rn_iconst (v := 1) 26 dX6_readNumber_25 (by decide) rfl ?_
      refine rn_iadd 27 dX6_readNumber_26 rfl ?_
      rw [nI_1]
      refine rn_put 30 dX6_readNumber_27 fp_X6_26 rfl rfl rfl rfl rfl ?_
      refine rn_aload_n 31 dX6_readNumber_30 rfl rfl rfl ?_
      refine rn_aload_n 32 dX6_readNumber_31 rfl rfl rfl ?_
      refine rn_get 35 (.int (nI (sk tx p + 1))) dX6_readNumber_32 fl_X6_26 rfl rfl rfl rfl ?_
      refine rn_cvp mX6_digitAt [.int (nI (sk tx p + 1))] [] 38 (.int (oI (dgN tx (sk tx p + 1)))) dX6_readNumber_35 cv_X6_66 rfl rfl rfl (by simp [Value.category]) rfl (c_digitAt (d + 1) h (xt_of (mu' := mu_s (mu_s mu 5 4 (nI (sk tx p))) 5 4 (nI (sk tx p + 1))) ht rfl rfl) (by omega)) ?_
      rw [hc, show oI none = -1 from rfl]
      refine rn_istore_n 39 [some (.ref 5), some (.int (nI d1)), some (.int (-1))] dX6_readNumber_38 rfl rfl (Nat.le_of_ble_eq_true rfl) rfl ?_
      refine rn_iload_n 40 dX6_readNumber_39 rfl rfl rfl ?_
      refine rn_iconst (v := (-1)) 41 dX6_readNumber_40 (by decide) rfl ?_
      refine rn_icmp_ne 46 44 dX6_readNumber_41 (by decide) rfl (fun c41 => absurd (rfl) c41) (fun _ => ?_)
      refine rn_iload_n 45 dX6_readNumber_44 rfl rfl rfl ?_
      exact rn_iret rfl dX6_readNumber_45 (⟨rfl, by rw [mu_ss], rfl⟩)
    | some d2 =>
      have q2 := dgN_lt hc
      have e : fNum tx p = (some (10 * d1 + d2), sk tx p + 2) := by unfold fNum; rw [hb]; simp only; rw [hc]
      rw [e]
      refine rn_aload_n 1 dX6_readNumber_0 rfl rfl rfl ?_
      refine rn_cvm mX6_skipBlanks [] [] 4 (none) (mu_s mu 5 4 (nI (sk tx p))) dX6_readNumber_1 cv_X6_29 rfl rfl rfl (by simp [Value.category]) rfl (c_skipBlanks (d + 1) h ht h4 hp) ?_
      refine rn_aload_n 5 dX6_readNumber_4 rfl rfl rfl ?_
      refine rn_aload_n 6 dX6_readNumber_5 rfl rfl rfl ?_
      refine rn_get 9 (.int (nI (sk tx p))) dX6_readNumber_6 fl_X6_26 rfl rfl rfl rfl ?_
      refine rn_cvp mX6_digitAt [.int (nI (sk tx p))] [] 12 (.int (oI (dgN tx (sk tx p)))) dX6_readNumber_9 cv_X6_66 rfl rfl rfl (by simp [Value.category]) rfl (c_digitAt (d + 1) h (xt_of (mu' := mu_s mu 5 4 (nI (sk tx p))) ht rfl rfl) (by omega)) ?_
      rw [hb, show oI (some d1) = nI d1 from rfl]
      refine rn_istore_n 13 [some (.ref 5), some (.int (nI d1)), none] dX6_readNumber_12 rfl rfl (Nat.le_of_ble_eq_true rfl) rfl ?_
      refine rn_iload_n 14 dX6_readNumber_13 rfl rfl rfl ?_
      refine rn_iconst (v := (-1)) 15 dX6_readNumber_14 (by decide) rfl ?_
      refine rn_icmp_ne 20 18 dX6_readNumber_15 (by decide) rfl (fun _ => ?_) (fun c15 => absurd c15 (fun z => absurd (by rw [z]; decide) (nI_pos (n := d1) (by omega))))
      refine rn_aload_n 21 dX6_readNumber_20 rfl rfl rfl ?_
      refine rn_dup 22 dX6_readNumber_21 rfl rfl ?_
      refine rn_get 25 (.int (nI (sk tx p))) dX6_readNumber_22 fl_X6_26 rfl rfl rfl rfl ?_
      refine rn_iconst (v := 1) 26 dX6_readNumber_25 (by decide) rfl ?_
      refine rn_iadd 27 dX6_readNumber_26 rfl ?_
      rw [nI_1]
      refine rn_put 30 dX6_readNumber_27 fp_X6_26 rfl rfl rfl rfl rfl ?_
      refine rn_aload_n 31 dX6_readNumber_30 rfl rfl rfl ?_
      refine rn_aload_n 32 dX6_readNumber_31 rfl rfl rfl ?_
      refine rn_get 35 (.int (nI (sk tx p + 1))) dX6_readNumber_32 fl_X6_26 rfl rfl rfl rfl ?_
      refine rn_cvp mX6_digitAt [.int (nI (sk tx p + 1))] [] 38 (.int (oI (dgN tx (sk tx p + 1)))) dX6_readNumber_35 cv_X6_66 rfl rfl rfl (by simp [Value.category]) rfl (c_digitAt (d + 1) h (xt_of (mu' := mu_s (mu_s mu 5 4 (nI (sk tx p))) 5 4 (nI (sk tx p + 1))) ht rfl rfl) (by omega)) ?_
      rw [hc, show oI (some d2) = nI d2 from rfl]
      refine rn_istore_n 39 [some (.ref 5), some (.int (nI d1)), some (.int (nI d2))] dX6_readNumber_38 rfl rfl (Nat.le_of_ble_eq_true rfl) rfl ?_
      refine rn_iload_n 40 dX6_readNumber_39 rfl rfl rfl ?_
      refine rn_iconst (v := (-1)) 41 dX6_readNumber_40 (by decide) rfl ?_
      refine rn_icmp_ne 46 44 dX6_readNumber_41 (by decide) rfl (fun _ => ?_) (fun c41 => absurd c41 (fun z => absurd (by rw [z]; decide) (nI_pos (n := d2) (by omega))))
      refine rn_aload_n 47 dX6_readNumber_46 rfl rfl rfl ?_
      refine rn_dup 48 dX6_readNumber_47 rfl rfl ?_
      refine rn_get 51 (.int (nI (sk tx p + 1))) dX6_readNumber_48 fl_X6_26 rfl rfl rfl rfl ?_
      refine rn_iconst (v := 1) 52 dX6_readNumber_51 (by decide) rfl ?_
      refine rn_iadd 53 dX6_readNumber_52 rfl ?_
      rw [nI_1]
      refine rn_put 56 dX6_readNumber_53 fp_X6_26 rfl rfl rfl rfl rfl ?_
      refine rn_bipush (v := 10) 58 dX6_readNumber_56 (by decide) rfl ?_
      refine rn_iload_n 59 dX6_readNumber_58 rfl rfl rfl ?_
      refine rn_imul 60 dX6_readNumber_59 rfl ?_
      refine rn_iload_n 61 dX6_readNumber_60 rfl rfl rfl ?_
      refine rn_iadd 62 dX6_readNumber_61 rfl ?_
      exact rn_iret rfl dX6_readNumber_62 (⟨by rw [show (10 : Int32) = nI 10 from rfl, pk_mul, nI_add]; rfl, by rw [mu_ss, mu_ss], rfl⟩)

set_option maxRecDepth 100000 in
set_option maxHeartbeats 2000000 in
theorem c_readSign (d : Nat) {tx : List Nat} {mu : Nat → Nat → Int32} (h : Int64) (ht : xt tx mu) {p : Nat} (h4 : mu 5 4 = nI p) (hp : p ≤ tx.length) {c : Nat} (hc : c < 128) : gd_G mX6_readSign (d + 2) [.ref 5, .int (nI c)] mu h (pq (some (.int (if (fSign tx c p).1 then 1 else 0))) (mu_s mu 5 4 (nI (fSign tx c p).2)) h) := by
  have hs := sk_le hp
  have h110 := ht.1
  refine gd_of rfl (Nat.le_of_ble_eq_true rfl) ?_
  show rn_R none mX6_readSign (d + 2) 0 [some (.ref 5), some (.int (nI c))] [] mu h (pq (some (.int (if (fSign tx c p).1 then 1 else 0))) (mu_s mu 5 4 (nI (fSign tx c p).2)) h)
  have hi := lt_is ht.2.2.1 (p := sk tx p) (c := c) hc
  by_cases q : tx[sk tx p]? = some c
  · skip
    have e : fSign tx c p = (true, sk tx p + 1) := if_pos q
    rw [e]
    refine rn_aload_n 1 dX6_readSign_0 rfl rfl rfl ?_
    refine rn_cvm mX6_skipBlanks [] [] 4 (none) (mu_s mu 5 4 (nI (sk tx p))) dX6_readSign_1 cv_X6_29 rfl rfl rfl (by simp [Value.category]) rfl (c_skipBlanks (d) h ht h4 hp) ?_
    refine rn_aload_n 5 dX6_readSign_4 rfl rfl rfl ?_
    refine rn_aload_n 6 dX6_readSign_5 rfl rfl rfl ?_
    refine rn_get 9 (.int (nI (sk tx p))) dX6_readSign_6 fl_X6_26 rfl rfl rfl rfl ?_
    refine rn_cvp mX6_letterAt [.int (nI (sk tx p))] [] 12 (.int (lt tx (sk tx p))) dX6_readSign_9 cv_X6_63 rfl rfl rfl (by simp [Value.category]) rfl (c_letterAt (d + 1) h (xt_of (mu' := mu_s mu 5 4 (nI (sk tx p))) ht rfl rfl) (by omega)) ?_
    refine rn_iload_n 13 dX6_readSign_12 rfl rfl rfl ?_
    refine rn_icmp_eq 18 16 dX6_readSign_13 (by decide) rfl (fun _ => ?_) (fun c13 => absurd (hi.mpr q) c13)
    refine rn_aload_n 19 dX6_readSign_18 rfl rfl rfl ?_
    refine rn_dup 20 dX6_readSign_19 rfl rfl ?_
    refine rn_get 23 (.int (nI (sk tx p))) dX6_readSign_20 fl_X6_26 rfl rfl rfl rfl ?_
    refine rn_iconst (v := 1) 24 dX6_readSign_23 (by decide) rfl ?_
    refine rn_iadd 25 dX6_readSign_24 rfl ?_
    rw [nI_1]
    refine rn_put 28 dX6_readSign_25 fp_X6_26 rfl rfl rfl rfl rfl ?_
    refine rn_iconst (v := 1) 29 dX6_readSign_28 (by decide) rfl ?_
    exact rn_zret rfl dX6_readSign_29 rfl (⟨rfl, by rw [mu_ss], rfl⟩)
  · skip
    have e : fSign tx c p = (false, sk tx p) := if_neg q
    rw [e]
    refine rn_aload_n 1 dX6_readSign_0 rfl rfl rfl ?_
    refine rn_cvm mX6_skipBlanks [] [] 4 (none) (mu_s mu 5 4 (nI (sk tx p))) dX6_readSign_1 cv_X6_29 rfl rfl rfl (by simp [Value.category]) rfl (c_skipBlanks (d) h ht h4 hp) ?_
    refine rn_aload_n 5 dX6_readSign_4 rfl rfl rfl ?_
    refine rn_aload_n 6 dX6_readSign_5 rfl rfl rfl ?_
    refine rn_get 9 (.int (nI (sk tx p))) dX6_readSign_6 fl_X6_26 rfl rfl rfl rfl ?_
    refine rn_cvp mX6_letterAt [.int (nI (sk tx p))] [] 12 (.int (lt tx (sk tx p))) dX6_readSign_9 cv_X6_63 rfl rfl rfl (by simp [Value.category]) rfl (c_letterAt (d + 1) h (xt_of (mu' := mu_s mu 5 4 (nI (sk tx p))) ht rfl rfl) (by omega)) ?_
    refine rn_iload_n 13 dX6_readSign_12 rfl rfl rfl ?_
    refine rn_icmp_eq 18 16 dX6_readSign_13 (by decide) rfl (fun c13 => absurd c13 (fun z => q (hi.mp z))) (fun _ => ?_)
    refine rn_iconst (v := 0) 17 dX6_readSign_16 (by decide) rfl ?_
    exact rn_zret rfl dX6_readSign_17 rfl (⟨rfl, rfl, rfl⟩)

set_option maxRecDepth 100000 in
set_option maxHeartbeats 2000000 in
theorem c_readDelay (d : Nat) {tx : List Nat} {mu : Nat → Nat → Int32} (h : Int64) (ht : xt tx mu) {p : Nat} (h4 : mu 5 4 = nI p) (hp : p ≤ tx.length) : gd_G mX6_readDelay (d + 4) [.ref 5] mu h (pq (some (.int (oI (fDelay tx p).1))) (mu_s mu 5 4 (nI (fDelay tx p).2)) h) := by
  have hs := sk_le hp
  have h110 := ht.1
  refine gd_of rfl (Nat.le_of_ble_eq_true rfl) ?_
  show rn_R none mX6_readDelay (d + 4) 0 [some (.ref 5), none] [] mu h (pq (some (.int (oI (fDelay tx p).1))) (mu_s mu 5 4 (nI (fDelay tx p).2)) h)
  have hf := fSign_le (c := 120) hp
  have hn := fNum_le hf
  have hsg := c_readSign (d + 1) h ht h4 hp (c := 120) (by omega)
  cases q : (fSign tx 120 p).1 with
  | true =>
    rw [q] at hsg
    have e : fDelay tx p = (some 100, (fSign tx 120 p).2) := if_pos q
    rw [e]
    refine rn_aload_n 1 dX6_readDelay_0 rfl rfl rfl ?_
    refine rn_bipush (v := 120) 3 dX6_readDelay_1 (by decide) rfl ?_
    refine rn_cvm mX6_readSign [.int 120] [] 6 (some (.int (if true = true then 1 else 0))) (mu_s mu 5 4 (nI (fSign tx 120 p).2)) dX6_readDelay_3 cv_X6_47 rfl rfl rfl (by simp [Value.category]) rfl (hsg) ?_
    refine rn_if_eq 12 9 dX6_readDelay_6 (by decide) rfl (fun c6 => absurd c6 (by decide)) (fun _ => ?_)
    refine rn_bipush (v := 100) 11 dX6_readDelay_9 (by decide) rfl ?_
    exact rn_iret rfl dX6_readDelay_11 (⟨rfl, rfl, rfl⟩)
  | false =>
    rw [q] at hsg
    have h0 : oI (fNum tx (fSign tx 120 p).2).1 = 0 ↔ (fNum tx (fSign tx 120 p).2).1 = some 0 := oI_is (b := 0) (fun b hb => by have := (hn.2 b hb).1; omega) (by omega)
    by_cases q2 : (fNum tx (fSign tx 120 p).2).1 = some 0
    · skip
      have e : fDelay tx p = (none, (fNum tx (fSign tx 120 p).2).2 - 1) := by unfold fDelay; rw [if_neg (by rw [q]; decide), if_pos q2]
      rw [e]
      have h1 := (hn.2 0 q2).2
      refine rn_aload_n 1 dX6_readDelay_0 rfl rfl rfl ?_
      refine rn_bipush (v := 120) 3 dX6_readDelay_1 (by decide) rfl ?_
      refine rn_cvm mX6_readSign [.int 120] [] 6 (some (.int (if false = true then 1 else 0))) (mu_s mu 5 4 (nI (fSign tx 120 p).2)) dX6_readDelay_3 cv_X6_47 rfl rfl rfl (by simp [Value.category]) rfl (hsg) ?_
      refine rn_if_eq 12 9 dX6_readDelay_6 (by decide) rfl (fun _ => ?_) (fun c6 => absurd (rfl) c6)
      refine rn_aload_n 13 dX6_readDelay_12 rfl rfl rfl ?_
      refine rn_cvm mX6_readNumber [] [] 16 (some (.int (oI (fNum tx (fSign tx 120 p).2).1))) (mu_s (mu_s mu 5 4 (nI (fSign tx 120 p).2)) 5 4 (nI (fNum tx (fSign tx 120 p).2).2)) dX6_readDelay_13 cv_X6_44 rfl rfl rfl (by simp [Value.category]) rfl (c_readNumber d (mu := mu_s mu 5 4 (nI (fSign tx 120 p).2)) h (xt_of (mu' := mu_s mu 5 4 (nI (fSign tx 120 p).2)) ht rfl rfl) rfl hf) ?_
      refine rn_istore_n 17 [some (.ref 5), some (.int (oI (fNum tx (fSign tx 120 p).2).1))] dX6_readDelay_16 rfl rfl (Nat.le_of_ble_eq_true rfl) rfl ?_
      refine rn_iload_n 18 dX6_readDelay_17 rfl rfl rfl ?_
      refine rn_if_ne 33 21 dX6_readDelay_18 (by decide) rfl (fun c18 => absurd (h0.mpr q2) c18) (fun _ => ?_)
      refine rn_aload_n 22 dX6_readDelay_21 rfl rfl rfl ?_
      refine rn_dup 23 dX6_readDelay_22 rfl rfl ?_
      refine rn_get 26 (.int (nI (fNum tx (fSign tx 120 p).2).2)) dX6_readDelay_23 fl_X6_26 rfl rfl rfl rfl ?_
      refine rn_iconst (v := 1) 27 dX6_readDelay_26 (by decide) rfl ?_
      refine rn_isub 28 dX6_readDelay_27 rfl ?_
      rw [nI_sub1 (by omega)]
      refine rn_put 31 dX6_readDelay_28 fp_X6_26 rfl rfl rfl rfl rfl ?_
      refine rn_iconst (v := (-1)) 32 dX6_readDelay_31 (by decide) rfl ?_
      exact rn_iret rfl dX6_readDelay_32 (⟨rfl, by rw [mu_ss, mu_ss], rfl⟩)
    · skip
      have e : fDelay tx p = fNum tx (fSign tx 120 p).2 := by unfold fDelay; rw [if_neg (by rw [q]; decide), if_neg q2]
      rw [e]
      refine rn_aload_n 1 dX6_readDelay_0 rfl rfl rfl ?_
      refine rn_bipush (v := 120) 3 dX6_readDelay_1 (by decide) rfl ?_
      refine rn_cvm mX6_readSign [.int 120] [] 6 (some (.int (if false = true then 1 else 0))) (mu_s mu 5 4 (nI (fSign tx 120 p).2)) dX6_readDelay_3 cv_X6_47 rfl rfl rfl (by simp [Value.category]) rfl (hsg) ?_
      refine rn_if_eq 12 9 dX6_readDelay_6 (by decide) rfl (fun _ => ?_) (fun c6 => absurd (rfl) c6)
      refine rn_aload_n 13 dX6_readDelay_12 rfl rfl rfl ?_
      refine rn_cvm mX6_readNumber [] [] 16 (some (.int (oI (fNum tx (fSign tx 120 p).2).1))) (mu_s (mu_s mu 5 4 (nI (fSign tx 120 p).2)) 5 4 (nI (fNum tx (fSign tx 120 p).2).2)) dX6_readDelay_13 cv_X6_44 rfl rfl rfl (by simp [Value.category]) rfl (c_readNumber d (mu := mu_s mu 5 4 (nI (fSign tx 120 p).2)) h (xt_of (mu' := mu_s mu 5 4 (nI (fSign tx 120 p).2)) ht rfl rfl) rfl hf) ?_
      refine rn_istore_n 17 [some (.ref 5), some (.int (oI (fNum tx (fSign tx 120 p).2).1))] dX6_readDelay_16 rfl rfl (Nat.le_of_ble_eq_true rfl) rfl ?_
      refine rn_iload_n 18 dX6_readDelay_17 rfl rfl rfl ?_
      refine rn_if_ne 33 21 dX6_readDelay_18 (by decide) rfl (fun _ => ?_) (fun c18 => absurd c18 (fun z => q2 (h0.mp z)))
      refine rn_iload_n 34 dX6_readDelay_33 rfl rfl rfl ?_
      exact rn_iret rfl dX6_readDelay_34 (⟨rfl, by rw [mu_ss], rfl⟩)

set_option maxRecDepth 100000 in
set_option maxHeartbeats 2000000 in
theorem c_readCost (d : Nat) {tx : List Nat} {mu : Nat → Nat → Int32} (h : Int64) (ht : xt tx mu) {p : Nat} (h4 : mu 5 4 = nI p) (hp : p ≤ tx.length) : gd_G mX6_readCost (d + 3) [.ref 5] mu h (pq (some (.int (oI (fCost tx p).1))) (mu_s mu 5 4 (nI (fCost tx p).2)) h) := by
  have hs := sk_le hp
  have h110 := ht.1
  refine gd_of rfl (Nat.le_of_ble_eq_true rfl) ?_
  show rn_R none mX6_readCost (d + 3) 0 [some (.ref 5), none] [] mu h (pq (some (.int (oI (fCost tx p).1))) (mu_s mu 5 4 (nI (fCost tx p).2)) h)
  cases hb : dgN tx (sk tx p) with
  | none =>
    have e : fCost tx p = (none, sk tx p) := by unfold fCost; rw [hb]
    rw [e]
    refine rn_aload_n 1 dX6_readCost_0 rfl rfl rfl ?_
    refine rn_cvm mX6_skipBlanks [] [] 4 (none) (mu_s mu 5 4 (nI (sk tx p))) dX6_readCost_1 cv_X6_29 rfl rfl rfl (by simp [Value.category]) rfl (c_skipBlanks (d + 1) h ht h4 hp) ?_
    refine rn_aload_n 5 dX6_readCost_4 rfl rfl rfl ?_
    refine rn_aload_n 6 dX6_readCost_5 rfl rfl rfl ?_
    refine rn_get 9 (.int (nI (sk tx p))) dX6_readCost_6 fl_X6_26 rfl rfl rfl rfl ?_
    refine rn_cvp mX6_digitAt [.int (nI (sk tx p))] [] 12 (.int (oI (dgN tx (sk tx p)))) dX6_readCost_9 cv_X6_66 rfl rfl rfl (by simp [Value.category]) rfl (c_digitAt (d + 1) h (xt_of (mu' := mu_s mu 5 4 (nI (sk tx p))) ht rfl rfl) (by omega)) ?_
    rw [hb, show oI none = -1 from rfl]
    refine rn_istore_n 13 [some (.ref 5), some (.int (-1))] dX6_readCost_12 rfl rfl (Nat.le_of_ble_eq_true rfl) rfl ?_
    refine rn_iload_n 14 dX6_readCost_13 rfl rfl rfl ?_
    refine rn_iconst (v := 1) 15 dX6_readCost_14 (by decide) rfl ?_
    refine rn_icmp_ge 20 18 dX6_readCost_15 (by decide) rfl (fun c15 => absurd c15 (by decide)) (fun _ => ?_)
    refine rn_iconst (v := (-1)) 19 dX6_readCost_18 (by decide) rfl ?_
    exact rn_iret rfl dX6_readCost_19 (⟨rfl, rfl, rfl⟩)
  | some d1 =>
    have q1 := dgN_lt hb
    rcases Nat.eq_zero_or_pos d1 with q | q
    · skip
      subst q
      have e : fCost tx p = (none, sk tx p) := by unfold fCost; rw [hb]
      rw [e]
      refine rn_aload_n 1 dX6_readCost_0 rfl rfl rfl ?_
      refine rn_cvm mX6_skipBlanks [] [] 4 (none) (mu_s mu 5 4 (nI (sk tx p))) dX6_readCost_1 cv_X6_29 rfl rfl rfl (by simp [Value.category]) rfl (c_skipBlanks (d + 1) h ht h4 hp) ?_
      refine rn_aload_n 5 dX6_readCost_4 rfl rfl rfl ?_
      refine rn_aload_n 6 dX6_readCost_5 rfl rfl rfl ?_
      refine rn_get 9 (.int (nI (sk tx p))) dX6_readCost_6 fl_X6_26 rfl rfl rfl rfl ?_
      refine rn_cvp mX6_digitAt [.int (nI (sk tx p))] [] 12 (.int (oI (dgN tx (sk tx p)))) dX6_readCost_9 cv_X6_66 rfl rfl rfl (by simp [Value.category]) rfl (c_digitAt (d + 1) h (xt_of (mu' := mu_s mu 5 4 (nI (sk tx p))) ht rfl rfl) (by omega)) ?_
      rw [hb, show oI (some 0) = 0 from rfl]
      refine rn_istore_n 13 [some (.ref 5), some (.int (0))] dX6_readCost_12 rfl rfl (Nat.le_of_ble_eq_true rfl) rfl ?_
      refine rn_iload_n 14 dX6_readCost_13 rfl rfl rfl ?_
      refine rn_iconst (v := 1) 15 dX6_readCost_14 (by decide) rfl ?_
      refine rn_icmp_ge 20 18 dX6_readCost_15 (by decide) rfl (fun c15 => absurd c15 (by decide)) (fun _ => ?_)
      refine rn_iconst (v := (-1)) 19 dX6_readCost_18 (by decide) rfl ?_
      exact rn_iret rfl dX6_readCost_19 (⟨rfl, rfl, rfl⟩)
    · skip
      have e : fCost tx p = (some d1, sk tx p + 1) := by unfold fCost; rw [hb]; obtain ⟨k, rfl⟩ : ∃ k, d1 = k + 1 := ⟨d1 - 1, by omega⟩; rfl
      rw [e]
      refine rn_aload_n 1 dX6_readCost_0 rfl rfl rfl ?_
      refine rn_cvm mX6_skipBlanks [] [] 4 (none) (mu_s mu 5 4 (nI (sk tx p))) dX6_readCost_1 cv_X6_29 rfl rfl rfl (by simp [Value.category]) rfl (c_skipBlanks (d + 1) h ht h4 hp) ?_
      refine rn_aload_n 5 dX6_readCost_4 rfl rfl rfl ?_
      refine rn_aload_n 6 dX6_readCost_5 rfl rfl rfl ?_
      refine rn_get 9 (.int (nI (sk tx p))) dX6_readCost_6 fl_X6_26 rfl rfl rfl rfl ?_
      refine rn_cvp mX6_digitAt [.int (nI (sk tx p))] [] 12 (.int (oI (dgN tx (sk tx p)))) dX6_readCost_9 cv_X6_66 rfl rfl rfl (by simp [Value.category]) rfl (c_digitAt (d + 1) h (xt_of (mu' := mu_s mu 5 4 (nI (sk tx p))) ht rfl rfl) (by omega)) ?_
      rw [hb, show oI (some d1) = nI d1 from rfl]
      refine rn_istore_n 13 [some (.ref 5), some (.int (nI d1))] dX6_readCost_12 rfl rfl (Nat.le_of_ble_eq_true rfl) rfl ?_
      refine rn_iload_n 14 dX6_readCost_13 rfl rfl rfl ?_
      refine rn_iconst (v := 1) 15 dX6_readCost_14 (by decide) rfl ?_
      refine rn_icmp_ge 20 18 dX6_readCost_15 (by decide) rfl (fun _ => ?_) (fun c15 => absurd (nI_le (a := 1) q (by omega)) c15)
      refine rn_aload_n 21 dX6_readCost_20 rfl rfl rfl ?_
      refine rn_dup 22 dX6_readCost_21 rfl rfl ?_
      refine rn_get 25 (.int (nI (sk tx p))) dX6_readCost_22 fl_X6_26 rfl rfl rfl rfl ?_
      refine rn_iconst (v := 1) 26 dX6_readCost_25 (by decide) rfl ?_
      refine rn_iadd 27 dX6_readCost_26 rfl ?_
      rw [nI_1]
      refine rn_put 30 dX6_readCost_27 fp_X6_26 rfl rfl rfl rfl rfl ?_
      refine rn_iload_n 31 dX6_readCost_30 rfl rfl rfl ?_
      exact rn_iret rfl dX6_readCost_31 (⟨rfl, by rw [mu_ss], rfl⟩)
