/-! THE TEXT, read: what each reader takes -/
def lt (tx : List Nat) (p : Nat) : Int32 := match tx[p]? with
  | some b => nI b
  | none => -1
def skf (tx : List Nat) : Nat → Nat → Nat
  | 0, p => p
  | k + 1, p => if tx[p]? = some 32 then skf tx k (p + 1) else p
/-- the place behind blanks -/
def sk (tx : List Nat) (p : Nat) : Nat := skf tx (tx.length - p) p
theorem sk_b {tx : List Nat} {p : Nat} (h : tx[p]? = some 32) : sk tx p = sk tx (p + 1) := by
  have hl : p < tx.length := (List.getElem?_eq_some_iff.mp h).1
  unfold sk
  rw [show tx.length - p = (tx.length - (p + 1)) + 1 by omega]
  simp [skf, h]
theorem sk_n {tx : List Nat} {p : Nat} (h : ¬ tx[p]? = some 32) : sk tx p = p := by
  unfold sk
  cases tx.length - p with
  | zero => rfl
  | succ k => simp [skf, h]
theorem skf_le (tx : List Nat) : ∀ k p, p + k ≤ tx.length → p ≤ skf tx k p ∧ skf tx k p ≤ p + k := by
  intro k
  induction k with
  | zero => intro p _; simp [skf]
  | succ k ih =>
    intro p hp
    simp only [skf]
    by_cases h : tx[p]? = some 32
    · rw [if_pos h]
      have := ih (p + 1) (by omega)
      omega
    · rw [if_neg h]
      omega
theorem sk_le {tx : List Nat} {p : Nat} (h : p ≤ tx.length) : p ≤ sk tx p ∧ sk tx p ≤ tx.length := by
  have := skf_le tx (tx.length - p) p (by omega)
  unfold sk
  omega
theorem skf_end (tx : List Nat) : ∀ k p, p + k = tx.length → ¬ tx[skf tx k p]? = some 32 := by
  intro k
  induction k with
  | zero => intro p hp; simp [skf]; rw [List.getElem?_eq_none (by omega)]; simp
  | succ k ih =>
    intro p hp
    simp only [skf]
    by_cases h : tx[p]? = some 32
    · rw [if_pos h]; exact ih (p + 1) (by omega)
    · rw [if_neg h]; exact h
theorem sk_end {tx : List Nat} {p : Nat} (h : p ≤ tx.length) : ¬ tx[sk tx p]? = some 32 := skf_end tx _ p (by omega)
theorem sk_sk {tx : List Nat} {p : Nat} (h : p ≤ tx.length) : sk tx (sk tx p) = sk tx p := sk_n (sk_end h)
theorem lt_some {tx : List Nat} {p b : Nat} (h : tx[p]? = some b) : lt tx p = nI b := by unfold lt; rw [h]
theorem lt_none {tx : List Nat} {p : Nat} (h : tx[p]? = none) : lt tx p = -1 := by unfold lt; rw [h]
theorem lt_is {tx : List Nat} (ht : ∀ b ∈ tx, b < 128) {p c : Nat} (hc : c < 128) : lt tx p = nI c ↔ tx[p]? = some c := by
  cases h : tx[p]? with
  | none => rw [lt_none h]; exact ⟨fun q => absurd q (by have := nI_pos (n := c) (by omega); intro z; rw [← z] at this; exact this (by decide)), fun q => by cases q⟩
  | some b =>
    rw [lt_some h, nI_eq (by have := ht b (List.mem_of_getElem? h); omega) (by omega)]
    exact ⟨fun q => by rw [q], fun q => by cases q; rfl⟩
/-- a digit -/
def dgN (tx : List Nat) (p : Nat) : Option Nat := match tx[p]? with
  | some b => if 48 ≤ b ∧ b ≤ 57 then some (b - 48) else none
  | none => none
def oI (o : Option Nat) : Int32 := match o with
  | some k => nI k
  | none => -1
theorem dgN_lt {tx : List Nat} {p k : Nat} (h : dgN tx p = some k) : k < 10 ∧ p < tx.length := by
  unfold dgN at h
  cases hb : tx[p]? with
  | none => rw [hb] at h; cases h
  | some b =>
    rw [hb] at h
    simp only at h
    split at h
    · cases h; exact ⟨by omega, (List.getElem?_eq_some_iff.mp hb).1⟩
    · cases h
def fNode (tx : List Nat) (p : Nat) : Option Nat × Nat := match tx[sk tx p]? with
  | some b => if 97 ≤ b ∧ b ≤ 104 then (some (b - 97), sk tx p + 1) else (none, sk tx p)
  | none => (none, sk tx p)
def fOther (tx : List Nat) (a p : Nat) : Option Nat × Nat := match (fNode tx p).1 with
  | some b => if b = a then (none, (fNode tx p).2 - 1) else (some b, (fNode tx p).2)
  | none => (none, (fNode tx p).2)
def fNum (tx : List Nat) (p : Nat) : Option Nat × Nat := match dgN tx (sk tx p) with
  | none => (none, sk tx p)
  | some d1 => match dgN tx (sk tx p + 1) with
    | none => (some d1, sk tx p + 1)
    | some d2 => (some (10 * d1 + d2), sk tx p + 2)
def fSign (tx : List Nat) (c p : Nat) : Bool × Nat := if tx[sk tx p]? = some c then (true, sk tx p + 1) else (false, sk tx p)
def fDelay (tx : List Nat) (p : Nat) : Option Nat × Nat := if (fSign tx 120 p).1 then (some 100, (fSign tx 120 p).2) else if (fNum tx (fSign tx 120 p).2).1 = some 0 then (none, (fNum tx (fSign tx 120 p).2).2 - 1) else fNum tx (fSign tx 120 p).2
def fCost (tx : List Nat) (p : Nat) : Option Nat × Nat := match dgN tx (sk tx p) with
  | some (k + 1) => (some (k + 1), sk tx p + 1)
  | _ => (none, sk tx p)
theorem mu_ss (mu : Nat → Nat → Int32) (i j : Nat) (v w : Int32) : mu_s (mu_s mu i j v) i j w = mu_s mu i j w := by
  funext a
  unfold mu_s
  by_cases ha : a = i
  · simp only [ha, if_true]
    funext b
    unfold upd
    by_cases hb : b = j <;> simp [hb]
  · simp [ha]
theorem mu_same {mu : Nat → Nat → Int32} {i j : Nat} {v : Int32} (h : mu i j = v) : mu_s mu i j v = mu := by
  funext a
  unfold mu_s
  by_cases ha : a = i
  · subst ha
    simp only [if_true]
    funext b
    unfold upd
    by_cases hb : b = j
    · subst hb; simp [h]
    · simp [hb]
  · simp [ha]

set_option maxRecDepth 100000 in
set_option maxHeartbeats 2000000 in
theorem c_letterAt (d : Nat) {tx : List Nat} {mu : Nat → Nat → Int32} (h : Int64) (ht : xt tx mu) {p : Nat} (hp : p ≤ 200) : gd_G mX6_letterAt d [.ref 5, .int (nI p)] mu h (pq (some (.int (lt tx p))) mu h) := by
  refine gd_of rfl (Nat.le_of_ble_eq_true rfl) ?_
  show rn_R none mX6_letterAt d 0 [some (.ref 5), some (.int (nI p))] [] mu h (pq (some (.int (lt tx p))) mu h)
  cases hb : tx[p]? with
  | none =>
    have hl : tx.length ≤ p := List.getElem?_eq_none_iff.mp hb
    refine rn_iload_n 1 dX6_letterAt_0 rfl rfl rfl ?_
    refine rn_if_lt 27 4 dX6_letterAt_1 (by decide) rfl (fun c1 => absurd c1 (nI_pos (by omega))) (fun _ => ?_)
    refine rn_iload_n 5 dX6_letterAt_4 rfl rfl rfl ?_
    refine rn_aload_n 6 dX6_letterAt_5 rfl rfl rfl ?_
    refine rn_get 9 (.int (mu 5 2)) dX6_letterAt_6 fl_X6_19 rfl rfl rfl rfl ?_
    refine rn_icmp_ge 27 12 dX6_letterAt_9 (by decide) rfl (fun _ => ?_) (fun c9 => absurd (by rw [ht.2.1]; exact nI_le hl (by omega)) c9)
    refine rn_iconst (v := (-1)) 28 dX6_letterAt_27 (by decide) rfl ?_
    exact rn_iret rfl dX6_letterAt_28 (⟨by rw [lt_none hb], rfl, rfl⟩)
  | some b =>
    have hl : p < tx.length := (List.getElem?_eq_some_iff.mp hb).1
    have h110 := ht.1
    refine rn_iload_n 1 dX6_letterAt_0 rfl rfl rfl ?_
    refine rn_if_lt 27 4 dX6_letterAt_1 (by decide) rfl (fun c1 => absurd c1 (nI_pos (by omega))) (fun _ => ?_)
    refine rn_iload_n 5 dX6_letterAt_4 rfl rfl rfl ?_
    refine rn_aload_n 6 dX6_letterAt_5 rfl rfl rfl ?_
    refine rn_get 9 (.int (mu 5 2)) dX6_letterAt_6 fl_X6_19 rfl rfl rfl rfl ?_
    refine rn_icmp_ge 27 12 dX6_letterAt_9 (by decide) rfl (fun c9 => absurd c9 (by rw [ht.2.1]; exact nI_ge hl (by omega))) (fun _ => ?_)
    refine rn_iload_n 13 dX6_letterAt_12 rfl rfl rfl ?_
    refine rn_bipush (v := 110) 15 dX6_letterAt_13 (by decide) rfl ?_
    refine rn_icmp_ge 27 18 dX6_letterAt_15 (by decide) rfl (fun c15 => absurd c15 (nI_ge (b := 110) (by omega) (by omega))) (fun _ => ?_)
    refine rn_aload_n 19 dX6_letterAt_18 rfl rfl rfl ?_
    refine rn_get 22 (.ref 6) dX6_letterAt_19 fl_X6_9 rfl rfl rfl rfl ?_
    refine rn_iload_n 23 dX6_letterAt_22 rfl rfl rfl ?_
    refine rn_bald 24 (nI b) dX6_letterAt_23 rfl (vp_in_nI (by omega) (by omega)) (by rw [nI_clamp (by omega)]; exact ht.2.2.2 p b hb) rfl ?_
    refine rn_goto 28 dX6_letterAt_24 (by decide) ?_
    exact rn_iret rfl dX6_letterAt_28 (⟨by rw [lt_some hb], rfl, rfl⟩)

set_option maxRecDepth 100000 in
set_option maxHeartbeats 2000000 in
theorem c_digitAt (d : Nat) {tx : List Nat} {mu : Nat → Nat → Int32} (h : Int64) (ht : xt tx mu) {p : Nat} (hp : p ≤ 200) : gd_G mX6_digitAt (d + 1) [.ref 5, .int (nI p)] mu h (pq (some (.int (oI (dgN tx p)))) mu h) := by
  refine gd_of rfl (Nat.le_of_ble_eq_true rfl) ?_
  show rn_R none mX6_digitAt (d + 1) 0 [some (.ref 5), some (.int (nI p)), none] [] mu h (pq (some (.int (oI (dgN tx p)))) mu h)
  cases hb : tx[p]? with
  | none =>
    refine rn_aload_n 1 dX6_digitAt_0 rfl rfl rfl ?_
    refine rn_iload_n 2 dX6_digitAt_1 rfl rfl rfl ?_
    refine rn_cvp mX6_letterAt [.int (nI p)] [] 5 (.int (lt tx p)) dX6_digitAt_2 cv_X6_63 rfl rfl rfl (by simp [Value.category]) rfl (c_letterAt d h ht hp) ?_
    rw [lt_none hb]
    refine rn_istore_n 6 [some (.ref 5), some (.int (nI p)), some (.int (-1))] dX6_digitAt_5 rfl rfl (Nat.le_of_ble_eq_true rfl) rfl ?_
    refine rn_iload_n 7 dX6_digitAt_6 rfl rfl rfl ?_
    refine rn_bipush (v := 48) 9 dX6_digitAt_7 (by decide) rfl ?_
    refine rn_icmp_lt 25 12 dX6_digitAt_9 (by decide) rfl (fun _ => ?_) (fun c9 => absurd (by decide) c9)
    refine rn_iconst (v := (-1)) 26 dX6_digitAt_25 (by decide) rfl ?_
    exact rn_iret rfl dX6_digitAt_26 (⟨by unfold dgN; rw [hb]; rfl, rfl, rfl⟩)
  | some b =>
    have hlt := ht.2.2.1 b (List.mem_of_getElem? hb)
    rcases (show b < 48 ∨ 57 < b ∨ (48 ≤ b ∧ b ≤ 57) by omega) with q | q | q
    · skip
      refine rn_aload_n 1 dX6_digitAt_0 rfl rfl rfl ?_
      refine rn_iload_n 2 dX6_digitAt_1 rfl rfl rfl ?_
      refine rn_cvp mX6_letterAt [.int (nI p)] [] 5 (.int (lt tx p)) dX6_digitAt_2 cv_X6_63 rfl rfl rfl (by simp [Value.category]) rfl (c_letterAt d h ht hp) ?_
      rw [lt_some hb]
      refine rn_istore_n 6 [some (.ref 5), some (.int (nI p)), some (.int (nI b))] dX6_digitAt_5 rfl rfl (Nat.le_of_ble_eq_true rfl) rfl ?_
      refine rn_iload_n 7 dX6_digitAt_6 rfl rfl rfl ?_
      refine rn_bipush (v := 48) 9 dX6_digitAt_7 (by decide) rfl ?_
      refine rn_icmp_lt 25 12 dX6_digitAt_9 (by decide) rfl (fun _ => ?_) (fun c9 => absurd (nI_lt (b := 48) q (by omega)) c9)
      refine rn_iconst (v := (-1)) 26 dX6_digitAt_25 (by decide) rfl ?_
      exact rn_iret rfl dX6_digitAt_26 (⟨by unfold dgN; rw [hb]; simp only; rw [if_neg (by omega)]; rfl, rfl, rfl⟩)
    · skip
      refine rn_aload_n 1 dX6_digitAt_0 rfl rfl rfl ?_
      refine rn_iload_n 2 dX6_digitAt_1 rfl rfl rfl ?_
      refine rn_cvp mX6_letterAt [.int (nI p)] [] 5 (.int (lt tx p)) dX6_digitAt_2 cv_X6_63 rfl rfl rfl (by simp [Value.category]) rfl (c_letterAt d h ht hp) ?_
      rw [lt_some hb]
      refine rn_istore_n 6 [some (.ref 5), some (.int (nI p)), some (.int (nI b))] dX6_digitAt_5 rfl rfl (Nat.le_of_ble_eq_true rfl) rfl ?_
      refine rn_iload_n 7 dX6_digitAt_6 rfl rfl rfl ?_
      refine rn_bipush (v := 48) 9 dX6_digitAt_7 (by decide) rfl ?_
      refine rn_icmp_lt 25 12 dX6_digitAt_9 (by decide) rfl (fun c9 => absurd c9 (nI_nlt (b := 48) (by omega) (by omega))) (fun _ => ?_)
      refine rn_iload_n 13 dX6_digitAt_12 rfl rfl rfl ?_
      refine rn_bipush (v := 57) 15 dX6_digitAt_13 (by decide) rfl ?_
      refine rn_icmp_gt 25 18 dX6_digitAt_15 (by decide) rfl (fun _ => ?_) (fun c15 => absurd (nI_lt (a := 57) q (by omega)) c15)
      refine rn_iconst (v := (-1)) 26 dX6_digitAt_25 (by decide) rfl ?_
      exact rn_iret rfl dX6_digitAt_26 (⟨by unfold dgN; rw [hb]; simp only; rw [if_neg (by omega)]; rfl, rfl, rfl⟩)
    · skip
      refine rn_aload_n 1 dX6_digitAt_0 rfl rfl rfl ?_
      refine rn_iload_n 2 dX6_digitAt_1 rfl rfl rfl ?_
      refine rn_cvp mX6_letterAt [.int (nI p)] [] 5 (.int (lt tx p)) dX6_digitAt_2 cv_X6_63 rfl rfl rfl (by simp [Value.category]) rfl (c_letterAt d h ht hp) ?_
      rw [lt_some hb]
      refine rn_istore_n 6 [some (.ref 5), some (.int (nI p)), some (.int (nI b))] dX6_digitAt_5 rfl rfl (Nat.le_of_ble_eq_true rfl) rfl ?_
      refine rn_iload_n 7 dX6_digitAt_6 rfl rfl rfl ?_
      refine rn_bipush (v := 48) 9 dX6_digitAt_7 (by decide) rfl ?_
      refine rn_icmp_lt 25 12 dX6_digitAt_9 (by decide) rfl (fun c9 => absurd c9 (nI_nlt (b := 48) (by omega) (by omega))) (fun _ => ?_)
      refine rn_iload_n 13 dX6_digitAt_12 rfl rfl rfl ?_
      refine rn_bipush (v := 57) 15 dX6_digitAt_13 (by decide) rfl ?_
      refine rn_icmp_gt 25 18 dX6_digitAt_15 (by decide) rfl (fun c15 => absurd c15 (nI_nlt (a := 57) (by omega) (by omega))) (fun _ => ?_)
      refine rn_iload_n 19 dX6_digitAt_18 rfl rfl rfl ?_
      refine rn_bipush (v := 48) 21 dX6_digitAt_19 (by decide) rfl ?_
      refine rn_isub 22 dX6_digitAt_21 rfl ?_
      refine rn_goto 26 dX6_digitAt_22 (by decide) ?_
      exact rn_iret rfl dX6_digitAt_26 (⟨by unfold dgN; rw [hb]; simp only; rw [if_pos q]; show _ = some (Value.int (nI (b - 48))); rw [← pk_sub q.1]; rfl, rfl, rfl⟩)

set_option maxRecDepth 100000 in
set_option maxHeartbeats 2000000 in
theorem lp_skip (d : Nat) {tx : List Nat} (h : Int64) : ∀ (k p : Nat) (mu : Nat → Nat → Int32), xt tx mu → mu 5 4 = nI p → p + k = tx.length → rn_R none mX6_skipBlanks (d + 1) 0 [some (.ref 5)] [] mu h (pq none (mu_s mu 5 4 (nI (sk tx p))) h) := by
  intro k
  induction k with
  | zero =>
    intro p mu ht h4 hk
    have h110 := ht.1
    refine rn_aload_n 1 dX6_skipBlanks_0 rfl rfl rfl ?_
    refine rn_get 4 (.int (mu 5 4)) dX6_skipBlanks_1 fl_X6_26 rfl rfl rfl rfl ?_
    refine rn_aload_n 5 dX6_skipBlanks_4 rfl rfl rfl ?_
    refine rn_get 8 (.int (mu 5 2)) dX6_skipBlanks_5 fl_X6_19 rfl rfl rfl rfl ?_
    refine rn_icmp_ge 37 11 dX6_skipBlanks_8 (by decide) rfl (fun _ => ?_) (fun c8 => absurd (by rw [ht.2.1, h4]; exact nI_le (by omega) (by omega)) c8)
    exact rn_vret rfl dX6_skipBlanks_37 (⟨rfl, by rw [sk_n (by rw [List.getElem?_eq_none (by omega)]; simp), mu_same h4], rfl⟩)
  | succ k ih =>
    intro p mu ht h4 hk
    have h110 := ht.1
    refine rn_aload_n 1 dX6_skipBlanks_0 rfl rfl rfl ?_
    refine rn_get 4 (.int (mu 5 4)) dX6_skipBlanks_1 fl_X6_26 rfl rfl rfl rfl ?_
    refine rn_aload_n 5 dX6_skipBlanks_4 rfl rfl rfl ?_
    refine rn_get 8 (.int (mu 5 2)) dX6_skipBlanks_5 fl_X6_19 rfl rfl rfl rfl ?_
    refine rn_icmp_ge 37 11 dX6_skipBlanks_8 (by decide) rfl (fun c8 => absurd c8 (by rw [ht.2.1, h4]; exact nI_ge (by omega) (by omega))) (fun _ => ?_)
    refine rn_aload_n 12 dX6_skipBlanks_11 rfl rfl rfl ?_
    refine rn_aload_n 13 dX6_skipBlanks_12 rfl rfl rfl ?_
    refine rn_get 16 (.int (mu 5 4)) dX6_skipBlanks_13 fl_X6_26 rfl rfl rfl rfl ?_
    rw [h4]
    refine rn_cvp mX6_letterAt [.int (nI p)] [] 19 (.int (lt tx p)) dX6_skipBlanks_16 cv_X6_63 rfl rfl rfl (by simp [Value.category]) rfl (c_letterAt d h ht (by omega)) ?_
    refine rn_bipush (v := 32) 21 dX6_skipBlanks_19 (by decide) rfl ?_
    by_cases hb : tx[p]? = some 32
    · skip
      refine rn_icmp_ne 37 24 dX6_skipBlanks_21 (by decide) rfl (fun c21 => absurd ((lt_is ht.2.2.1 (c := 32) (by omega)).mpr hb) c21) (fun _ => ?_)
      refine rn_aload_n 25 dX6_skipBlanks_24 rfl rfl rfl ?_
      refine rn_dup 26 dX6_skipBlanks_25 rfl rfl ?_
      refine rn_get 29 (.int (mu 5 4)) dX6_skipBlanks_26 fl_X6_26 rfl rfl rfl rfl ?_
      refine rn_iconst (v := 1) 30 dX6_skipBlanks_29 (by decide) rfl ?_
      refine rn_iadd 31 dX6_skipBlanks_30 rfl ?_
      rw [show mu 5 4 + 1 = nI (p + 1) by rw [h4, nI_1]]
      refine rn_put 34 dX6_skipBlanks_31 fp_X6_26 rfl rfl rfl rfl rfl ?_
      refine rn_goto 0 dX6_skipBlanks_34 (by decide) ?_
      have z := ih (p + 1) (mu_s mu 5 4 (nI (p + 1))) (xt_of ht rfl rfl) rfl (by omega)
      rw [mu_ss, ← sk_b hb] at z
      exact z
    · skip
      refine rn_icmp_ne 37 24 dX6_skipBlanks_21 (by decide) rfl (fun _ => ?_) (fun c21 => absurd c21 (fun q => hb ((lt_is ht.2.2.1 (c := 32) (by omega)).mp q)))
      exact rn_vret rfl dX6_skipBlanks_37 (⟨rfl, by rw [sk_n (by exact hb), mu_same h4], rfl⟩)

theorem c_skipBlanks (d : Nat) {tx : List Nat} {mu : Nat → Nat → Int32} (h : Int64) (ht : xt tx mu) {p : Nat} (h4 : mu 5 4 = nI p) (hp : p ≤ tx.length) : gd_G mX6_skipBlanks (d + 1) [.ref 5] mu h (pq none (mu_s mu 5 4 (nI (sk tx p))) h) := by
  refine gd_of rfl (Nat.le_of_ble_eq_true rfl) ?_
  exact lp_skip d h (tx.length - p) p mu ht h4 (by omega)
