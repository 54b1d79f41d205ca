/-! THE TEXT, read by the class: an edge, the whole -/
def fEdge (tx : List Nat) (p : Nat) : Option Ed × Nat :=
  match (fNode tx p).1 with
  | none => (none, (fNode tx p).2)
  | some a => match (fOther tx a (fNode tx p).2).1 with
    | none => (none, (fOther tx a (fNode tx p).2).2)
    | some b => match (fNum tx (fOther tx a (fNode tx p).2).2).1 with
      | none => (none, (fNum tx (fOther tx a (fNode tx p).2).2).2)
      | some l => match fSign tx 43 (fNum tx (fOther tx a (fNode tx p).2).2).2 with
        | (false, q) => (none, q)
        | (true, q) => match (fDelay tx q).1 with
          | none => (none, (fDelay tx q).2)
          | some y => match fSign tx 58 (fDelay tx q).2 with
            | (false, q2) => (none, q2)
            | (true, q2) => match (fCost tx q2).1 with
              | none => (none, (fCost tx q2).2)
              | some c => (some (a, b, l, y, c), (fCost tx q2).2)
theorem fEdge_ok {tx : List Nat} {p : Nat} (hp : p ≤ tx.length) : (fEdge tx p).2 ≤ tx.length ∧ ∀ x, (fEdge tx p).1 = some x → e_ok x ∧ x.1 ≠ x.2.1 := by
  have h1 := fNode_le hp
  unfold fEdge
  cases e1 : (fNode tx p).1 with
  | none => exact ⟨h1.1, fun x q => by cases q⟩
  | some a =>
    have h2 := fOther_le (a := a) h1.1
    simp only
    cases e2 : (fOther tx a (fNode tx p).2).1 with
    | none => exact ⟨h2.1, fun x q => by cases q⟩
    | some b =>
      have h3 := fNum_le h2.1
      simp only
      cases e3 : (fNum tx (fOther tx a (fNode tx p).2).2).1 with
      | none => exact ⟨h3.1, fun x q => by cases q⟩
      | some l =>
        have h4 := fSign_le (c := 43) h3.1
        simp only
        cases e4 : fSign tx 43 (fNum tx (fOther tx a (fNode tx p).2).2).2 with
        | mk b4 q4 =>
          rw [e4] at h4
          cases b4 with
          | false => exact ⟨h4, fun x q => by cases q⟩
          | true =>
            have h5 := fDelay_le h4
            simp only at h5 ⊢
            cases e5 : (fDelay tx q4).1 with
            | none => exact ⟨h5.1, fun x q => by cases q⟩
            | some y =>
              have h6 := fSign_le (c := 58) h5.1
              simp only
              cases e6 : fSign tx 58 (fDelay tx q4).2 with
              | mk b6 q6 =>
                rw [e6] at h6
                cases b6 with
                | false => exact ⟨h6, fun x q => by cases q⟩
                | true =>
                  have h7 := fCost_le h6
                  simp only at h7 ⊢
                  cases e7 : (fCost tx q6).1 with
                  | none => exact ⟨h7.1, fun x q => by cases q⟩
                  | some c =>
                    refine ⟨h7.1, fun x q => ?_⟩
                    cases q
                    exact ⟨⟨(h1.2 a e1).1, (h2.2 b e2).1, (h3.2 l e3).1, h5.2 y e5, h7.2 c e7⟩, fun z => (h2.2 b e2).2 z.symm⟩
def scF (tx : List Nat) : Nat → Nat → List Ed → Option Nat × List Ed
  | 0, p, acc => (some p, acc)
  | k + 1, p, acc => if tx.length ≤ p then (none, acc) else if 16 ≤ acc.length then (some p, acc) else match fEdge tx p with
    | (none, q) => (some q, acc)
    | (some x, q) => scF tx k (sk tx q) (acc ++ [x])

set_option maxRecDepth 100000 in
set_option maxHeartbeats 2000000 in
theorem c_readEdge_16 (d : Nat) {tx : List Nat} {mu : Nat → Nat → Int32} (h : Int64) (ht : xt tx mu) {p : Nat} (h4 : mu 5 4 = nI p) (hp : p ≤ tx.length) {ne : Nat} (h3 : mu 5 3 = nI ne) (hn : 16 ≤ ne) (hn2 : ne < 2 ^ 31) : gd_G mX6_readEdge d [.ref 5] mu h (pq (some (.int 0)) mu h) := by
  refine gd_of rfl (Nat.le_of_ble_eq_true rfl) ?_
  show rn_R none mX6_readEdge d 0 [some (.ref 5), none, none, none, none, none] [] mu h (pq (some (.int 0)) mu h)
  refine rn_aload_n 1 dX6_readEdge_0 rfl rfl rfl ?_
  refine rn_get 4 (.int (mu 5 3)) dX6_readEdge_1 fl_X6_23 rfl rfl rfl rfl ?_
  refine rn_bipush (v := 16) 6 dX6_readEdge_4 (by decide) rfl ?_
  refine rn_icmp_ge 16 9 dX6_readEdge_6 (by decide) rfl (fun _ => ?_) (fun c6 => absurd (by rw [h3]; exact nI_le (a := 16) hn hn2) c6)
  refine rn_iconst (v := (-1)) 17 dX6_readEdge_16 (by decide) rfl ?_
  refine rn_istore_n 18 [some (.ref 5), some (.int (-1)), none, none, none, none] dX6_readEdge_17 rfl rfl (Nat.le_of_ble_eq_true rfl) rfl ?_
  refine rn_iload_n 19 dX6_readEdge_18 rfl rfl rfl ?_
  refine rn_iconst (v := (-1)) 20 dX6_readEdge_19 (by decide) rfl ?_
  refine rn_icmp_ne 25 23 dX6_readEdge_20 (by decide) rfl (fun c20 => absurd (rfl) c20) (fun _ => ?_)
  refine rn_iconst (v := 0) 24 dX6_readEdge_23 (by decide) rfl ?_
  exact rn_zret rfl dX6_readEdge_24 rfl (⟨rfl, rfl, rfl⟩)

set_option maxRecDepth 100000 in
set_option maxHeartbeats 2000000 in
theorem c_readEdge (d : Nat) {tx : List Nat} {mu : Nat → Nat → Int32} (h : Int64) (ht : xt tx mu) {p : Nat} (h4 : mu 5 4 = nI p) (hp : p ≤ tx.length) {ne : Nat} (h3 : mu 5 3 = nI ne) (hn : ne < 16) : gd_G mX6_readEdge (d + 6) [.ref 5] mu h (fun r mu' h' => r = some (.int (if (fEdge tx p).1.isSome then 1 else 0)) ∧ mu' = (match (fEdge tx p).1 with | none => mu_s mu 5 4 (nI (fEdge tx p).2) | some x => mu_s (mu_s (mu_s mu 5 4 (nI (fEdge tx p).2)) 7 ne (pkx x)) 5 3 (nI (ne + 1))) ∧ h' = h) := by
  refine gd_of rfl (Nat.le_of_ble_eq_true rfl) ?_
  show rn_R none mX6_readEdge (d + 6) 0 [some (.ref 5), none, none, none, none, none] [] mu h (fun r mu' h' => r = some (.int (if (fEdge tx p).1.isSome then 1 else 0)) ∧ mu' = (match (fEdge tx p).1 with | none => mu_s mu 5 4 (nI (fEdge tx p).2) | some x => mu_s (mu_s (mu_s mu 5 4 (nI (fEdge tx p).2)) 7 ne (pkx x)) 5 3 (nI (ne + 1))) ∧ h' = h)
  have hf1 := fNode_le hp
  cases e1 : (fNode tx p).1 with
  | none =>
    have e : fEdge tx p = (none, (fNode tx p).2) := by unfold fEdge; simp only [e1]
    rw [e]
    refine rn_aload_n 1 dX6_readEdge_0 rfl rfl rfl ?_
    refine rn_get 4 (.int (mu 5 3)) dX6_readEdge_1 fl_X6_23 rfl rfl rfl rfl ?_
    refine rn_bipush (v := 16) 6 dX6_readEdge_4 (by decide) rfl ?_
    refine rn_icmp_ge 16 9 dX6_readEdge_6 (by decide) rfl (fun c6 => absurd c6 (by rw [h3]; exact nI_ge (b := 16) hn (by omega))) (fun _ => ?_)
    refine rn_aload_n 10 dX6_readEdge_9 rfl rfl rfl ?_
    refine rn_cvm mX6_readNode [] [] 13 (some (.int (oI (fNode tx p).1))) (mu_s mu 5 4 (nI (fNode tx p).2)) dX6_readEdge_10 cv_X6_36 rfl rfl rfl (by simp [Value.category]) rfl (c_readNode (d + 3) h ht h4 hp) ?_
    rw [e1, show oI none = -1 from rfl]
    refine rn_goto 17 dX6_readEdge_13 (by decide) ?_
    refine rn_istore_n 18 [some (.ref 5), some (.int (-1)), none, none, none, none] dX6_readEdge_17 rfl rfl (Nat.le_of_ble_eq_true rfl) rfl ?_
    refine rn_iload_n 19 dX6_readEdge_18 rfl rfl rfl ?_
    refine rn_iconst (v := (-1)) 20 dX6_readEdge_19 (by decide) rfl ?_
    refine rn_icmp_ne 25 23 dX6_readEdge_20 (by decide) rfl (fun c20 => absurd (rfl) c20) (fun _ => ?_)
    refine rn_iconst (v := 0) 24 dX6_readEdge_23 (by decide) rfl ?_
    exact rn_zret rfl dX6_readEdge_24 rfl (⟨rfl, rfl, rfl⟩)
  | some a =>
    have k1 := (hf1.2 a e1).1
    have hf2 := fOther_le (a := a) hf1.1
    cases e2 : (fOther tx a (fNode tx p).2).1 with
    | none =>
      have e : fEdge tx p = (none, (fOther tx a (fNode tx p).2).2) := by unfold fEdge; simp only [e1, e2]
      rw [e]
      refine rn_aload_n 1 dX6_readEdge_0 rfl rfl rfl ?_
      refine rn_get 4 (.int (mu 5 3)) dX6_readEdge_1 fl_X6_23 rfl rfl rfl rfl ?_
      refine rn_bipush (v := 16) 6 dX6_readEdge_4 (by decide) rfl ?_
      refine rn_icmp_ge 16 9 dX6_readEdge_6 (by decide) rfl (fun c6 => absurd c6 (by rw [h3]; exact nI_ge (b := 16) hn (by omega))) (fun _ => ?_)
      refine rn_aload_n 10 dX6_readEdge_9 rfl rfl rfl ?_
      refine rn_cvm mX6_readNode [] [] 13 (some (.int (oI (fNode tx p).1))) (mu_s mu 5 4 (nI (fNode tx p).2)) dX6_readEdge_10 cv_X6_36 rfl rfl rfl (by simp [Value.category]) rfl (c_readNode (d + 3) h ht h4 hp) ?_
      rw [e1, show oI (some a) = nI a from rfl]
      refine rn_goto 17 dX6_readEdge_13 (by decide) ?_
      refine rn_istore_n 18 [some (.ref 5), some (.int (nI a)), none, none, none, none] dX6_readEdge_17 rfl rfl (Nat.le_of_ble_eq_true rfl) rfl ?_
      refine rn_iload_n 19 dX6_readEdge_18 rfl rfl rfl ?_
      refine rn_iconst (v := (-1)) 20 dX6_readEdge_19 (by decide) rfl ?_
      refine rn_icmp_ne 25 23 dX6_readEdge_20 (by decide) rfl (fun _ => ?_) (fun c20 => absurd c20 (fun z => absurd (by rw [z]; decide) (nI_pos (n := a) (by omega))))
      refine rn_aload_n 26 dX6_readEdge_25 rfl rfl rfl ?_
      refine rn_iload_n 27 dX6_readEdge_26 rfl rfl rfl ?_
      refine rn_cvm mX6_readOtherNode [.int (nI a)] [] 30 (some (.int (oI (fOther tx a (fNode tx p).2).1))) (mu_s (mu_s mu 5 4 (nI (fNode tx p).2)) 5 4 (nI (fOther tx a (fNode tx p).2).2)) dX6_readEdge_27 cv_X6_40 rfl rfl rfl (by simp [Value.category]) rfl (c_readOther (d + 2) (mu := mu_s mu 5 4 (nI (fNode tx p).2)) h (xt_of (mu' := mu_s mu 5 4 (nI (fNode tx p).2)) ht rfl rfl) rfl hf1.1 k1) ?_
      rw [mu_ss]
      rw [e2, show oI none = -1 from rfl]
      refine rn_istore_n 31 [some (.ref 5), some (.int (nI a)), some (.int (-1)), none, none, none] dX6_readEdge_30 rfl rfl (Nat.le_of_ble_eq_true rfl) rfl ?_
      refine rn_iload_n 32 dX6_readEdge_31 rfl rfl rfl ?_
      refine rn_iconst (v := (-1)) 33 dX6_readEdge_32 (by decide) rfl ?_
      refine rn_icmp_ne 38 36 dX6_readEdge_33 (by decide) rfl (fun c33 => absurd (rfl) c33) (fun _ => ?_)
      refine rn_iconst (v := 0) 37 dX6_readEdge_36 (by decide) rfl ?_
      exact rn_zret rfl dX6_readEdge_37 rfl (⟨rfl, rfl, rfl⟩)
    | some b =>
      have k2 := (hf2.2 b e2).1
      have hf3 := fNum_le hf2.1
      cases e3 : (fNum tx (fOther tx a (fNode tx p).2).2).1 with
      | none =>
        have e : fEdge tx p = (none, (fNum tx (fOther tx a (fNode tx p).2).2).2) := by unfold fEdge; simp only [e1, e2, e3]
        rw [e]
        refine rn_aload_n 1 dX6_readEdge_0 rfl rfl rfl ?_
        refine rn_get 4 (.int (mu 5 3)) dX6_readEdge_1 fl_X6_23 rfl rfl rfl rfl ?_
        refine rn_bipush (v := 16) 6 dX6_readEdge_4 (by decide) rfl ?_
        refine rn_icmp_ge 16 9 dX6_readEdge_6 (by decide) rfl (fun c6 => absurd c6 (by rw [h3]; exact nI_ge (b := 16) hn (by omega))) (fun _ => ?_)
        refine rn_aload_n 10 dX6_readEdge_9 rfl rfl rfl ?_
        refine rn_cvm mX6_readNode [] [] 13 (some (.int (oI (fNode tx p).1))) (mu_s mu 5 4 (nI (fNode tx p).2)) dX6_readEdge_10 cv_X6_36 rfl rfl rfl (by simp [Value.category]) rfl (c_readNode (d + 3) h ht h4 hp) ?_
        rw [e1, show oI (some a) = nI a from rfl]
        refine rn_goto 17 dX6_readEdge_13 (by decide) ?_
        refine rn_istore_n 18 [some (.ref 5), some (.int (nI a)), none, none, none, none] dX6_readEdge_17 rfl rfl (Nat.le_of_ble_eq_true rfl) rfl ?_
        refine rn_iload_n 19 dX6_readEdge_18 rfl rfl rfl ?_
        refine rn_iconst (v := (-1)) 20 dX6_readEdge_19 (by decide) rfl ?_
        refine rn_icmp_ne 25 23 dX6_readEdge_20 (by decide) rfl (fun _ => ?_) (fun c20 => absurd c20 (fun z => absurd (by rw [z]; decide) (nI_pos (n := a) (by omega))))
        refine rn_aload_n 26 dX6_readEdge_25 rfl rfl rfl ?_
        refine rn_iload_n 27 dX6_readEdge_26 rfl rfl rfl ?_
        refine rn_cvm mX6_readOtherNode [.int (nI a)] [] 30 (some (.int (oI (fOther tx a (fNode tx p).2).1))) (mu_s (mu_s mu 5 4 (nI (fNode tx p).2)) 5 4 (nI (fOther tx a (fNode tx p).2).2)) dX6_readEdge_27 cv_X6_40 rfl rfl rfl (by simp [Value.category]) rfl (c_readOther (d + 2) (mu := mu_s mu 5 4 (nI (fNode tx p).2)) h (xt_of (mu' := mu_s mu 5 4 (nI (fNode tx p).2)) ht rfl rfl) rfl hf1.1 k1) ?_
        rw [mu_ss]
        rw [e2, show oI (some b) = nI b from rfl]
        refine rn_istore_n 31 [some (.ref 5), some (.int (nI a)), some (.int (nI b)), none, none, none] dX6_readEdge_30 rfl rfl (Nat.le_of_ble_eq_true rfl) rfl ?_
        refine rn_iload_n 32 dX6_readEdge_31 rfl rfl rfl ?_
        refine rn_iconst (v := (-1)) 33 dX6_readEdge_32 (by decide) rfl ?_
        refine rn_icmp_ne 38 36 dX6_readEdge_33 (by decide) rfl (fun _ => ?_) (fun c33 => absurd c33 (fun z => absurd (by rw [z]; decide) (nI_pos (n := b) (by omega))))
        refine rn_aload_n 39 dX6_readEdge_38 rfl rfl rfl ?_
        refine rn_cvm mX6_readNumber [] [] 42 (some (.int (oI (fNum tx (fOther tx a (fNode tx p).2).2).1))) (mu_s (mu_s mu 5 4 (nI (fOther tx a (fNode tx p).2).2)) 5 4 (nI (fNum tx (fOther tx a (fNode tx p).2).2).2)) dX6_readEdge_39 cv_X6_44 rfl rfl rfl (by simp [Value.category]) rfl (c_readNumber (d + 2) (mu := mu_s mu 5 4 (nI (fOther tx a (fNode tx p).2).2)) h (xt_of (mu' := mu_s mu 5 4 (nI (fOther tx a (fNode tx p).2).2)) ht rfl rfl) rfl hf2.1) ?_
        rw [mu_ss]
        rw [e3, show oI none = -1 from rfl]
        refine rn_istore_n 43 [some (.ref 5), some (.int (nI a)), some (.int (nI b)), some (.int (-1)), none, none] dX6_readEdge_42 rfl rfl (Nat.le_of_ble_eq_true rfl) rfl ?_
        refine rn_iload_n 44 dX6_readEdge_43 rfl rfl rfl ?_
        refine rn_iconst (v := (-1)) 45 dX6_readEdge_44 (by decide) rfl ?_
        refine rn_icmp_eq 57 48 dX6_readEdge_45 (by decide) rfl (fun _ => ?_) (fun c45 => absurd (rfl) c45)
        refine rn_iconst (v := 0) 58 dX6_readEdge_57 (by decide) rfl ?_
        exact rn_zret rfl dX6_readEdge_58 rfl (⟨rfl, rfl, rfl⟩)
      | some l =>
        have k3 := (hf3.2 l e3).1
        have hf4 := fSign_le (c := 43) hf3.1
        have c4 := c_readSign (d + 3) (mu := mu_s mu 5 4 (nI (fNum tx (fOther tx a (fNode tx p).2).2).2)) h (xt_of (mu' := mu_s mu 5 4 (nI (fNum tx (fOther tx a (fNode tx p).2).2).2)) ht rfl rfl) rfl hf3.1 (c := 43) (by omega)
        cases e4 : fSign tx 43 (fNum tx (fOther tx a (fNode tx p).2).2).2 with
        | mk b4 q4 =>
          rw [e4] at hf4 c4
          simp only at hf4 c4
          rw [mu_ss] at c4
          cases b4 with
          | false =>
            have e : fEdge tx p = (none, q4) := by unfold fEdge; simp only [e1, e2, e3, e4]
            rw [e]
            refine rn_aload_n 1 dX6_readEdge_0 rfl rfl rfl ?_
            refine rn_get 4 (.int (mu 5 3)) dX6_readEdge_1 fl_X6_23 rfl rfl rfl rfl ?_
            refine rn_bipush (v := 16) 6 dX6_readEdge_4 (by decide) rfl ?_
            refine rn_icmp_ge 16 9 dX6_readEdge_6 (by decide) rfl (fun c6 => absurd c6 (by rw [h3]; exact nI_ge (b := 16) hn (by omega))) (fun _ => ?_)
            refine rn_aload_n 10 dX6_readEdge_9 rfl rfl rfl ?_
            refine rn_cvm mX6_readNode [] [] 13 (some (.int (oI (fNode tx p).1))) (mu_s mu 5 4 (nI (fNode tx p).2)) dX6_readEdge_10 cv_X6_36 rfl rfl rfl (by simp [Value.category]) rfl (c_readNode (d + 3) h ht h4 hp) ?_
            rw [e1, show oI (some a) = nI a from rfl]
            refine rn_goto 17 dX6_readEdge_13 (by decide) ?_
            refine rn_istore_n 18 [some (.ref 5), some (.int (nI a)), none, none, none, none] dX6_readEdge_17 rfl rfl (Nat.le_of_ble_eq_true rfl) rfl ?_
            refine rn_iload_n 19 dX6_readEdge_18 rfl rfl rfl ?_
            refine rn_iconst (v := (-1)) 20 dX6_readEdge_19 (by decide) rfl ?_
            refine rn_icmp_ne 25 23 dX6_readEdge_20 (by decide) rfl (fun _ => ?_) (fun c20 => absurd c20 (fun z => absurd (by rw [z]; decide) (nI_pos (n := a) (by omega))))
            refine rn_aload_n 26 dX6_readEdge_25 rfl rfl rfl ?_
            refine rn_iload_n 27 dX6_readEdge_26 rfl rfl rfl ?_
            refine rn_cvm mX6_readOtherNode [.int (nI a)] [] 30 (some (.int (oI (fOther tx a (fNode tx p).2).1))) (mu_s (mu_s mu 5 4 (nI (fNode tx p).2)) 5 4 (nI (fOther tx a (fNode tx p).2).2)) dX6_readEdge_27 cv_X6_40 rfl rfl rfl (by simp [Value.category]) rfl (c_readOther (d + 2) (mu := mu_s mu 5 4 (nI (fNode tx p).2)) h (xt_of (mu' := mu_s mu 5 4 (nI (fNode tx p).2)) ht rfl rfl) rfl hf1.1 k1) ?_
            rw [mu_ss]
            rw [e2, show oI (some b) = nI b from rfl]
            refine rn_istore_n 31 [some (.ref 5), some (.int (nI a)), some (.int (nI b)), none, none, none] dX6_readEdge_30 rfl rfl (Nat.le_of_ble_eq_true rfl) rfl ?_
            refine rn_iload_n 32 dX6_readEdge_31 rfl rfl rfl ?_
            refine rn_iconst (v := (-1)) 33 dX6_readEdge_32 (by decide) rfl ?_
            refine rn_icmp_ne 38 36 dX6_readEdge_33 (by decide) rfl (fun _ => ?_) (fun c33 => absurd c33 (fun z => absurd (by rw [z]; decide) (nI_pos (n := b) (by omega))))
            refine rn_aload_n 39 dX6_readEdge_38 rfl rfl rfl ?_
            refine rn_cvm mX6_readNumber [] [] 42 (some (.int (oI (fNum tx (fOther tx a (fNode tx p).2).2).1))) (mu_s (mu_s mu 5 4 (nI (fOther tx a (fNode tx p).2).2)) 5 4 (nI (fNum tx (fOther tx a (fNode tx p).2).2).2)) dX6_readEdge_39 cv_X6_44 rfl rfl rfl (by simp [Value.category]) rfl (c_readNumber (d + 2) (mu := mu_s mu 5 4 (nI (fOther tx a (fNode tx p).2).2)) h (xt_of (mu' := mu_s mu 5 4 (nI (fOther tx a (fNode tx p).2).2)) ht rfl rfl) rfl hf2.1) ?_
            rw [mu_ss]
            rw [e3, show oI (some l) = nI l from rfl]
            refine rn_istore_n 43 [some (.ref 5), some (.int (nI a)), some (.int (nI b)), some (.int (nI l)), none, none] dX6_readEdge_42 rfl rfl (Nat.le_of_ble_eq_true rfl) rfl ?_
            refine rn_iload_n 44 dX6_readEdge_43 rfl rfl rfl ?_
            refine rn_iconst (v := (-1)) 45 dX6_readEdge_44 (by decide) rfl ?_
            refine rn_icmp_eq 57 48 dX6_readEdge_45 (by decide) rfl (fun c45 => absurd c45 (fun z => absurd (by rw [z]; decide) (nI_pos (n := l) (by omega)))) (fun _ => ?_)
            refine rn_aload_n 49 dX6_readEdge_48 rfl rfl rfl ?_
            refine rn_bipush (v := 43) 51 dX6_readEdge_49 (by decide) rfl ?_
            refine rn_cvm mX6_readSign [.int 43] [] 54 (some (.int (if false = true then 1 else 0))) (mu_s mu 5 4 (nI q4)) dX6_readEdge_51 cv_X6_47 rfl rfl rfl (by simp [Value.category]) rfl (c4) ?_
            refine rn_if_ne 59 57 dX6_readEdge_54 (by decide) rfl (fun c54 => absurd (rfl) c54) (fun _ => ?_)
            refine rn_iconst (v := 0) 58 dX6_readEdge_57 (by decide) rfl ?_
            exact rn_zret rfl dX6_readEdge_58 rfl (⟨rfl, rfl, rfl⟩)
          | true =>
            have hf5 := fDelay_le hf4
            cases e5 : (fDelay tx q4).1 with
            | none =>
              have e : fEdge tx p = (none, (fDelay tx q4).2) := by unfold fEdge; simp only [e1, e2, e3, e4, e5]
              rw [e]
              refine rn_aload_n 1 dX6_readEdge_0 rfl rfl rfl ?_
              refine rn_get 4 (.int (mu 5 3)) dX6_readEdge_1 fl_X6_23 rfl rfl rfl rfl ?_
              refine rn_bipush (v := 16) 6 dX6_readEdge_4 (by decide) rfl ?_
              refine rn_icmp_ge 16 9 dX6_readEdge_6 (by decide) rfl (fun c6 => absurd c6 (by rw [h3]; exact nI_ge (b := 16) hn (by omega))) (fun _ => ?_)
              refine rn_aload_n 10 dX6_readEdge_9 rfl rfl rfl ?_
              refine rn_cvm mX6_readNode [] [] 13 (some (.int (oI (fNode tx p).1))) (mu_s mu 5 4 (nI (fNode tx p).2)) dX6_readEdge_10 cv_X6_36 rfl rfl rfl (by simp [Value.category]) rfl (c_readNode (d + 3) h ht h4 hp) ?_
              rw [e1, show oI (some a) = nI a from rfl]
              refine rn_goto 17 dX6_readEdge_13 (by decide) ?_
              refine rn_istore_n 18 [some (.ref 5), some (.int (nI a)), none, none, none, none] dX6_readEdge_17 rfl rfl (Nat.le_of_ble_eq_true rfl) rfl ?_
              refine rn_iload_n 19 dX6_readEdge_18 rfl rfl rfl ?_
              refine rn_iconst (v := (-1)) 20 dX6_readEdge_19 (by decide) rfl ?_
              refine rn_icmp_ne 25 23 dX6_readEdge_20 (by decide) rfl (fun _ => ?_) (fun c20 => absurd c20 (fun z => absurd (by rw [z]; decide) (nI_pos (n := a) (by omega))))
              refine rn_aload_n 26 dX6_readEdge_25 rfl rfl rfl ?_
              refine rn_iload_n 27 dX6_readEdge_26 rfl rfl rfl ?_
              refine rn_cvm mX6_readOtherNode [.int (nI a)] [] 30 (some (.int (oI (fOther tx a (fNode tx p).2).1))) (mu_s (mu_s mu 5 4 (nI (fNode tx p).2)) 5 4 (nI (fOther tx a (fNode tx p).2).2)) dX6_readEdge_27 cv_X6_40 rfl rfl rfl (by simp [Value.category]) rfl (c_readOther (d + 2) (mu := mu_s mu 5 4 (nI (fNode tx p).2)) h (xt_of (mu' := mu_s mu 5 4 (nI (fNode tx p).2)) ht rfl rfl) rfl hf1.1 k1) ?_
              rw [mu_ss]
              rw [e2, show oI (some b) = nI b from rfl]
              refine rn_istore_n 31 [some (.ref 5), some (.int (nI a)), some (.int (nI b)), none, none, none] dX6_readEdge_30 rfl rfl (Nat.le_of_ble_eq_true rfl) rfl ?_
              refine rn_iload_n 32 dX6_readEdge_31 rfl rfl rfl ?_
              refine rn_iconst (v := (-1)) 33 dX6_readEdge_32 (by decide) rfl ?_
              refine rn_icmp_ne 38 36 dX6_readEdge_33 (by decide) rfl (fun _ => ?_) (fun c33 => absurd c33 (fun z => absurd (by rw [z]; decide) (nI_pos (n := b) (by omega))))
              refine rn_aload_n 39 dX6_readEdge_38 rfl rfl rfl ?_
              refine rn_cvm mX6_readNumber [] [] 42 (some (.int (oI (fNum tx (fOther tx a (fNode tx p).2).2).1))) (mu_s (mu_s mu 5 4 (nI (fOther tx a (fNode tx p).2).2)) 5 4 (nI (fNum tx (fOther tx a (fNode tx p).2).2).2)) dX6_readEdge_39 cv_X6_44 rfl rfl rfl (by simp [Value.category]) rfl (c_readNumber (d + 2) (mu := mu_s mu 5 4 (nI (fOther tx a (fNode tx p).2).2)) h (xt_of (mu' := mu_s mu 5 4 (nI (fOther tx a (fNode tx p).2).2)) ht rfl rfl) rfl hf2.1) ?_
              rw [mu_ss]
              rw [e3, show oI (some l) = nI l from rfl]
              refine rn_istore_n 43 [some (.ref 5), some (.int (nI a)), some (.int (nI b)), some (.int (nI l)), none, none] dX6_readEdge_42 rfl rfl (Nat.le_of_ble_eq_true rfl) rfl ?_
              refine rn_iload_n 44 dX6_readEdge_43 rfl rfl rfl ?_
              refine rn_iconst (v := (-1)) 45 dX6_readEdge_44 (by decide) rfl ?_
              refine rn_icmp_eq 57 48 dX6_readEdge_45 (by decide) rfl (fun c45 => absurd c45 (fun z => absurd (by rw [z]; decide) (nI_pos (n := l) (by omega)))) (fun _ => ?_)
              refine rn_aload_n 49 dX6_readEdge_48 rfl rfl rfl ?_
              refine rn_bipush (v := 43) 51 dX6_readEdge_49 (by decide) rfl ?_
              refine rn_cvm mX6_readSign [.int 43] [] 54 (some (.int (if true = true then 1 else 0))) (mu_s mu 5 4 (nI q4)) dX6_readEdge_51 cv_X6_47 rfl rfl rfl (by simp [Value.category]) rfl (c4) ?_
              refine rn_if_ne 59 57 dX6_readEdge_54 (by decide) rfl (fun _ => ?_) (fun c54 => absurd c54 (by decide))
              refine rn_aload_n 60 dX6_readEdge_59 rfl rfl rfl ?_
              refine rn_cvm mX6_readDelay [] [] 63 (some (.int (oI (fDelay tx q4).1))) (mu_s (mu_s mu 5 4 (nI q4)) 5 4 (nI (fDelay tx q4).2)) dX6_readEdge_60 cv_X6_51 rfl rfl rfl (by simp [Value.category]) rfl (c_readDelay (d + 1) (mu := mu_s mu 5 4 (nI q4)) h (xt_of (mu' := mu_s mu 5 4 (nI q4)) ht rfl rfl) rfl hf4) ?_
              rw [mu_ss]
              rw [e5, show oI none = -1 from rfl]
              refine rn_istore 65 [some (.ref 5), some (.int (nI a)), some (.int (nI b)), some (.int (nI l)), some (.int (-1)), none] dX6_readEdge_63 rfl (Nat.le_of_ble_eq_true rfl) rfl ?_
              refine rn_iload 67 dX6_readEdge_65 rfl rfl ?_
              refine rn_iconst (v := (-1)) 68 dX6_readEdge_67 (by decide) rfl ?_
              refine rn_icmp_eq 80 71 dX6_readEdge_68 (by decide) rfl (fun _ => ?_) (fun c68 => absurd (rfl) c68)
              refine rn_iconst (v := 0) 81 dX6_readEdge_80 (by decide) rfl ?_
              exact rn_zret rfl dX6_readEdge_81 rfl (⟨rfl, rfl, rfl⟩)
            | some y =>
              have k5 := hf5.2 y e5
              have hf6 := fSign_le (c := 58) hf5.1
              have c6 := c_readSign (d + 3) (mu := mu_s mu 5 4 (nI (fDelay tx q4).2)) h (xt_of (mu' := mu_s mu 5 4 (nI (fDelay tx q4).2)) ht rfl rfl) rfl hf5.1 (c := 58) (by omega)
              cases e6 : fSign tx 58 (fDelay tx q4).2 with
              | mk b6 q6 =>
                rw [e6] at hf6 c6
                simp only at hf6 c6
                rw [mu_ss] at c6
                cases b6 with
                | false =>
                  have e : fEdge tx p = (none, q6) := by unfold fEdge; simp only [e1, e2, e3, e4, e5, e6]
                  rw [e]
                  refine rn_aload_n 1 dX6_readEdge_0 rfl rfl rfl ?_
                  refine rn_get 4 (.int (mu 5 3)) dX6_readEdge_1 fl_X6_23 rfl rfl rfl rfl ?_
                  refine rn_bipush (v := 16) 6 dX6_readEdge_4 (by decide) rfl ?_
                  refine rn_icmp_ge 16 9 dX6_readEdge_6 (by decide) rfl (fun c6 => absurd c6 (by rw [h3]; exact nI_ge (b := 16) hn (by omega))) (fun _ => ?_)
                  refine rn_aload_n 10 dX6_readEdge_9 rfl rfl rfl ?_
                  refine rn_cvm mX6_readNode [] [] 13 (some (.int (oI (fNode tx p).1))) (mu_s mu 5 4 (nI (fNode tx p).2)) dX6_readEdge_10 cv_X6_36 rfl rfl rfl (by simp [Value.category]) rfl (c_readNode (d + 3) h ht h4 hp) ?_
                  rw [e1, show oI (some a) = nI a from rfl]
                  refine rn_goto 17 dX6_readEdge_13 (by decide) ?_
                  refine rn_istore_n 18 [some (.ref 5), some (.int (nI a)), none, none, none, none] dX6_readEdge_17 rfl rfl (Nat.le_of_ble_eq_true rfl) rfl ?_
                  refine rn_iload_n 19 dX6_readEdge_18 rfl rfl rfl ?_
                  refine rn_iconst (v := (-1)) 20 dX6_readEdge_19 (by decide) rfl ?_
                  refine rn_icmp_ne 25 23 dX6_readEdge_20 (by decide) rfl (fun _ => ?_) (fun c20 => absurd c20 (fun z => absurd (by rw [z]; decide) (nI_pos (n := a) (by omega))))
                  refine rn_aload_n 26 dX6_readEdge_25 rfl rfl rfl ?_
                  refine rn_iload_n 27 dX6_readEdge_26 rfl rfl rfl ?_
                  refine rn_cvm mX6_readOtherNode [.int (nI a)] [] 30 (some (.int (oI (fOther tx a (fNode tx p).2).1))) (mu_s (mu_s mu 5 4 (nI (fNode tx p).2)) 5 4 (nI (fOther tx a (fNode tx p).2).2)) dX6_readEdge_27 cv_X6_40 rfl rfl rfl (by simp [Value.category]) rfl (c_readOther (d + 2) (mu := mu_s mu 5 4 (nI (fNode tx p).2)) h (xt_of (mu' := mu_s mu 5 4 (nI (fNode tx p).2)) ht rfl rfl) rfl hf1.1 k1) ?_
                  rw [mu_ss]
                  rw [e2, show oI (some b) = nI b from rfl]
                  refine rn_istore_n 31 [some (.ref 5), some (.int (nI a)), some (.int (nI b)), none, none, none] dX6_readEdge_30 rfl rfl (Nat.le_of_ble_eq_true rfl) rfl ?_
                  refine rn_iload_n 32 dX6_readEdge_31 rfl rfl rfl ?_
                  refine rn_iconst (v := (-1)) 33 dX6_readEdge_32 (by decide) rfl ?_
                  refine rn_icmp_ne 38 36 dX6_readEdge_33 (by decide) rfl (fun _ => ?_) (fun c33 => absurd c33 (fun z => absurd (by rw [z]; decide) (nI_pos (n := b) (by omega))))
                  refine rn_aload_n 39 dX6_readEdge_38 rfl rfl rfl ?_
                  refine rn_cvm mX6_readNumber [] [] 42 (some (.int (oI (fNum tx (fOther tx a (fNode tx p).2).2).1))) (mu_s (mu_s mu 5 4 (nI (fOther tx a (fNode tx p).2).2)) 5 4 (nI (fNum tx (fOther tx a (fNode tx p).2).2).2)) dX6_readEdge_39 cv_X6_44 rfl rfl rfl (by simp [Value.category]) rfl (c_readNumber (d + 2) (mu := mu_s mu 5 4 (nI (fOther tx a (fNode tx p).2).2)) h (xt_of (mu' := mu_s mu 5 4 (nI (fOther tx a (fNode tx p).2).2)) ht rfl rfl) rfl hf2.1) ?_
                  rw [mu_ss]
                  rw [e3, show oI (some l) = nI l from rfl]
                  refine rn_istore_n 43 [some (.ref 5), some (.int (nI a)), some (.int (nI b)), some (.int (nI l)), none, none] dX6_readEdge_42 rfl rfl (Nat.le_of_ble_eq_true rfl) rfl ?_
                  refine rn_iload_n 44 dX6_readEdge_43 rfl rfl rfl ?_
                  refine rn_iconst (v := (-1)) 45 dX6_readEdge_44 (by decide) rfl ?_
                  refine rn_icmp_eq 57 48 dX6_readEdge_45 (by decide) rfl (fun c45 => absurd c45 (fun z => absurd (by rw [z]; decide) (nI_pos (n := l) (by omega)))) (fun _ => ?_)
                  refine rn_aload_n 49 dX6_readEdge_48 rfl rfl rfl ?_
                  refine rn_bipush (v := 43) 51 dX6_readEdge_49 (by decide) rfl ?_
                  refine rn_cvm mX6_readSign [.int 43] [] 54 (some (.int (if true = true then 1 else 0))) (mu_s mu 5 4 (nI q4)) dX6_readEdge_51 cv_X6_47 rfl rfl rfl (by simp [Value.category]) rfl (c4) ?_
                  refine rn_if_ne 59 57 dX6_readEdge_54 (by decide) rfl (fun _ => ?_) (fun c54 => absurd c54 (by decide))
                  refine rn_aload_n 60 dX6_readEdge_59 rfl rfl rfl ?_
                  refine rn_cvm mX6_readDelay [] [] 63 (some (.int (oI (fDelay tx q4).1))) (mu_s (mu_s mu 5 4 (nI q4)) 5 4 (nI (fDelay tx q4).2)) dX6_readEdge_60 cv_X6_51 rfl rfl rfl (by simp [Value.category]) rfl (c_readDelay (d + 1) (mu := mu_s mu 5 4 (nI q4)) h (xt_of (mu' := mu_s mu 5 4 (nI q4)) ht rfl rfl) rfl hf4) ?_
                  rw [mu_ss]
                  rw [e5, show oI (some y) = nI y from rfl]
                  refine rn_istore 65 [some (.ref 5), some (.int (nI a)), some (.int (nI b)), some (.int (nI l)), some (.int (nI y)), none] dX6_readEdge_63 rfl (Nat.le_of_ble_eq_true rfl) rfl ?_
                  refine rn_iload 67 dX6_readEdge_65 rfl rfl ?_
                  refine rn_iconst (v := (-1)) 68 dX6_readEdge_67 (by decide) rfl ?_
                  refine rn_icmp_eq 80 71 dX6_readEdge_68 (by decide) rfl (fun c68 => absurd c68 (fun z => absurd (by rw [z]; decide) (nI_pos (n := y) (by omega)))) (fun _ => ?_)
                  refine rn_aload_n 72 dX6_readEdge_71 rfl rfl rfl ?_
                  refine rn_bipush (v := 58) 74 dX6_readEdge_72 (by decide) rfl ?_
                  refine rn_cvm mX6_readSign [.int 58] [] 77 (some (.int (if false = true then 1 else 0))) (mu_s mu 5 4 (nI q6)) dX6_readEdge_74 cv_X6_47 rfl rfl rfl (by simp [Value.category]) rfl (c6) ?_
                  refine rn_if_ne 82 80 dX6_readEdge_77 (by decide) rfl (fun c77 => absurd (rfl) c77) (fun _ => ?_)
                  refine rn_iconst (v := 0) 81 dX6_readEdge_80 (by decide) rfl ?_
                  exact rn_zret rfl dX6_readEdge_81 rfl (⟨rfl, rfl, rfl⟩)
                | true =>
                  have hf7 := fCost_le hf6
                  cases e7 : (fCost tx q6).1 with
                  | none =>
                    have e : fEdge tx p = (none, (fCost tx q6).2) := by unfold fEdge; simp only [e1, e2, e3, e4, e5, e6, e7]
                    rw [e]
                    refine rn_aload_n 1 dX6_readEdge_0 rfl rfl rfl ?_
                    refine rn_get 4 (.int (mu 5 3)) dX6_readEdge_1 fl_X6_23 rfl rfl rfl rfl ?_
                    refine rn_bipush (v := 16) 6 dX6_readEdge_4 (by decide) rfl ?_
                    refine rn_icmp_ge 16 9 dX6_readEdge_6 (by decide) rfl (fun c6 => absurd c6 (by rw [h3]; exact nI_ge (b := 16) hn (by omega))) (fun _ => ?_)
                    refine rn_aload_n 10 dX6_readEdge_9 rfl rfl rfl ?_
                    refine rn_cvm mX6_readNode [] [] 13 (some (.int (oI (fNode tx p).1))) (mu_s mu 5 4 (nI (fNode tx p).2)) dX6_readEdge_10 cv_X6_36 rfl rfl rfl (by simp [Value.category]) rfl (c_readNode (d + 3) h ht h4 hp) ?_
                    rw [e1, show oI (some a) = nI a from rfl]
                    refine rn_goto 17 dX6_readEdge_13 (by decide) ?_
                    refine rn_istore_n 18 [some (.ref 5), some (.int (nI a)), none, none, none, none] dX6_readEdge_17 rfl rfl (Nat.le_of_ble_eq_true rfl) rfl ?_
                    refine rn_iload_n 19 dX6_readEdge_18 rfl rfl rfl ?_
                    refine rn_iconst (v := (-1)) 20 dX6_readEdge_19 (by decide) rfl ?_
                    refine rn_icmp_ne 25 23 dX6_readEdge_20 (by decide) rfl (fun _ => ?_) (fun c20 => absurd c20 (fun z => absurd (by rw [z]; decide) (nI_pos (n := a) (by omega))))
                    refine rn_aload_n 26 dX6_readEdge_25 rfl rfl rfl ?_
                    refine rn_iload_n 27 dX6_readEdge_26 rfl rfl rfl ?_
                    refine rn_cvm mX6_readOtherNode [.int (nI a)] [] 30 (some (.int (oI (fOther tx a (fNode tx p).2).1))) (mu_s (mu_s mu 5 4 (nI (fNode tx p).2)) 5 4 (nI (fOther tx a (fNode tx p).2).2)) dX6_readEdge_27 cv_X6_40 rfl rfl rfl (by simp [Value.category]) rfl (c_readOther (d + 2) (mu := mu_s mu 5 4 (nI (fNode tx p).2)) h (xt_of (mu' := mu_s mu 5 4 (nI (fNode tx p).2)) ht rfl rfl) rfl hf1.1 k1) ?_
                    rw [mu_ss]
                    rw [e2, show oI (some b) = nI b from rfl]
                    refine rn_istore_n 31 [some (.ref 5), some (.int (nI a)), some (.int (nI b)), none, none, none] dX6_readEdge_30 rfl rfl (Nat.le_of_ble_eq_true rfl) rfl ?_
                    refine rn_iload_n 32 dX6_readEdge_31 rfl rfl rfl ?_
                    refine rn_iconst (v := (-1)) 33 dX6_readEdge_32 (by decide) rfl ?_
                    refine rn_icmp_ne 38 36 dX6_readEdge_33 (by decide) rfl (fun _ => ?_) (fun c33 => absurd c33 (fun z => absurd (by rw [z]; decide) (nI_pos (n := b) (by omega))))
                    refine rn_aload_n 39 dX6_readEdge_38 rfl rfl rfl ?_
                    refine rn_cvm mX6_readNumber [] [] 42 (some (.int (oI (fNum tx (fOther tx a (fNode tx p).2).2).1))) (mu_s (mu_s mu 5 4 (nI (fOther tx a (fNode tx p).2).2)) 5 4 (nI (fNum tx (fOther tx a (fNode tx p).2).2).2)) dX6_readEdge_39 cv_X6_44 rfl rfl rfl (by simp [Value.category]) rfl (c_readNumber (d + 2) (mu := mu_s mu 5 4 (nI (fOther tx a (fNode tx p).2).2)) h (xt_of (mu' := mu_s mu 5 4 (nI (fOther tx a (fNode tx p).2).2)) ht rfl rfl) rfl hf2.1) ?_
                    rw [mu_ss]
                    rw [e3, show oI (some l) = nI l from rfl]
                    refine rn_istore_n 43 [some (.ref 5), some (.int (nI a)), some (.int (nI b)), some (.int (nI l)), none, none] dX6_readEdge_42 rfl rfl (Nat.le_of_ble_eq_true rfl) rfl ?_
                    refine rn_iload_n 44 dX6_readEdge_43 rfl rfl rfl ?_
                    refine rn_iconst (v := (-1)) 45 dX6_readEdge_44 (by decide) rfl ?_
                    refine rn_icmp_eq 57 48 dX6_readEdge_45 (by decide) rfl (fun c45 => absurd c45 (fun z => absurd (by rw [z]; decide) (nI_pos (n := l) (by omega)))) (fun _ => ?_)
                    refine rn_aload_n 49 dX6_readEdge_48 rfl rfl rfl ?_
                    refine rn_bipush (v := 43) 51 dX6_readEdge_49 (by decide) rfl ?_
                    refine rn_cvm mX6_readSign [.int 43] [] 54 (some (.int (if true = true then 1 else 0))) (mu_s mu 5 4 (nI q4)) dX6_readEdge_51 cv_X6_47 rfl rfl rfl (by simp [Value.category]) rfl (c4) ?_
                    refine rn_if_ne 59 57 dX6_readEdge_54 (by decide) rfl (fun _ => ?_) (fun c54 => absurd c54 (by decide))
                    refine rn_aload_n 60 dX6_readEdge_59 rfl rfl rfl ?_
                    refine rn_cvm mX6_readDelay [] [] 63 (some (.int (oI (fDelay tx q4).1))) (mu_s (mu_s mu 5 4 (nI q4)) 5 4 (nI (fDelay tx q4).2)) dX6_readEdge_60 cv_X6_51 rfl rfl rfl (by simp [Value.category]) rfl (c_readDelay (d + 1) (mu := mu_s mu 5 4 (nI q4)) h (xt_of (mu' := mu_s mu 5 4 (nI q4)) ht rfl rfl) rfl hf4) ?_
                    rw [mu_ss]
                    rw [e5, show oI (some y) = nI y from rfl]
                    refine rn_istore 65 [some (.ref 5), some (.int (nI a)), some (.int (nI b)), some (.int (nI l)), some (.int (nI y)), none] dX6_readEdge_63 rfl (Nat.le_of_ble_eq_true rfl) rfl ?_
                    refine rn_iload 67 dX6_readEdge_65 rfl rfl ?_
                    refine rn_iconst (v := (-1)) 68 dX6_readEdge_67 (by decide) rfl ?_
                    refine rn_icmp_eq 80 71 dX6_readEdge_68 (by decide) rfl (fun c68 => absurd c68 (fun z => absurd (by rw [z]; decide) (nI_pos (n := y) (by omega)))) (fun _ => ?_)
                    refine rn_aload_n 72 dX6_readEdge_71 rfl rfl rfl ?_
                    refine rn_bipush (v := 58) 74 dX6_readEdge_72 (by decide) rfl ?_
                    refine rn_cvm mX6_readSign [.int 58] [] 77 (some (.int (if true = true then 1 else 0))) (mu_s mu 5 4 (nI q6)) dX6_readEdge_74 cv_X6_47 rfl rfl rfl (by simp [Value.category]) rfl (c6) ?_
                    refine rn_if_ne 82 80 dX6_readEdge_77 (by decide) rfl (fun _ => ?_) (fun c77 => absurd c77 (by decide))
                    refine rn_aload_n 83 dX6_readEdge_82 rfl rfl rfl ?_
                    refine rn_cvm mX6_readCost [] [] 86 (some (.int (oI (fCost tx q6).1))) (mu_s (mu_s mu 5 4 (nI q6)) 5 4 (nI (fCost tx q6).2)) dX6_readEdge_83 cv_X6_54 rfl rfl rfl (by simp [Value.category]) rfl (c_readCost (d + 2) (mu := mu_s mu 5 4 (nI q6)) h (xt_of (mu' := mu_s mu 5 4 (nI q6)) ht rfl rfl) rfl hf6) ?_
                    rw [mu_ss]
                    rw [e7, show oI none = -1 from rfl]
                    refine rn_istore 88 [some (.ref 5), some (.int (nI a)), some (.int (nI b)), some (.int (nI l)), some (.int (nI y)), some (.int (-1))] dX6_readEdge_86 rfl (Nat.le_of_ble_eq_true rfl) rfl ?_
                    refine rn_iload 90 dX6_readEdge_88 rfl rfl ?_
                    refine rn_iconst (v := (-1)) 91 dX6_readEdge_90 (by decide) rfl ?_
                    refine rn_icmp_ne 96 94 dX6_readEdge_91 (by decide) rfl (fun c91 => absurd (rfl) c91) (fun _ => ?_)
                    refine rn_iconst (v := 0) 95 dX6_readEdge_94 (by decide) rfl ?_
                    exact rn_zret rfl dX6_readEdge_95 rfl (⟨rfl, rfl, rfl⟩)
                  | some c =>
                    have k7 := hf7.2 c e7
                    have e : fEdge tx p = (some (a, b, l, y, c), (fCost tx q6).2) := by unfold fEdge; simp only [e1, e2, e3, e4, e5, e6, e7]
                    rw [e]
                    refine rn_aload_n 1 dX6_readEdge_0 rfl rfl rfl ?_
                    refine rn_get 4 (.int (mu 5 3)) dX6_readEdge_1 fl_X6_23 rfl rfl rfl rfl ?_
                    refine rn_bipush (v := 16) 6 dX6_readEdge_4 (by decide) rfl ?_
                    refine rn_icmp_ge 16 9 dX6_readEdge_6 (by decide) rfl (fun c6 => absurd c6 (by rw [h3]; exact nI_ge (b := 16) hn (by omega))) (fun _ => ?_)
                    refine rn_aload_n 10 dX6_readEdge_9 rfl rfl rfl ?_
                    refine rn_cvm mX6_readNode [] [] 13 (some (.int (oI (fNode tx p).1))) (mu_s mu 5 4 (nI (fNode tx p).2)) dX6_readEdge_10 cv_X6_36 rfl rfl rfl (by simp [Value.category]) rfl (c_readNode (d + 3) h ht h4 hp) ?_
                    rw [e1, show oI (some a) = nI a from rfl]
                    refine rn_goto 17 dX6_readEdge_13 (by decide) ?_
                    refine rn_istore_n 18 [some (.ref 5), some (.int (nI a)), none, none, none, none] dX6_readEdge_17 rfl rfl (Nat.le_of_ble_eq_true rfl) rfl ?_
                    refine rn_iload_n 19 dX6_readEdge_18 rfl rfl rfl ?_
                    refine rn_iconst (v := (-1)) 20 dX6_readEdge_19 (by decide) rfl ?_
                    refine rn_icmp_ne 25 23 dX6_readEdge_20 (by decide) rfl (fun _ => ?_) (fun c20 => absurd c20 (fun z => absurd (by rw [z]; decide) (nI_pos (n := a) (by omega))))
                    refine rn_aload_n 26 dX6_readEdge_25 rfl rfl rfl ?_
                    refine rn_iload_n 27 dX6_readEdge_26 rfl rfl rfl ?_
                    refine rn_cvm mX6_readOtherNode [.int (nI a)] [] 30 (some (.int (oI (fOther tx a (fNode tx p).2).1))) (mu_s (mu_s mu 5 4 (nI (fNode tx p).2)) 5 4 (nI (fOther tx a (fNode tx p).2).2)) dX6_readEdge_27 cv_X6_40 rfl rfl rfl (by simp [Value.category]) rfl (c_readOther (d + 2) (mu := mu_s mu 5 4 (nI (fNode tx p).2)) h (xt_of (mu' := mu_s mu 5 4 (nI (fNode tx p).2)) ht rfl rfl) rfl hf1.1 k1) ?_
                    rw [mu_ss]
                    rw [e2, show oI (some b) = nI b from rfl]
                    refine rn_istore_n 31 [some (.ref 5), some (.int (nI a)), some (.int (nI b)), none, none, none] dX6_readEdge_30 rfl rfl (Nat.le_of_ble_eq_true rfl) rfl ?_
                    refine rn_iload_n 32 dX6_readEdge_31 rfl rfl rfl ?_
                    refine rn_iconst (v := (-1)) 33 dX6_readEdge_32 (by decide) rfl ?_
                    refine rn_icmp_ne 38 36 dX6_readEdge_33 (by decide) rfl (fun _ => ?_) (fun c33 => absurd c33 (fun z => absurd (by rw [z]; decide) (nI_pos (n := b) (by omega))))
                    refine rn_aload_n 39 dX6_readEdge_38 rfl rfl rfl ?_
                    refine rn_cvm mX6_readNumber [] [] 42 (some (.int (oI (fNum tx (fOther tx a (fNode tx p).2).2).1))) (mu_s (mu_s mu 5 4 (nI (fOther tx a (fNode tx p).2).2)) 5 4 (nI (fNum tx (fOther tx a (fNode tx p).2).2).2)) dX6_readEdge_39 cv_X6_44 rfl rfl rfl (by simp [Value.category]) rfl (c_readNumber (d + 2) (mu := mu_s mu 5 4 (nI (fOther tx a (fNode tx p).2).2)) h (xt_of (mu' := mu_s mu 5 4 (nI (fOther tx a (fNode tx p).2).2)) ht rfl rfl) rfl hf2.1) ?_
                    rw [mu_ss]
                    rw [e3, show oI (some l) = nI l from rfl]
                    refine rn_istore_n 43 [some (.ref 5), some (.int (nI a)), some (.int (nI b)), some (.int (nI l)), none, none] dX6_readEdge_42 rfl rfl (Nat.le_of_ble_eq_true rfl) rfl ?_
                    refine rn_iload_n 44 dX6_readEdge_43 rfl rfl rfl ?_
                    refine rn_iconst (v := (-1)) 45 dX6_readEdge_44 (by decide) rfl ?_
                    refine rn_icmp_eq 57 48 dX6_readEdge_45 (by decide) rfl (fun c45 => absurd c45 (fun z => absurd (by rw [z]; decide) (nI_pos (n := l) (by omega)))) (fun _ => ?_)
                    refine rn_aload_n 49 dX6_readEdge_48 rfl rfl rfl ?_
                    refine rn_bipush (v := 43) 51 dX6_readEdge_49 (by decide) rfl ?_
                    refine rn_cvm mX6_readSign [.int 43] [] 54 (some (.int (if true = true then 1 else 0))) (mu_s mu 5 4 (nI q4)) dX6_readEdge_51 cv_X6_47 rfl rfl rfl (by simp [Value.category]) rfl (c4) ?_
                    refine rn_if_ne 59 57 dX6_readEdge_54 (by decide) rfl (fun _ => ?_) (fun c54 => absurd c54 (by decide))
                    refine rn_aload_n 60 dX6_readEdge_59 rfl rfl rfl ?_
                    refine rn_cvm mX6_readDelay [] [] 63 (some (.int (oI (fDelay tx q4).1))) (mu_s (mu_s mu 5 4 (nI q4)) 5 4 (nI (fDelay tx q4).2)) dX6_readEdge_60 cv_X6_51 rfl rfl rfl (by simp [Value.category]) rfl (c_readDelay (d + 1) (mu := mu_s mu 5 4 (nI q4)) h (xt_of (mu' := mu_s mu 5 4 (nI q4)) ht rfl rfl) rfl hf4) ?_
                    rw [mu_ss]
                    rw [e5, show oI (some y) = nI y from rfl]
                    refine rn_istore 65 [some (.ref 5), some (.int (nI a)), some (.int (nI b)), some (.int (nI l)), some (.int (nI y)), none] dX6_readEdge_63 rfl (Nat.le_of_ble_eq_true rfl) rfl ?_
                    refine rn_iload 67 dX6_readEdge_65 rfl rfl ?_
                    refine rn_iconst (v := (-1)) 68 dX6_readEdge_67 (by decide) rfl ?_
                    refine rn_icmp_eq 80 71 dX6_readEdge_68 (by decide) rfl (fun c68 => absurd c68 (fun z => absurd (by rw [z]; decide) (nI_pos (n := y) (by omega)))) (fun _ => ?_)
                    refine rn_aload_n 72 dX6_readEdge_71 rfl rfl rfl ?_
                    refine rn_bipush (v := 58) 74 dX6_readEdge_72 (by decide) rfl ?_
                    refine rn_cvm mX6_readSign [.int 58] [] 77 (some (.int (if true = true then 1 else 0))) (mu_s mu 5 4 (nI q6)) dX6_readEdge_74 cv_X6_47 rfl rfl rfl (by simp [Value.category]) rfl (c6) ?_
                    refine rn_if_ne 82 80 dX6_readEdge_77 (by decide) rfl (fun _ => ?_) (fun c77 => absurd c77 (by decide))
                    refine rn_aload_n 83 dX6_readEdge_82 rfl rfl rfl ?_
                    refine rn_cvm mX6_readCost [] [] 86 (some (.int (oI (fCost tx q6).1))) (mu_s (mu_s mu 5 4 (nI q6)) 5 4 (nI (fCost tx q6).2)) dX6_readEdge_83 cv_X6_54 rfl rfl rfl (by simp [Value.category]) rfl (c_readCost (d + 2) (mu := mu_s mu 5 4 (nI q6)) h (xt_of (mu' := mu_s mu 5 4 (nI q6)) ht rfl rfl) rfl hf6) ?_
                    rw [mu_ss]
                    rw [e7, show oI (some c) = nI c from rfl]
                    refine rn_istore 88 [some (.ref 5), some (.int (nI a)), some (.int (nI b)), some (.int (nI l)), some (.int (nI y)), some (.int (nI c))] dX6_readEdge_86 rfl (Nat.le_of_ble_eq_true rfl) rfl ?_
                    refine rn_iload 90 dX6_readEdge_88 rfl rfl ?_
                    refine rn_iconst (v := (-1)) 91 dX6_readEdge_90 (by decide) rfl ?_
                    refine rn_icmp_ne 96 94 dX6_readEdge_91 (by decide) rfl (fun _ => ?_) (fun c91 => absurd c91 (fun z => absurd (by rw [z]; decide) (nI_pos (n := c) (by omega))))
                    refine rn_aload_n 97 dX6_readEdge_96 rfl rfl rfl ?_
                    refine rn_get 100 (.ref 7) dX6_readEdge_97 fl_X6_15 rfl rfl rfl rfl ?_
                    refine rn_aload_n 101 dX6_readEdge_100 rfl rfl rfl ?_
                    refine rn_get 104 (.int (mu 5 3)) dX6_readEdge_101 fl_X6_23 rfl rfl rfl rfl ?_
                    refine rn_iload_n 105 dX6_readEdge_104 rfl rfl rfl ?_
                    refine rn_iload_n 106 dX6_readEdge_105 rfl rfl rfl ?_
                    refine rn_iload_n 107 dX6_readEdge_106 rfl rfl rfl ?_
                    refine rn_iload 109 dX6_readEdge_107 rfl rfl ?_
                    refine rn_iload 111 dX6_readEdge_109 rfl rfl ?_
                    refine rn_csp mX2_pack [.int (nI a), .int (nI b), .int (nI l), .int (nI y), .int (nI c)] [.int (mu 5 3), .ref 7] 114 (.int (pkx (a, b, l, y, c))) dX6_readEdge_111 cs_X6_57 rfl rfl (by simp [Value.category]) rfl (c_pack (d + 5) (mu_s mu 5 4 (nI (fCost tx q6).2)) h k1 k2 (by omega) (by omega) (by omega)) ?_
                    refine rn_iast 115 dX6_readEdge_114 rfl (by rw [h3]; exact vp_in_nI (by omega) (by omega)) rfl ?_
                    rw [show (mu 5 3).toNatClampNeg = ne by rw [h3]; exact nI_clamp (by omega)]
                    refine rn_aload_n 116 dX6_readEdge_115 rfl rfl rfl ?_
                    refine rn_dup 117 dX6_readEdge_116 rfl rfl ?_
                    refine rn_get 120 (.int (mu 5 3)) dX6_readEdge_117 fl_X6_23 rfl rfl rfl rfl ?_
                    refine rn_iconst (v := 1) 121 dX6_readEdge_120 (by decide) rfl ?_
                    refine rn_iadd 122 dX6_readEdge_121 rfl ?_
                    rw [show mu 5 3 + 1 = nI (ne + 1) by rw [h3, nI_1]]
                    refine rn_put 125 dX6_readEdge_122 fp_X6_23 rfl rfl rfl rfl rfl ?_
                    refine rn_iconst (v := 1) 126 dX6_readEdge_125 (by decide) rfl ?_
                    exact rn_zret rfl dX6_readEdge_126 rfl (⟨rfl, rfl, rfl⟩)
