/-! THE TEXT, read by the reference -/
/-- some answer, a known memory -/
def jq (X : Nat → Nat → Int32) (h : Int64) : rn_Q := fun r mu' h' => (∃ v : Int32, r = some (.int v)) ∧ mu' = X ∧ h' = h
theorem rn_cvj {X : Option (Nat × (Nat → Int32))} {y : ym_T} {d pc : Nat} {L : List (Option Value)} {mu : Nat → Nat → Int32} {h : Int64} {Q : rn_Q} (y1 : ym_T) (As S : List Value) {S0 : List Value} {i ci n idx : Nat} {fs : List ly_F} (n' : Nat) (mu1 : Nat → Nat → Int32) (hd : decode y.2.1 pc = .ok (.invokevirtual idx, 3)) (hc : cv_ok y.1.cls idx y1 ci n) (hi : ly_L[i]? = some (.inr (ci, fs))) (hS0 : S0 = As.reverse ++ .ref i :: S) (hn : As.length = n) (hcat : (S.map fun v => v.category).sum ≤ 8) (hp : pc + 3 = n') (hG : gd_G y1 d (.ref i :: As) mu h (jq mu1 h)) (k : ∀ v : Int32, rn_R X y (d + 1) n' L (.int v :: S) mu1 h Q) : rn_R X y (d + 1) pc L S0 mu h Q := by
  subst hp
  refine rn_callV y1 As S hd hc hi hS0 hn hcat hG (fun r mu' h' q _ => ?_)
  obtain ⟨⟨v, q1⟩, q2, q3⟩ := q
  subst q1; subst q2; subst q3
  exact k v

set_option maxRecDepth 100000 in
set_option maxHeartbeats 2000000 in
theorem c_next (d : Nat) {tx : List Nat} {mu : Nat → Nat → Int32} (h : Int64) (ht : mt tx mu) {p : Nat} (h8 : mu 22 8 = nI p) (hp : p ≤ tx.length) : gd_G mX9_next d [.ref 22] mu h (pq (some (.int (lt tx p))) mu h) := by
  refine gd_of rfl (Nat.le_of_ble_eq_true rfl) ?_
  show rn_R none mX9_next d 0 [some (.ref 22)] [] mu h (pq (some (.int (lt tx p))) mu h)
  have h110 := ht.1
  cases hb : tx[p]? with
  | none =>
    have hl : tx.length ≤ p := List.getElem?_eq_none_iff.mp hb
    refine rn_aload_n 1 dX9_next_0 rfl rfl rfl ?_
    refine rn_get 4 (.int (mu 22 8)) dX9_next_1 fl_X9_73 rfl rfl rfl rfl ?_
    refine rn_aload_n 5 dX9_next_4 rfl rfl rfl ?_
    refine rn_get 8 (.int (mu 22 5)) dX9_next_5 fl_X9_70 rfl rfl rfl rfl ?_
    refine rn_icmp_ge 23 11 dX9_next_8 (by decide) rfl (fun _ => ?_) (fun c8 => absurd (by rw [h8, ht.2.1]; exact nI_le hl (by omega)) c8)
    refine rn_iconst (v := (-1)) 24 dX9_next_23 (by decide) rfl ?_
    exact rn_iret rfl dX9_next_24 (⟨by rw [lt_none hb], rfl, rfl⟩)
  | some b =>
    have hl : p < tx.length := (List.getElem?_eq_some_iff.mp hb).1
    refine rn_aload_n 1 dX9_next_0 rfl rfl rfl ?_
    refine rn_get 4 (.int (mu 22 8)) dX9_next_1 fl_X9_73 rfl rfl rfl rfl ?_
    refine rn_aload_n 5 dX9_next_4 rfl rfl rfl ?_
    refine rn_get 8 (.int (mu 22 5)) dX9_next_5 fl_X9_70 rfl rfl rfl rfl ?_
    refine rn_icmp_ge 23 11 dX9_next_8 (by decide) rfl (fun c8 => absurd c8 (by rw [h8, ht.2.1]; exact nI_ge hl (by omega))) (fun _ => ?_)
    refine rn_aload_n 12 dX9_next_11 rfl rfl rfl ?_
    refine rn_get 15 (.ref 25) dX9_next_12 fl_X9_20 rfl rfl rfl rfl ?_
    refine rn_aload_n 16 dX9_next_15 rfl rfl rfl ?_
    refine rn_get 19 (.int (mu 22 8)) dX9_next_16 fl_X9_73 rfl rfl rfl rfl ?_
    rw [h8]
    refine rn_iald 20 (nI b) dX9_next_19 rfl (vp_in_nI (by omega) (by omega)) (by rw [nI_clamp (by omega)]; exact ht.2.2.2 p b hb) rfl ?_
    refine rn_goto 24 dX9_next_20 (by decide) ?_
    exact rn_iret rfl dX9_next_24 (⟨by rw [lt_some hb], rfl, rfl⟩)

set_option maxRecDepth 100000 in
set_option maxHeartbeats 2000000 in
theorem lp_blanks (d : Nat) {tx : List Nat} (h : Int64) : ∀ (k p : Nat) (mu : Nat → Nat → Int32), mt tx mu → mu 22 8 = nI p → p + k = tx.length → rn_R none mX9_blanks (d + 1) 0 [some (.ref 22)] [] mu h (pq none (mu_s mu 22 8 (nI (sk tx p))) h) := by
  intro k
  induction k with
  | zero =>
    intro p mu ht h8 hk
    have h110 := ht.1
    have hb : ¬ tx[p]? = some 32 := by rw [List.getElem?_eq_none (by omega)]; simp
    refine rn_aload_n 1 dX9_blanks_0 rfl rfl rfl ?_
    refine rn_cvp mX9_next [] [] 4 (.int (lt tx p)) dX9_blanks_1 cv_X9_79 rfl rfl rfl (by simp [Value.category]) rfl (c_next d h ht h8 (by omega)) ?_
    refine rn_bipush (v := 32) 6 dX9_blanks_4 (by decide) rfl ?_
    refine rn_icmp_ne 22 9 dX9_blanks_6 (by decide) rfl (fun _ => ?_) (fun c6 => absurd c6 (fun q => hb ((lt_is ht.2.2.1 (c := 32) (by omega)).mp q)))
    exact rn_vret rfl dX9_blanks_22 (⟨rfl, by rw [sk_n hb, mu_same h8], rfl⟩)
  | succ k ih =>
    intro p mu ht h8 hk
    have h110 := ht.1
    by_cases hb : tx[p]? = some 32
    · skip
      refine rn_aload_n 1 dX9_blanks_0 rfl rfl rfl ?_
      refine rn_cvp mX9_next [] [] 4 (.int (lt tx p)) dX9_blanks_1 cv_X9_79 rfl rfl rfl (by simp [Value.category]) rfl (c_next d h ht h8 (by omega)) ?_
      refine rn_bipush (v := 32) 6 dX9_blanks_4 (by decide) rfl ?_
      refine rn_icmp_ne 22 9 dX9_blanks_6 (by decide) rfl (fun c6 => absurd ((lt_is ht.2.2.1 (c := 32) (by omega)).mpr hb) c6) (fun _ => ?_)
      refine rn_aload_n 10 dX9_blanks_9 rfl rfl rfl ?_
      refine rn_dup 11 dX9_blanks_10 rfl rfl ?_
      refine rn_get 14 (.int (mu 22 8)) dX9_blanks_11 fl_X9_73 rfl rfl rfl rfl ?_
      refine rn_iconst (v := 1) 15 dX9_blanks_14 (by decide) rfl ?_
      refine rn_iadd 16 dX9_blanks_15 rfl ?_
      rw [show mu 22 8 + 1 = nI (p + 1) by rw [h8, nI_1]]
      refine rn_put 19 dX9_blanks_16 fp_X9_73 rfl rfl rfl rfl rfl ?_
      refine rn_goto 0 dX9_blanks_19 (by decide) ?_
      have z := ih (p + 1) (mu_s mu 22 8 (nI (p + 1))) (mt_of ht rfl rfl) rfl (by omega)
      rw [mu_ss, ← sk_b hb] at z
      exact z
    · skip
      refine rn_aload_n 1 dX9_blanks_0 rfl rfl rfl ?_
      refine rn_cvp mX9_next [] [] 4 (.int (lt tx p)) dX9_blanks_1 cv_X9_79 rfl rfl rfl (by simp [Value.category]) rfl (c_next d h ht h8 (by omega)) ?_
      refine rn_bipush (v := 32) 6 dX9_blanks_4 (by decide) rfl ?_
      refine rn_icmp_ne 22 9 dX9_blanks_6 (by decide) rfl (fun _ => ?_) (fun c6 => absurd c6 (fun q => hb ((lt_is ht.2.2.1 (c := 32) (by omega)).mp q)))
      exact rn_vret rfl dX9_blanks_22 (⟨rfl, by rw [sk_n hb, mu_same h8], rfl⟩)

theorem c_blanks (d : Nat) {tx : List Nat} {mu : Nat → Nat → Int32} (h : Int64) (ht : mt tx mu) {p : Nat} (h8 : mu 22 8 = nI p) (hp : p ≤ tx.length) : gd_G mX9_blanks (d + 1) [.ref 22] mu h (pq none (mu_s mu 22 8 (nI (sk tx p))) h) := by
  refine gd_of rfl (Nat.le_of_ble_eq_true rfl) ?_
  exact lp_blanks d h (tx.length - p) p mu ht h8 (by omega)

set_option maxRecDepth 100000 in
set_option maxHeartbeats 2000000 in
theorem c_passes (d : Nat) {tx : List Nat} {mu : Nat → Nat → Int32} (h : Int64) (ht : mt tx mu) {p : Nat} (h8 : mu 22 8 = nI p) (hp : p < tx.length) : gd_G mX9_passes (d + 2) [.ref 22] mu h (pq none (mu_s mu 22 8 (nI (sk tx (p + 1)))) h) := by
  refine gd_of rfl (Nat.le_of_ble_eq_true rfl) ?_
  show rn_R none mX9_passes (d + 2) 0 [some (.ref 22)] [] mu h (pq none (mu_s mu 22 8 (nI (sk tx (p + 1)))) h)
  refine rn_aload_n 1 dX9_passes_0 rfl rfl rfl ?_
  refine rn_dup 2 dX9_passes_1 rfl rfl ?_
  refine rn_get 5 (.int (mu 22 8)) dX9_passes_2 fl_X9_73 rfl rfl rfl rfl ?_
  refine rn_iconst (v := 1) 6 dX9_passes_5 (by decide) rfl ?_
  refine rn_iadd 7 dX9_passes_6 rfl ?_
  rw [show mu 22 8 + 1 = nI (p + 1) by rw [h8, nI_1]]
  refine rn_put 10 dX9_passes_7 fp_X9_73 rfl rfl rfl rfl rfl ?_
  refine rn_aload_n 11 dX9_passes_10 rfl rfl rfl ?_
  refine rn_cvm mX9_blanks [] [] 14 (none) (mu_s (mu_s mu 22 8 (nI (p + 1))) 22 8 (nI (sk tx (p + 1)))) dX9_passes_11 cv_X9_76 rfl rfl rfl (by simp [Value.category]) rfl (c_blanks d (mu := mu_s mu 22 8 (nI (p + 1))) h (mt_of (mu' := mu_s mu 22 8 (nI (p + 1))) ht rfl rfl) rfl hp) ?_
  exact rn_vret rfl dX9_passes_14 (⟨rfl, by rw [mu_ss], rfl⟩)

set_option maxRecDepth 100000 in
set_option maxHeartbeats 2000000 in
theorem c_isDigit (d : Nat) {tx : List Nat} {mu : Nat → Nat → Int32} (h : Int64) (ht : mt tx mu) {p : Nat} (h8 : mu 22 8 = nI p) (hp : p ≤ tx.length) : gd_G mX9_isDigit (d + 1) [.ref 22] mu h (pq (some (.int (if (dgN tx p).isSome then 1 else 0))) mu h) := by
  refine gd_of rfl (Nat.le_of_ble_eq_true rfl) ?_
  show rn_R none mX9_isDigit (d + 1) 0 [some (.ref 22)] [] mu h (pq (some (.int (if (dgN tx p).isSome then 1 else 0))) mu h)
  cases hb : tx[p]? with
  | none =>
    have e : dgN tx p = none := by unfold dgN; rw [hb]
    rw [e]
    refine rn_aload_n 1 dX9_isDigit_0 rfl rfl rfl ?_
    refine rn_cvp mX9_next [] [] 4 (.int (lt tx p)) dX9_isDigit_1 cv_X9_79 rfl rfl rfl (by simp [Value.category]) rfl (c_next (d + 0) h ht h8 hp) ?_
    rw [lt_none hb]
    refine rn_bipush (v := 48) 6 dX9_isDigit_4 (by decide) rfl ?_
    refine rn_bipush (v := 57) 8 dX9_isDigit_6 (by decide) rfl ?_
    refine rn_csp mX9_in [.int (-1), .int 48, .int 57] [] 11 (.int 0) dX9_isDigit_8 cs_X9_38 rfl rfl (by simp [Value.category]) rfl (c_in_f (d + 0) mu h (Or.inl (by decide))) ?_
    exact rn_zret rfl dX9_isDigit_11 rfl (⟨rfl, rfl, rfl⟩)
  | some b =>
    have hlt := ht.2.2.1 b (List.mem_of_getElem? hb)
    by_cases q : 48 ≤ b ∧ b ≤ 57
    · skip
      have e : dgN tx p = some (b - 48) := by unfold dgN; rw [hb]; simp only; rw [if_pos q]
      rw [e]
      refine rn_aload_n 1 dX9_isDigit_0 rfl rfl rfl ?_
      refine rn_cvp mX9_next [] [] 4 (.int (lt tx p)) dX9_isDigit_1 cv_X9_79 rfl rfl rfl (by simp [Value.category]) rfl (c_next (d + 0) h ht h8 hp) ?_
      rw [lt_some hb]
      refine rn_bipush (v := 48) 6 dX9_isDigit_4 (by decide) rfl ?_
      refine rn_bipush (v := 57) 8 dX9_isDigit_6 (by decide) rfl ?_
      refine rn_csp mX9_in [.int (nI b), .int 48, .int 57] [] 11 (.int 1) dX9_isDigit_8 cs_X9_38 rfl rfl (by simp [Value.category]) rfl (c_in_t (d + 0) mu h (nI_nlt (b := 48) q.1 (by omega)) (nI_nlt (a := 57) q.2 (by omega))) ?_
      exact rn_zret rfl dX9_isDigit_11 rfl (⟨rfl, rfl, rfl⟩)
    · skip
      have e : dgN tx p = none := by unfold dgN; rw [hb]; simp only; rw [if_neg q]
      rw [e]
      refine rn_aload_n 1 dX9_isDigit_0 rfl rfl rfl ?_
      refine rn_cvp mX9_next [] [] 4 (.int (lt tx p)) dX9_isDigit_1 cv_X9_79 rfl rfl rfl (by simp [Value.category]) rfl (c_next (d + 0) h ht h8 hp) ?_
      rw [lt_some hb]
      refine rn_bipush (v := 48) 6 dX9_isDigit_4 (by decide) rfl ?_
      refine rn_bipush (v := 57) 8 dX9_isDigit_6 (by decide) rfl ?_
      refine rn_csp mX9_in [.int (nI b), .int 48, .int 57] [] 11 (.int 0) dX9_isDigit_8 cs_X9_38 rfl rfl (by simp [Value.category]) rfl (c_in_f (d + 0) mu h (by by_cases z : b < 48; exact Or.inl (nI_lt (b := 48) z (by omega)); exact Or.inr (nI_lt (a := 57) (by omega) (by omega)))) ?_
      exact rn_zret rfl dX9_isDigit_11 rfl (⟨rfl, rfl, rfl⟩)

set_option maxRecDepth 100000 in
set_option maxHeartbeats 2000000 in
theorem c_node_t (d : Nat) {tx : List Nat} {mu : Nat → Nat → Int32} (h : Int64) (ht : mt tx mu) {p : Nat} (h8 : mu 22 8 = nI p) (hp : p ≤ tx.length) (h9 : mu 22 9 = 1) {b : Nat} (hb : tx[p]? = some b) (h1 : 97 ≤ b) (h2 : b ≤ 104) {bt : Int32} (hne : ¬ nI (b - 97) = bt) : gd_G mX9_node (d + 3) [.ref 22, .int bt] mu h (pq (some (.int (nI (b - 97)))) (mu_s mu 22 8 (nI (sk tx (p + 1)))) h) := by
  refine gd_of rfl (Nat.le_of_ble_eq_true rfl) ?_
  show rn_R none mX9_node (d + 3) 0 [some (.ref 22), some (.int bt), none] [] mu h (pq (some (.int (nI (b - 97)))) (mu_s mu 22 8 (nI (sk tx (p + 1)))) h)
  have hlt := ht.2.2.1 b (List.mem_of_getElem? hb)
  have hl : p < tx.length := (List.getElem?_eq_some_iff.mp hb).1
  have esub : lt tx p - 97 = nI (b - 97) := by rw [lt_some hb, show (97 : Int32) = nI 97 from rfl, pk_sub h1]
  refine rn_aload_n 1 dX9_node_0 rfl rfl rfl ?_
  refine rn_cvp mX9_next [] [] 4 (.int (lt tx p)) dX9_node_1 cv_X9_79 rfl rfl rfl (by simp [Value.category]) rfl (c_next (d + 2) h ht h8 (by omega)) ?_
  refine rn_bipush (v := 97) 6 dX9_node_4 (by decide) rfl ?_
  refine rn_isub 7 dX9_node_6 rfl ?_
  rw [esub]
  refine rn_istore_n 8 [some (.ref 22), some (.int bt), some (.int (nI (b - 97)))] dX9_node_7 rfl rfl (Nat.le_of_ble_eq_true rfl) rfl ?_
  refine rn_aload_n 9 dX9_node_8 rfl rfl rfl ?_
  refine rn_aload_n 10 dX9_node_9 rfl rfl rfl ?_
  refine rn_get 13 (.int (mu 22 9)) dX9_node_10 fl_X9_83 rfl rfl rfl rfl ?_
  refine rn_if_eq 35 16 dX9_node_13 (by decide) rfl (fun c13 => absurd c13 (by rw [h9]; decide)) (fun _ => ?_)
  refine rn_iload_n 17 dX9_node_16 rfl rfl rfl ?_
  refine rn_iconst (v := 0) 18 dX9_node_17 (by decide) rfl ?_
  refine rn_bipush (v := 7) 20 dX9_node_18 (by decide) rfl ?_
  refine rn_csp mX9_in [.int (nI (b - 97)), .int 0, .int 7] [.ref 22] 23 (.int 1) dX9_node_20 cs_X9_38 rfl rfl (by simp [Value.category]) rfl (c_in_t (d + 2) mu h (nI_pos (by omega)) (nI_nlt (a := 7) (by omega) (by omega))) ?_
  refine rn_if_eq 35 26 dX9_node_23 (by decide) rfl (fun c23 => absurd c23 (by decide)) (fun _ => ?_)
  refine rn_iload_n 27 dX9_node_26 rfl rfl rfl ?_
  refine rn_iload_n 28 dX9_node_27 rfl rfl rfl ?_
  refine rn_icmp_eq 35 31 dX9_node_28 (by decide) rfl (fun c28 => absurd c28 (hne)) (fun _ => ?_)
  refine rn_iconst (v := 1) 32 dX9_node_31 (by decide) rfl ?_
  refine rn_goto 36 dX9_node_32 (by decide) ?_
  refine rn_put 39 dX9_node_36 fp_X9_83 rfl rfl rfl rfl rfl ?_
  rw [mu_same h9]
  refine rn_aload_n 40 dX9_node_39 rfl rfl rfl ?_
  refine rn_get 43 (.int (mu 22 9)) dX9_node_40 fl_X9_83 rfl rfl rfl rfl ?_
  rw [h9]
  refine rn_if_eq 50 46 dX9_node_43 (by decide) rfl (fun c43 => absurd c43 (by decide)) (fun _ => ?_)
  refine rn_aload_n 47 dX9_node_46 rfl rfl rfl ?_
  refine rn_cvm mX9_passes [] [] 50 (none) (mu_s mu 22 8 (nI (sk tx (p + 1)))) dX9_node_47 cv_X9_87 rfl rfl rfl (by simp [Value.category]) rfl (c_passes d h ht h8 hl) ?_
  refine rn_iload_n 51 dX9_node_50 rfl rfl rfl ?_
  exact rn_iret rfl dX9_node_51 (⟨rfl, rfl, rfl⟩)

set_option maxRecDepth 100000 in
set_option maxHeartbeats 2000000 in
theorem c_node_f (d : Nat) {tx : List Nat} {mu : Nat → Nat → Int32} (h : Int64) (ht : mt tx mu) {p : Nat} (h8 : mu 22 8 = nI p) (hp : p ≤ tx.length) {bt : Int32} (hf : mu 22 9 = 0 ∨ (¬ lt tx p - 97 < 0 → ¬ 7 < lt tx p - 97 → lt tx p - 97 = bt)) : gd_G mX9_node (d + 3) [.ref 22, .int bt] mu h (jq (mu_s mu 22 9 0) h) := by
  refine gd_of rfl (Nat.le_of_ble_eq_true rfl) ?_
  show rn_R none mX9_node (d + 3) 0 [some (.ref 22), some (.int bt), none] [] mu h (jq (mu_s mu 22 9 0) h)
  by_cases q9 : mu 22 9 = 0
  · skip
    refine rn_aload_n 1 dX9_node_0 rfl rfl rfl ?_
    refine rn_cvp mX9_next [] [] 4 (.int (lt tx p)) dX9_node_1 cv_X9_79 rfl rfl rfl (by simp [Value.category]) rfl (c_next (d + 2) h ht h8 hp) ?_
    refine rn_bipush (v := 97) 6 dX9_node_4 (by decide) rfl ?_
    refine rn_isub 7 dX9_node_6 rfl ?_
    refine rn_istore_n 8 [some (.ref 22), some (.int bt), some (.int ((lt tx p) - 97))] dX9_node_7 rfl rfl (Nat.le_of_ble_eq_true rfl) rfl ?_
    refine rn_aload_n 9 dX9_node_8 rfl rfl rfl ?_
    refine rn_aload_n 10 dX9_node_9 rfl rfl rfl ?_
    refine rn_get 13 (.int (mu 22 9)) dX9_node_10 fl_X9_83 rfl rfl rfl rfl ?_
    refine rn_if_eq 35 16 dX9_node_13 (by decide) rfl (fun _ => ?_) (fun c13 => absurd (q9) c13)
    refine rn_iconst (v := 0) 36 dX9_node_35 (by decide) rfl ?_
    refine rn_put 39 dX9_node_36 fp_X9_83 rfl rfl rfl rfl rfl ?_
    refine rn_aload_n 40 dX9_node_39 rfl rfl rfl ?_
    refine rn_get 43 (.int (0)) dX9_node_40 fl_X9_83 rfl rfl rfl rfl ?_
    refine rn_if_eq 50 46 dX9_node_43 (by decide) rfl (fun _ => ?_) (fun c43 => absurd (rfl) c43)
    refine rn_iload_n 51 dX9_node_50 rfl rfl rfl ?_
    exact rn_iret rfl dX9_node_51 (⟨⟨_, rfl⟩, rfl, rfl⟩)
  · skip
    have hbad := hf.resolve_left q9
    by_cases q1 : lt tx p - 97 < 0 ∨ 7 < lt tx p - 97
    · skip
      refine rn_aload_n 1 dX9_node_0 rfl rfl rfl ?_
      refine rn_cvp mX9_next [] [] 4 (.int (lt tx p)) dX9_node_1 cv_X9_79 rfl rfl rfl (by simp [Value.category]) rfl (c_next (d + 2) h ht h8 hp) ?_
      refine rn_bipush (v := 97) 6 dX9_node_4 (by decide) rfl ?_
      refine rn_isub 7 dX9_node_6 rfl ?_
      refine rn_istore_n 8 [some (.ref 22), some (.int bt), some (.int ((lt tx p) - 97))] dX9_node_7 rfl rfl (Nat.le_of_ble_eq_true rfl) rfl ?_
      refine rn_aload_n 9 dX9_node_8 rfl rfl rfl ?_
      refine rn_aload_n 10 dX9_node_9 rfl rfl rfl ?_
      refine rn_get 13 (.int (mu 22 9)) dX9_node_10 fl_X9_83 rfl rfl rfl rfl ?_
      refine rn_if_eq 35 16 dX9_node_13 (by decide) rfl (fun c13 => absurd c13 (q9)) (fun _ => ?_)
      refine rn_iload_n 17 dX9_node_16 rfl rfl rfl ?_
      refine rn_iconst (v := 0) 18 dX9_node_17 (by decide) rfl ?_
      refine rn_bipush (v := 7) 20 dX9_node_18 (by decide) rfl ?_
      refine rn_csp mX9_in [.int ((lt tx p) - 97), .int 0, .int 7] [.ref 22] 23 (.int 0) dX9_node_20 cs_X9_38 rfl rfl (by simp [Value.category]) rfl (c_in_f (d + 2) mu h q1) ?_
      refine rn_if_eq 35 26 dX9_node_23 (by decide) rfl (fun _ => ?_) (fun c23 => absurd (by decide) c23)
      refine rn_iconst (v := 0) 36 dX9_node_35 (by decide) rfl ?_
      refine rn_put 39 dX9_node_36 fp_X9_83 rfl rfl rfl rfl rfl ?_
      refine rn_aload_n 40 dX9_node_39 rfl rfl rfl ?_
      refine rn_get 43 (.int (0)) dX9_node_40 fl_X9_83 rfl rfl rfl rfl ?_
      refine rn_if_eq 50 46 dX9_node_43 (by decide) rfl (fun _ => ?_) (fun c43 => absurd (rfl) c43)
      refine rn_iload_n 51 dX9_node_50 rfl rfl rfl ?_
      exact rn_iret rfl dX9_node_51 (⟨⟨_, rfl⟩, rfl, rfl⟩)
    · skip
      have q2 : ¬ lt tx p - 97 < 0 := fun z => q1 (Or.inl z)
      have q3 : ¬ 7 < lt tx p - 97 := fun z => q1 (Or.inr z)
      refine rn_aload_n 1 dX9_node_0 rfl rfl rfl ?_
      refine rn_cvp mX9_next [] [] 4 (.int (lt tx p)) dX9_node_1 cv_X9_79 rfl rfl rfl (by simp [Value.category]) rfl (c_next (d + 2) h ht h8 hp) ?_
      refine rn_bipush (v := 97) 6 dX9_node_4 (by decide) rfl ?_
      refine rn_isub 7 dX9_node_6 rfl ?_
      refine rn_istore_n 8 [some (.ref 22), some (.int bt), some (.int ((lt tx p) - 97))] dX9_node_7 rfl rfl (Nat.le_of_ble_eq_true rfl) rfl ?_
      refine rn_aload_n 9 dX9_node_8 rfl rfl rfl ?_
      refine rn_aload_n 10 dX9_node_9 rfl rfl rfl ?_
      refine rn_get 13 (.int (mu 22 9)) dX9_node_10 fl_X9_83 rfl rfl rfl rfl ?_
      refine rn_if_eq 35 16 dX9_node_13 (by decide) rfl (fun c13 => absurd c13 (q9)) (fun _ => ?_)
      refine rn_iload_n 17 dX9_node_16 rfl rfl rfl ?_
      refine rn_iconst (v := 0) 18 dX9_node_17 (by decide) rfl ?_
      refine rn_bipush (v := 7) 20 dX9_node_18 (by decide) rfl ?_
      refine rn_csp mX9_in [.int ((lt tx p) - 97), .int 0, .int 7] [.ref 22] 23 (.int 1) dX9_node_20 cs_X9_38 rfl rfl (by simp [Value.category]) rfl (c_in_t (d + 2) mu h q2 q3) ?_
      refine rn_if_eq 35 26 dX9_node_23 (by decide) rfl (fun c23 => absurd c23 (by decide)) (fun _ => ?_)
      refine rn_iload_n 27 dX9_node_26 rfl rfl rfl ?_
      refine rn_iload_n 28 dX9_node_27 rfl rfl rfl ?_
      refine rn_icmp_eq 35 31 dX9_node_28 (by decide) rfl (fun _ => ?_) (fun c28 => absurd (hbad q2 q3) c28)
      refine rn_iconst (v := 0) 36 dX9_node_35 (by decide) rfl ?_
      refine rn_put 39 dX9_node_36 fp_X9_83 rfl rfl rfl rfl rfl ?_
      refine rn_aload_n 40 dX9_node_39 rfl rfl rfl ?_
      refine rn_get 43 (.int (0)) dX9_node_40 fl_X9_83 rfl rfl rfl rfl ?_
      refine rn_if_eq 50 46 dX9_node_43 (by decide) rfl (fun _ => ?_) (fun c43 => absurd (rfl) c43)
      refine rn_iload_n 51 dX9_node_50 rfl rfl rfl ?_
      exact rn_iret rfl dX9_node_51 (⟨⟨_, rfl⟩, rfl, rfl⟩)

set_option maxRecDepth 100000 in
set_option maxHeartbeats 2000000 in
theorem c_sign_t (d : Nat) {tx : List Nat} {mu : Nat → Nat → Int32} (h : Int64) (ht : mt tx mu) {p : Nat} (h8 : mu 22 8 = nI p) (hp : p ≤ tx.length) (h9 : mu 22 9 = 1) {c : Nat} (hc : c < 128) (hb : tx[p]? = some c) : gd_G mX9_sign (d + 3) [.ref 22, .int (nI c)] mu h (pq none (mu_s mu 22 8 (nI (sk tx (p + 1)))) h) := by
  refine gd_of rfl (Nat.le_of_ble_eq_true rfl) ?_
  show rn_R none mX9_sign (d + 3) 0 [some (.ref 22), some (.int (nI c))] [] mu h (pq none (mu_s mu 22 8 (nI (sk tx (p + 1)))) h)
  have hl : p < tx.length := (List.getElem?_eq_some_iff.mp hb).1
  refine rn_aload_n 1 dX9_sign_0 rfl rfl rfl ?_
  refine rn_aload_n 2 dX9_sign_1 rfl rfl rfl ?_
  refine rn_get 5 (.int (mu 22 9)) dX9_sign_2 fl_X9_83 rfl rfl rfl rfl ?_
  refine rn_if_eq 20 8 dX9_sign_5 (by decide) rfl (fun c5 => absurd c5 (by rw [h9]; decide)) (fun _ => ?_)
  refine rn_aload_n 9 dX9_sign_8 rfl rfl rfl ?_
  refine rn_cvp mX9_next [] [.ref 22] 12 (.int (lt tx p)) dX9_sign_9 cv_X9_79 rfl rfl rfl (by simp [Value.category]) rfl (c_next (d + 2) h ht h8 (by omega)) ?_
  refine rn_iload_n 13 dX9_sign_12 rfl rfl rfl ?_
  refine rn_icmp_ne 20 16 dX9_sign_13 (by decide) rfl (fun c13 => absurd ((lt_is ht.2.2.1 hc).mpr hb) c13) (fun _ => ?_)
  refine rn_iconst (v := 1) 17 dX9_sign_16 (by decide) rfl ?_
  refine rn_goto 21 dX9_sign_17 (by decide) ?_
  refine rn_put 24 dX9_sign_21 fp_X9_83 rfl rfl rfl rfl rfl ?_
  rw [mu_same h9]
  refine rn_aload_n 25 dX9_sign_24 rfl rfl rfl ?_
  refine rn_get 28 (.int (mu 22 9)) dX9_sign_25 fl_X9_83 rfl rfl rfl rfl ?_
  refine rn_if_eq 35 31 dX9_sign_28 (by decide) rfl (fun c28 => absurd c28 (by rw [h9]; decide)) (fun _ => ?_)
  refine rn_aload_n 32 dX9_sign_31 rfl rfl rfl ?_
  refine rn_cvm mX9_passes [] [] 35 (none) (mu_s mu 22 8 (nI (sk tx (p + 1)))) dX9_sign_32 cv_X9_87 rfl rfl rfl (by simp [Value.category]) rfl (c_passes d h ht h8 hl) ?_
  exact rn_vret rfl dX9_sign_35 (⟨rfl, rfl, rfl⟩)

set_option maxRecDepth 100000 in
set_option maxHeartbeats 2000000 in
theorem c_sign_f (d : Nat) {tx : List Nat} {mu : Nat → Nat → Int32} (h : Int64) (ht : mt tx mu) {p : Nat} (h8 : mu 22 8 = nI p) (hp : p ≤ tx.length) {c : Nat} (hc : c < 128) (hf : mu 22 9 = 0 ∨ ¬ tx[p]? = some c) : gd_G mX9_sign (d + 3) [.ref 22, .int (nI c)] mu h (pq none (mu_s mu 22 9 0) h) := by
  refine gd_of rfl (Nat.le_of_ble_eq_true rfl) ?_
  show rn_R none mX9_sign (d + 3) 0 [some (.ref 22), some (.int (nI c))] [] mu h (pq none (mu_s mu 22 9 0) h)
  by_cases q9 : mu 22 9 = 0
  · skip
    refine rn_aload_n 1 dX9_sign_0 rfl rfl rfl ?_
    refine rn_aload_n 2 dX9_sign_1 rfl rfl rfl ?_
    refine rn_get 5 (.int (mu 22 9)) dX9_sign_2 fl_X9_83 rfl rfl rfl rfl ?_
    refine rn_if_eq 20 8 dX9_sign_5 (by decide) rfl (fun _ => ?_) (fun c5 => absurd (q9) c5)
    refine rn_iconst (v := 0) 21 dX9_sign_20 (by decide) rfl ?_
    refine rn_put 24 dX9_sign_21 fp_X9_83 rfl rfl rfl rfl rfl ?_
    refine rn_aload_n 25 dX9_sign_24 rfl rfl rfl ?_
    refine rn_get 28 (.int (0)) dX9_sign_25 fl_X9_83 rfl rfl rfl rfl ?_
    refine rn_if_eq 35 31 dX9_sign_28 (by decide) rfl (fun _ => ?_) (fun c28 => absurd (rfl) c28)
    exact rn_vret rfl dX9_sign_35 (⟨rfl, rfl, rfl⟩)
  · skip
    refine rn_aload_n 1 dX9_sign_0 rfl rfl rfl ?_
    refine rn_aload_n 2 dX9_sign_1 rfl rfl rfl ?_
    refine rn_get 5 (.int (mu 22 9)) dX9_sign_2 fl_X9_83 rfl rfl rfl rfl ?_
    refine rn_if_eq 20 8 dX9_sign_5 (by decide) rfl (fun c5 => absurd c5 (q9)) (fun _ => ?_)
    refine rn_aload_n 9 dX9_sign_8 rfl rfl rfl ?_
    refine rn_cvp mX9_next [] [.ref 22] 12 (.int (lt tx p)) dX9_sign_9 cv_X9_79 rfl rfl rfl (by simp [Value.category]) rfl (c_next (d + 2) h ht h8 hp) ?_
    refine rn_iload_n 13 dX9_sign_12 rfl rfl rfl ?_
    refine rn_icmp_ne 20 16 dX9_sign_13 (by decide) rfl (fun _ => ?_) (fun c13 => absurd c13 (fun z => (hf.resolve_left q9) ((lt_is ht.2.2.1 hc).mp z)))
    refine rn_iconst (v := 0) 21 dX9_sign_20 (by decide) rfl ?_
    refine rn_put 24 dX9_sign_21 fp_X9_83 rfl rfl rfl rfl rfl ?_
    refine rn_aload_n 25 dX9_sign_24 rfl rfl rfl ?_
    refine rn_get 28 (.int (0)) dX9_sign_25 fl_X9_83 rfl rfl rfl rfl ?_
    refine rn_if_eq 35 31 dX9_sign_28 (by decide) rfl (fun _ => ?_) (fun c28 => absurd (rfl) c28)
    exact rn_vret rfl dX9_sign_35 (⟨rfl, rfl, rfl⟩)
