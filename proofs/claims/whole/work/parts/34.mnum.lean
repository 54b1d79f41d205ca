/-! THE TEXT, read by the reference: numbers -/
theorem dg_some {tx : List Nat} {p k : Nat} (h : dgN tx p = some k) : ∃ b, tx[p]? = some b ∧ 48 ≤ b ∧ b ≤ 57 ∧ k = b - 48 := by
  unfold dgN at h
  cases hb : tx[p]? with
  | none => rw [hb] at h; cases h
  | some b =>
    rw [hb] at h
    simp only at h
    by_cases q : 48 ≤ b ∧ b ≤ 57
    · rw [if_pos q] at h; cases h; exact ⟨b, rfl, q.1, q.2, rfl⟩
    · rw [if_neg q] at h; cases h
theorem lt_dg {tx : List Nat} {p k : Nat} (h : dgN tx p = some k) : lt tx p = nI (k + 48) := by
  obtain ⟨b, hb, h1, h2, rfl⟩ := dg_some h
  rw [lt_some hb, Nat.sub_add_cancel h1]

set_option maxRecDepth 100000 in
set_option maxHeartbeats 2000000 in
theorem c_num1_0 (d : Nat) {tx : List Nat} {mu : Nat → Nat → Int32} (h : Int64) (ht : mt tx mu) {p : Nat} (h8 : mu 22 8 = nI p) (hp : p ≤ tx.length) (h9 : mu 22 9 = 1) {d1 : Nat} (hd1 : dgN tx p = some d1) (hd2 : dgN tx (p + 1) = none) : gd_G mX9_number (d + 3) [.ref 22, .int 0] mu h (pq (some (.int (nI d1))) (mu_s mu 22 8 (nI (sk tx (p + 1)))) h) := by
  refine gd_of rfl (Nat.le_of_ble_eq_true rfl) ?_
  show rn_R none mX9_number (d + 3) 0 [some (.ref 22), some (.int 0), none] [] mu h (pq (some (.int (nI d1))) (mu_s mu 22 8 (nI (sk tx (p + 1)))) h)
  have q1 := dgN_lt hd1
  have hi1 := c_isDigit (d + 1) h ht h8 hp
  rw [hd1] at hi1
  have hi2 := c_isDigit (d + 1) (mu := mu_s mu 22 8 (nI (p + 1))) h (mt_of (mu' := mu_s mu 22 8 (nI (p + 1))) ht rfl rfl) rfl (Nat.succ_le_of_lt q1.2)
  rw [hd2] at hi2
  refine rn_aload_n 1 dX9_number_0 rfl rfl rfl ?_
  refine rn_aload_n 2 dX9_number_1 rfl rfl rfl ?_
  refine rn_get 5 (.int (mu 22 9)) dX9_number_2 fl_X9_83 rfl rfl rfl rfl ?_
  refine rn_if_eq 19 8 dX9_number_5 (by decide) rfl (fun c5 => absurd c5 (by rw [h9]; decide)) (fun _ => ?_)
  refine rn_aload_n 9 dX9_number_8 rfl rfl rfl ?_
  refine rn_cvp mX9_isDigit [] [.ref 22] 12 (.int (if (some d1).isSome = true then 1 else 0)) dX9_number_9 cv_X9_90 rfl rfl rfl (by simp [Value.category]) rfl (hi1) ?_
  refine rn_if_eq 19 15 dX9_number_12 (by decide) rfl (fun c12 => absurd c12 (by simp)) (fun _ => ?_)
  refine rn_iconst (v := 1) 16 dX9_number_15 (by decide) rfl ?_
  refine rn_goto 20 dX9_number_16 (by decide) ?_
  refine rn_put 23 dX9_number_20 fp_X9_83 rfl rfl rfl rfl rfl ?_
  rw [mu_same h9]
  refine rn_aload_n 24 dX9_number_23 rfl rfl rfl ?_
  refine rn_get 27 (.int (mu 22 9)) dX9_number_24 fl_X9_83 rfl rfl rfl rfl ?_
  refine rn_if_ne 32 30 dX9_number_27 (by decide) rfl (fun _ => ?_) (fun c27 => absurd c27 (by rw [h9]; decide))
  refine rn_aload_n 33 dX9_number_32 rfl rfl rfl ?_
  refine rn_cvp mX9_next [] [] 36 (.int (lt tx p)) dX9_number_33 cv_X9_79 rfl rfl rfl (by simp [Value.category]) rfl (c_next (d + 2) h ht h8 hp) ?_
  refine rn_bipush (v := 48) 38 dX9_number_36 (by decide) rfl ?_
  refine rn_isub 39 dX9_number_38 rfl ?_
  rw [show lt tx p - 48 = nI d1 by rw [lt_dg hd1, show (48 : Int32) = nI 48 from rfl, pk_sub (by omega), Nat.add_sub_cancel]]
  refine rn_istore_n 40 [some (.ref 22), some (.int 0), some (.int (nI d1))] dX9_number_39 rfl rfl (Nat.le_of_ble_eq_true rfl) rfl ?_
  refine rn_aload_n 41 dX9_number_40 rfl rfl rfl ?_
  refine rn_dup 42 dX9_number_41 rfl rfl ?_
  refine rn_get 45 (.int (mu 22 8)) dX9_number_42 fl_X9_73 rfl rfl rfl rfl ?_
  refine rn_iconst (v := 1) 46 dX9_number_45 (by decide) rfl ?_
  refine rn_iadd 47 dX9_number_46 rfl ?_
  rw [show mu 22 8 + 1 = nI (p + 1) by rw [h8, nI_1]]
  refine rn_put 50 dX9_number_47 fp_X9_73 rfl rfl rfl rfl rfl ?_
  refine rn_aload_n 51 dX9_number_50 rfl rfl rfl ?_
  refine rn_cvp mX9_isDigit [] [] 54 (.int (if (none : Option Nat).isSome = true then 1 else 0)) dX9_number_51 cv_X9_90 rfl rfl rfl (by simp [Value.category]) rfl (hi2) ?_
  refine rn_if_eq 80 57 dX9_number_54 (by decide) rfl (fun _ => ?_) (fun c54 => absurd (rfl) c54)
  refine rn_iload_n 81 dX9_number_80 rfl rfl rfl ?_
  refine rn_if_eq 105 84 dX9_number_81 (by decide) rfl (fun _ => ?_) (fun c81 => absurd (rfl) c81)
  refine rn_aload_n 106 dX9_number_105 rfl rfl rfl ?_
  refine rn_cvm mX9_blanks [] [] 109 (none) (mu_s (mu_s mu 22 8 (nI (p + 1))) 22 8 (nI (sk tx (p + 1)))) dX9_number_106 cv_X9_76 rfl rfl rfl (by simp [Value.category]) rfl (c_blanks (d + 1) (mu := mu_s mu 22 8 (nI (p + 1))) h (mt_of (mu' := mu_s mu 22 8 (nI (p + 1))) ht rfl rfl) rfl (by omega)) ?_
  refine rn_iload_n 110 dX9_number_109 rfl rfl rfl ?_
  exact rn_iret rfl dX9_number_110 (⟨rfl, by rw [mu_ss], rfl⟩)

set_option maxRecDepth 100000 in
set_option maxHeartbeats 2000000 in
theorem c_num1_1 (d : Nat) {tx : List Nat} {mu : Nat → Nat → Int32} (h : Int64) (ht : mt tx mu) {p : Nat} (h8 : mu 22 8 = nI p) (hp : p ≤ tx.length) (h9 : mu 22 9 = 1) {d1 : Nat} (hd1 : dgN tx p = some d1) (hd2 : dgN tx (p + 1) = none) (hz : ¬ d1 = 0) : gd_G mX9_number (d + 3) [.ref 22, .int 1] mu h (pq (some (.int (nI d1))) (mu_s mu 22 8 (nI (sk tx (p + 1)))) h) := by
  refine gd_of rfl (Nat.le_of_ble_eq_true rfl) ?_
  show rn_R none mX9_number (d + 3) 0 [some (.ref 22), some (.int 1), none] [] mu h (pq (some (.int (nI d1))) (mu_s mu 22 8 (nI (sk tx (p + 1)))) h)
  have q1 := dgN_lt hd1
  have hi1 := c_isDigit (d + 1) h ht h8 hp
  rw [hd1] at hi1
  have hi2 := c_isDigit (d + 1) (mu := mu_s mu 22 8 (nI (p + 1))) h (mt_of (mu' := mu_s mu 22 8 (nI (p + 1))) ht rfl rfl) rfl (Nat.succ_le_of_lt q1.2)
  rw [hd2] at hi2
  refine rn_aload_n 1 dX9_number_0 rfl rfl rfl ?_
  refine rn_aload_n 2 dX9_number_1 rfl rfl rfl ?_
  refine rn_get 5 (.int (mu 22 9)) dX9_number_2 fl_X9_83 rfl rfl rfl rfl ?_
  refine rn_if_eq 19 8 dX9_number_5 (by decide) rfl (fun c5 => absurd c5 (by rw [h9]; decide)) (fun _ => ?_)
  refine rn_aload_n 9 dX9_number_8 rfl rfl rfl ?_
  refine rn_cvp mX9_isDigit [] [.ref 22] 12 (.int (if (some d1).isSome = true then 1 else 0)) dX9_number_9 cv_X9_90 rfl rfl rfl (by simp [Value.category]) rfl (hi1) ?_
  refine rn_if_eq 19 15 dX9_number_12 (by decide) rfl (fun c12 => absurd c12 (by simp)) (fun _ => ?_)
  refine rn_iconst (v := 1) 16 dX9_number_15 (by decide) rfl ?_
  refine rn_goto 20 dX9_number_16 (by decide) ?_
  refine rn_put 23 dX9_number_20 fp_X9_83 rfl rfl rfl rfl rfl ?_
  rw [mu_same h9]
  refine rn_aload_n 24 dX9_number_23 rfl rfl rfl ?_
  refine rn_get 27 (.int (mu 22 9)) dX9_number_24 fl_X9_83 rfl rfl rfl rfl ?_
  refine rn_if_ne 32 30 dX9_number_27 (by decide) rfl (fun _ => ?_) (fun c27 => absurd c27 (by rw [h9]; decide))
  refine rn_aload_n 33 dX9_number_32 rfl rfl rfl ?_
  refine rn_cvp mX9_next [] [] 36 (.int (lt tx p)) dX9_number_33 cv_X9_79 rfl rfl rfl (by simp [Value.category]) rfl (c_next (d + 2) h ht h8 hp) ?_
  refine rn_bipush (v := 48) 38 dX9_number_36 (by decide) rfl ?_
  refine rn_isub 39 dX9_number_38 rfl ?_
  rw [show lt tx p - 48 = nI d1 by rw [lt_dg hd1, show (48 : Int32) = nI 48 from rfl, pk_sub (by omega), Nat.add_sub_cancel]]
  refine rn_istore_n 40 [some (.ref 22), some (.int 1), some (.int (nI d1))] dX9_number_39 rfl rfl (Nat.le_of_ble_eq_true rfl) rfl ?_
  refine rn_aload_n 41 dX9_number_40 rfl rfl rfl ?_
  refine rn_dup 42 dX9_number_41 rfl rfl ?_
  refine rn_get 45 (.int (mu 22 8)) dX9_number_42 fl_X9_73 rfl rfl rfl rfl ?_
  refine rn_iconst (v := 1) 46 dX9_number_45 (by decide) rfl ?_
  refine rn_iadd 47 dX9_number_46 rfl ?_
  rw [show mu 22 8 + 1 = nI (p + 1) by rw [h8, nI_1]]
  refine rn_put 50 dX9_number_47 fp_X9_73 rfl rfl rfl rfl rfl ?_
  refine rn_aload_n 51 dX9_number_50 rfl rfl rfl ?_
  refine rn_cvp mX9_isDigit [] [] 54 (.int (if (none : Option Nat).isSome = true then 1 else 0)) dX9_number_51 cv_X9_90 rfl rfl rfl (by simp [Value.category]) rfl (hi2) ?_
  refine rn_if_eq 80 57 dX9_number_54 (by decide) rfl (fun _ => ?_) (fun c54 => absurd (rfl) c54)
  refine rn_iload_n 81 dX9_number_80 rfl rfl rfl ?_
  refine rn_if_eq 105 84 dX9_number_81 (by decide) rfl (fun c81 => absurd c81 (by decide)) (fun _ => ?_)
  refine rn_iload_n 85 dX9_number_84 rfl rfl rfl ?_
  refine rn_if_ne 105 88 dX9_number_85 (by decide) rfl (fun _ => ?_) (fun c85 => absurd c85 (fun q => hz ((nI_eq (b := 0) (by omega) (by omega)).mp q)))
  refine rn_aload_n 106 dX9_number_105 rfl rfl rfl ?_
  refine rn_cvm mX9_blanks [] [] 109 (none) (mu_s (mu_s mu 22 8 (nI (p + 1))) 22 8 (nI (sk tx (p + 1)))) dX9_number_106 cv_X9_76 rfl rfl rfl (by simp [Value.category]) rfl (c_blanks (d + 1) (mu := mu_s mu 22 8 (nI (p + 1))) h (mt_of (mu' := mu_s mu 22 8 (nI (p + 1))) ht rfl rfl) rfl (by omega)) ?_
  refine rn_iload_n 110 dX9_number_109 rfl rfl rfl ?_
  exact rn_iret rfl dX9_number_110 (⟨rfl, by rw [mu_ss], rfl⟩)

set_option maxRecDepth 100000 in
set_option maxHeartbeats 2000000 in
theorem c_num1_z (d : Nat) {tx : List Nat} {mu : Nat → Nat → Int32} (h : Int64) (ht : mt tx mu) {p : Nat} (h8 : mu 22 8 = nI p) (hp : p ≤ tx.length) (h9 : mu 22 9 = 1) {d1 : Nat} (hd1 : dgN tx p = some d1) (hd2 : dgN tx (p + 1) = none) (hz : d1 = 0) : gd_G mX9_number (d + 3) [.ref 22, .int 1] mu h (pq (some (.int 0)) (mu_s (mu_s mu 22 8 (nI ((p + 1) - 1))) 22 9 0) h) := by
  refine gd_of rfl (Nat.le_of_ble_eq_true rfl) ?_
  show rn_R none mX9_number (d + 3) 0 [some (.ref 22), some (.int 1), none] [] mu h (pq (some (.int 0)) (mu_s (mu_s mu 22 8 (nI ((p + 1) - 1))) 22 9 0) h)
  have q1 := dgN_lt hd1
  have hi1 := c_isDigit (d + 1) h ht h8 hp
  rw [hd1] at hi1
  have hi2 := c_isDigit (d + 1) (mu := mu_s mu 22 8 (nI (p + 1))) h (mt_of (mu' := mu_s mu 22 8 (nI (p + 1))) ht rfl rfl) rfl (Nat.succ_le_of_lt q1.2)
  rw [hd2] at hi2
  refine rn_aload_n 1 dX9_number_0 rfl rfl rfl ?_
  refine rn_aload_n 2 dX9_number_1 rfl rfl rfl ?_
  refine rn_get 5 (.int (mu 22 9)) dX9_number_2 fl_X9_83 rfl rfl rfl rfl ?_
  refine rn_if_eq 19 8 dX9_number_5 (by decide) rfl (fun c5 => absurd c5 (by rw [h9]; decide)) (fun _ => ?_)
  refine rn_aload_n 9 dX9_number_8 rfl rfl rfl ?_
  refine rn_cvp mX9_isDigit [] [.ref 22] 12 (.int (if (some d1).isSome = true then 1 else 0)) dX9_number_9 cv_X9_90 rfl rfl rfl (by simp [Value.category]) rfl (hi1) ?_
  refine rn_if_eq 19 15 dX9_number_12 (by decide) rfl (fun c12 => absurd c12 (by simp)) (fun _ => ?_)
  refine rn_iconst (v := 1) 16 dX9_number_15 (by decide) rfl ?_
  refine rn_goto 20 dX9_number_16 (by decide) ?_
  refine rn_put 23 dX9_number_20 fp_X9_83 rfl rfl rfl rfl rfl ?_
  rw [mu_same h9]
  refine rn_aload_n 24 dX9_number_23 rfl rfl rfl ?_
  refine rn_get 27 (.int (mu 22 9)) dX9_number_24 fl_X9_83 rfl rfl rfl rfl ?_
  refine rn_if_ne 32 30 dX9_number_27 (by decide) rfl (fun _ => ?_) (fun c27 => absurd c27 (by rw [h9]; decide))
  refine rn_aload_n 33 dX9_number_32 rfl rfl rfl ?_
  refine rn_cvp mX9_next [] [] 36 (.int (lt tx p)) dX9_number_33 cv_X9_79 rfl rfl rfl (by simp [Value.category]) rfl (c_next (d + 2) h ht h8 hp) ?_
  refine rn_bipush (v := 48) 38 dX9_number_36 (by decide) rfl ?_
  refine rn_isub 39 dX9_number_38 rfl ?_
  rw [show lt tx p - 48 = nI d1 by rw [lt_dg hd1, show (48 : Int32) = nI 48 from rfl, pk_sub (by omega), Nat.add_sub_cancel]]
  refine rn_istore_n 40 [some (.ref 22), some (.int 1), some (.int (nI d1))] dX9_number_39 rfl rfl (Nat.le_of_ble_eq_true rfl) rfl ?_
  refine rn_aload_n 41 dX9_number_40 rfl rfl rfl ?_
  refine rn_dup 42 dX9_number_41 rfl rfl ?_
  refine rn_get 45 (.int (mu 22 8)) dX9_number_42 fl_X9_73 rfl rfl rfl rfl ?_
  refine rn_iconst (v := 1) 46 dX9_number_45 (by decide) rfl ?_
  refine rn_iadd 47 dX9_number_46 rfl ?_
  rw [show mu 22 8 + 1 = nI (p + 1) by rw [h8, nI_1]]
  refine rn_put 50 dX9_number_47 fp_X9_73 rfl rfl rfl rfl rfl ?_
  refine rn_aload_n 51 dX9_number_50 rfl rfl rfl ?_
  refine rn_cvp mX9_isDigit [] [] 54 (.int (if (none : Option Nat).isSome = true then 1 else 0)) dX9_number_51 cv_X9_90 rfl rfl rfl (by simp [Value.category]) rfl (hi2) ?_
  refine rn_if_eq 80 57 dX9_number_54 (by decide) rfl (fun _ => ?_) (fun c54 => absurd (rfl) c54)
  refine rn_iload_n 81 dX9_number_80 rfl rfl rfl ?_
  refine rn_if_eq 105 84 dX9_number_81 (by decide) rfl (fun c81 => absurd c81 (by decide)) (fun _ => ?_)
  refine rn_iload_n 85 dX9_number_84 rfl rfl rfl ?_
  refine rn_if_ne 105 88 dX9_number_85 (by decide) rfl (fun c85 => absurd (by rw [hz]; rfl) c85) (fun _ => ?_)
  refine rn_aload_n 89 dX9_number_88 rfl rfl rfl ?_
  refine rn_dup 90 dX9_number_89 rfl rfl ?_
  refine rn_get 93 (.int (nI (p + 1))) dX9_number_90 fl_X9_73 rfl rfl rfl rfl ?_
  refine rn_iconst (v := 1) 94 dX9_number_93 (by decide) rfl ?_
  refine rn_isub 95 dX9_number_94 rfl ?_
  rw [nI_sub1 (by omega)]
  refine rn_put 98 dX9_number_95 fp_X9_73 rfl rfl rfl rfl rfl ?_
  refine rn_aload_n 99 dX9_number_98 rfl rfl rfl ?_
  refine rn_iconst (v := 0) 100 dX9_number_99 (by decide) rfl ?_
  refine rn_put 103 dX9_number_100 fp_X9_83 rfl rfl rfl rfl rfl ?_
  refine rn_iconst (v := 0) 104 dX9_number_103 (by decide) rfl ?_
  exact rn_iret rfl dX9_number_104 (⟨rfl, by rw [mu_ss], rfl⟩)

set_option maxRecDepth 100000 in
set_option maxHeartbeats 2000000 in
theorem c_num2_0 (d : Nat) {tx : List Nat} {mu : Nat → Nat → Int32} (h : Int64) (ht : mt tx mu) {p : Nat} (h8 : mu 22 8 = nI p) (hp : p ≤ tx.length) (h9 : mu 22 9 = 1) {d1 : Nat} (hd1 : dgN tx p = some d1) {d2 : Nat} (hd2 : dgN tx (p + 1) = some d2) : gd_G mX9_number (d + 3) [.ref 22, .int 0] mu h (pq (some (.int (nI (10 * d1 + d2)))) (mu_s mu 22 8 (nI (sk tx (p + 2)))) h) := by
  refine gd_of rfl (Nat.le_of_ble_eq_true rfl) ?_
  show rn_R none mX9_number (d + 3) 0 [some (.ref 22), some (.int 0), none] [] mu h (pq (some (.int (nI (10 * d1 + d2)))) (mu_s mu 22 8 (nI (sk tx (p + 2)))) h)
  have q1 := dgN_lt hd1
  have hi1 := c_isDigit (d + 1) h ht h8 hp
  rw [hd1] at hi1
  have hi2 := c_isDigit (d + 1) (mu := mu_s mu 22 8 (nI (p + 1))) h (mt_of (mu' := mu_s mu 22 8 (nI (p + 1))) ht rfl rfl) rfl (Nat.succ_le_of_lt q1.2)
  rw [hd2] at hi2
  have q2 := dgN_lt hd2
  refine rn_aload_n 1 dX9_number_0 rfl rfl rfl ?_
  refine rn_aload_n 2 dX9_number_1 rfl rfl rfl ?_
  refine rn_get 5 (.int (mu 22 9)) dX9_number_2 fl_X9_83 rfl rfl rfl rfl ?_
  refine rn_if_eq 19 8 dX9_number_5 (by decide) rfl (fun c5 => absurd c5 (by rw [h9]; decide)) (fun _ => ?_)
  refine rn_aload_n 9 dX9_number_8 rfl rfl rfl ?_
  refine rn_cvp mX9_isDigit [] [.ref 22] 12 (.int (if (some d1).isSome = true then 1 else 0)) dX9_number_9 cv_X9_90 rfl rfl rfl (by simp [Value.category]) rfl (hi1) ?_
  refine rn_if_eq 19 15 dX9_number_12 (by decide) rfl (fun c12 => absurd c12 (by simp)) (fun _ => ?_)
  refine rn_iconst (v := 1) 16 dX9_number_15 (by decide) rfl ?_
  refine rn_goto 20 dX9_number_16 (by decide) ?_
  refine rn_put 23 dX9_number_20 fp_X9_83 rfl rfl rfl rfl rfl ?_
  rw [mu_same h9]
  refine rn_aload_n 24 dX9_number_23 rfl rfl rfl ?_
  refine rn_get 27 (.int (mu 22 9)) dX9_number_24 fl_X9_83 rfl rfl rfl rfl ?_
  refine rn_if_ne 32 30 dX9_number_27 (by decide) rfl (fun _ => ?_) (fun c27 => absurd c27 (by rw [h9]; decide))
  refine rn_aload_n 33 dX9_number_32 rfl rfl rfl ?_
  refine rn_cvp mX9_next [] [] 36 (.int (lt tx p)) dX9_number_33 cv_X9_79 rfl rfl rfl (by simp [Value.category]) rfl (c_next (d + 2) h ht h8 hp) ?_
  refine rn_bipush (v := 48) 38 dX9_number_36 (by decide) rfl ?_
  refine rn_isub 39 dX9_number_38 rfl ?_
  rw [show lt tx p - 48 = nI d1 by rw [lt_dg hd1, show (48 : Int32) = nI 48 from rfl, pk_sub (by omega), Nat.add_sub_cancel]]
  refine rn_istore_n 40 [some (.ref 22), some (.int 0), some (.int (nI d1))] dX9_number_39 rfl rfl (Nat.le_of_ble_eq_true rfl) rfl ?_
  refine rn_aload_n 41 dX9_number_40 rfl rfl rfl ?_
  refine rn_dup 42 dX9_number_41 rfl rfl ?_
  refine rn_get 45 (.int (mu 22 8)) dX9_number_42 fl_X9_73 rfl rfl rfl rfl ?_
  refine rn_iconst (v := 1) 46 dX9_number_45 (by decide) rfl ?_
  refine rn_iadd 47 dX9_number_46 rfl ?_
  rw [show mu 22 8 + 1 = nI (p + 1) by rw [h8, nI_1]]
  refine rn_put 50 dX9_number_47 fp_X9_73 rfl rfl rfl rfl rfl ?_
  refine rn_aload_n 51 dX9_number_50 rfl rfl rfl ?_
  refine rn_cvp mX9_isDigit [] [] 54 (.int (if (some d2).isSome = true then 1 else 0)) dX9_number_51 cv_X9_90 rfl rfl rfl (by simp [Value.category]) rfl (hi2) ?_
  refine rn_if_eq 80 57 dX9_number_54 (by decide) rfl (fun c54 => absurd c54 (by simp)) (fun _ => ?_)
  refine rn_bipush (v := 10) 59 dX9_number_57 (by decide) rfl ?_
  refine rn_iload_n 60 dX9_number_59 rfl rfl rfl ?_
  refine rn_imul 61 dX9_number_60 rfl ?_
  refine rn_aload_n 62 dX9_number_61 rfl rfl rfl ?_
  refine rn_cvp mX9_next [] [.int (10 * (nI d1))] 65 (.int (lt tx (p + 1))) dX9_number_62 cv_X9_79 rfl rfl rfl (by simp [Value.category]) rfl (c_next (d + 2) (mu := mu_s mu 22 8 (nI (p + 1))) h (mt_of (mu' := mu_s mu 22 8 (nI (p + 1))) ht rfl rfl) rfl (Nat.succ_le_of_lt q1.2)) ?_
  refine rn_iadd 66 dX9_number_65 rfl ?_
  refine rn_bipush (v := 48) 68 dX9_number_66 (by decide) rfl ?_
  refine rn_isub 69 dX9_number_68 rfl ?_
  rw [show 10 * nI d1 + lt tx (p + 1) - 48 = nI (10 * d1 + d2) by rw [lt_dg hd2, show (10 : Int32) = nI 10 from rfl, pk_mul, nI_add, show (48 : Int32) = nI 48 from rfl, pk_sub (by omega)]; congr 1]
  refine rn_istore_n 70 [some (.ref 22), some (.int 0), some (.int (nI (10 * d1 + d2)))] dX9_number_69 rfl rfl (Nat.le_of_ble_eq_true rfl) rfl ?_
  refine rn_aload_n 71 dX9_number_70 rfl rfl rfl ?_
  refine rn_dup 72 dX9_number_71 rfl rfl ?_
  refine rn_get 75 (.int (nI (p + 1))) dX9_number_72 fl_X9_73 rfl rfl rfl rfl ?_
  refine rn_iconst (v := 1) 76 dX9_number_75 (by decide) rfl ?_
  refine rn_iadd 77 dX9_number_76 rfl ?_
  rw [nI_1]
  refine rn_put 80 dX9_number_77 fp_X9_73 rfl rfl rfl rfl rfl ?_
  refine rn_iload_n 81 dX9_number_80 rfl rfl rfl ?_
  refine rn_if_eq 105 84 dX9_number_81 (by decide) rfl (fun _ => ?_) (fun c81 => absurd (rfl) c81)
  refine rn_aload_n 106 dX9_number_105 rfl rfl rfl ?_
  refine rn_cvm mX9_blanks [] [] 109 (none) (mu_s (mu_s (mu_s mu 22 8 (nI (p + 1))) 22 8 (nI (p + 2))) 22 8 (nI (sk tx (p + 2)))) dX9_number_106 cv_X9_76 rfl rfl rfl (by simp [Value.category]) rfl (c_blanks (d + 1) (mu := mu_s (mu_s mu 22 8 (nI (p + 1))) 22 8 (nI (p + 2))) h (mt_of (mu' := mu_s (mu_s mu 22 8 (nI (p + 1))) 22 8 (nI (p + 2))) ht rfl rfl) rfl (by omega)) ?_
  refine rn_iload_n 110 dX9_number_109 rfl rfl rfl ?_
  exact rn_iret rfl dX9_number_110 (⟨rfl, by rw [mu_ss, mu_ss], rfl⟩)

set_option maxRecDepth 100000 in
set_option maxHeartbeats 2000000 in
theorem c_num2_1 (d : Nat) {tx : List Nat} {mu : Nat → Nat → Int32} (h : Int64) (ht : mt tx mu) {p : Nat} (h8 : mu 22 8 = nI p) (hp : p ≤ tx.length) (h9 : mu 22 9 = 1) {d1 : Nat} (hd1 : dgN tx p = some d1) {d2 : Nat} (hd2 : dgN tx (p + 1) = some d2) (hz : ¬ (10 * d1 + d2) = 0) : gd_G mX9_number (d + 3) [.ref 22, .int 1] mu h (pq (some (.int (nI (10 * d1 + d2)))) (mu_s mu 22 8 (nI (sk tx (p + 2)))) h) := by
  refine gd_of rfl (Nat.le_of_ble_eq_true rfl) ?_
  show rn_R none mX9_number (d + 3) 0 [some (.ref 22), some (.int 1), none] [] mu h (pq (some (.int (nI (10 * d1 + d2)))) (mu_s mu 22 8 (nI (sk tx (p + 2)))) h)
  have q1 := dgN_lt hd1
  have hi1 := c_isDigit (d + 1) h ht h8 hp
  rw [hd1] at hi1
  have hi2 := c_isDigit (d + 1) (mu := mu_s mu 22 8 (nI (p + 1))) h (mt_of (mu' := mu_s mu 22 8 (nI (p + 1))) ht rfl rfl) rfl (Nat.succ_le_of_lt q1.2)
  rw [hd2] at hi2
  have q2 := dgN_lt hd2
  refine rn_aload_n 1 dX9_number_0 rfl rfl rfl ?_
  refine rn_aload_n 2 dX9_number_1 rfl rfl rfl ?_
  refine rn_get 5 (.int (mu 22 9)) dX9_number_2 fl_X9_83 rfl rfl rfl rfl ?_
  refine rn_if_eq 19 8 dX9_number_5 (by decide) rfl (fun c5 => absurd c5 (by rw [h9]; decide)) (fun _ => ?_)
  refine rn_aload_n 9 dX9_number_8 rfl rfl rfl ?_
  refine rn_cvp mX9_isDigit [] [.ref 22] 12 (.int (if (some d1).isSome = true then 1 else 0)) dX9_number_9 cv_X9_90 rfl rfl rfl (by simp [Value.category]) rfl (hi1) ?_
  refine rn_if_eq 19 15 dX9_number_12 (by decide) rfl (fun c12 => absurd c12 (by simp)) (fun _ => ?_)
  refine rn_iconst (v := 1) 16 dX9_number_15 (by decide) rfl ?_
  refine rn_goto 20 dX9_number_16 (by decide) ?_
  refine rn_put 23 dX9_number_20 fp_X9_83 rfl rfl rfl rfl rfl ?_
  rw [mu_same h9]
  refine rn_aload_n 24 dX9_number_23 rfl rfl rfl ?_
  refine rn_get 27 (.int (mu 22 9)) dX9_number_24 fl_X9_83 rfl rfl rfl rfl ?_
  refine rn_if_ne 32 30 dX9_number_27 (by decide) rfl (fun _ => ?_) (fun c27 => absurd c27 (by rw [h9]; decide))
  refine rn_aload_n 33 dX9_number_32 rfl rfl rfl ?_
  refine rn_cvp mX9_next [] [] 36 (.int (lt tx p)) dX9_number_33 cv_X9_79 rfl rfl rfl (by simp [Value.category]) rfl (c_next (d + 2) h ht h8 hp) ?_
  refine rn_bipush (v := 48) 38 dX9_number_36 (by decide) rfl ?_
  refine rn_isub 39 dX9_number_38 rfl ?_
  rw [show lt tx p - 48 = nI d1 by rw [lt_dg hd1, show (48 : Int32) = nI 48 from rfl, pk_sub (by omega), Nat.add_sub_cancel]]
  refine rn_istore_n 40 [some (.ref 22), some (.int 1), some (.int (nI d1))] dX9_number_39 rfl rfl (Nat.le_of_ble_eq_true rfl) rfl ?_
  refine rn_aload_n 41 dX9_number_40 rfl rfl rfl ?_
  refine rn_dup 42 dX9_number_41 rfl rfl ?_
  refine rn_get 45 (.int (mu 22 8)) dX9_number_42 fl_X9_73 rfl rfl rfl rfl ?_
  refine rn_iconst (v := 1) 46 dX9_number_45 (by decide) rfl ?_
  refine rn_iadd 47 dX9_number_46 rfl ?_
  rw [show mu 22 8 + 1 = nI (p + 1) by rw [h8, nI_1]]
  refine rn_put 50 dX9_number_47 fp_X9_73 rfl rfl rfl rfl rfl ?_
  refine rn_aload_n 51 dX9_number_50 rfl rfl rfl ?_
  refine rn_cvp mX9_isDigit [] [] 54 (.int (if (some d2).isSome = true then 1 else 0)) dX9_number_51 cv_X9_90 rfl rfl rfl (by simp [Value.category]) rfl (hi2) ?_
  refine rn_if_eq 80 57 dX9_number_54 (by decide) rfl (fun c54 => absurd c54 (by simp)) (fun _ => ?_)
  refine rn_bipush (v := 10) 59 dX9_number_57 (by decide) rfl ?_
  refine rn_iload_n 60 dX9_number_59 rfl rfl rfl ?_
  refine rn_imul 61 dX9_number_60 rfl ?_
  refine rn_aload_n 62 dX9_number_61 rfl rfl rfl ?_
  refine rn_cvp mX9_next [] [.int (10 * (nI d1))] 65 (.int (lt tx (p + 1))) dX9_number_62 cv_X9_79 rfl rfl rfl (by simp [Value.category]) rfl (c_next (d + 2) (mu := mu_s mu 22 8 (nI (p + 1))) h (mt_of (mu' := mu_s mu 22 8 (nI (p + 1))) ht rfl rfl) rfl (Nat.succ_le_of_lt q1.2)) ?_
  refine rn_iadd 66 dX9_number_65 rfl ?_
  refine rn_bipush (v := 48) 68 dX9_number_66 (by decide) rfl ?_
  refine rn_isub 69 dX9_number_68 rfl ?_
  rw [show 10 * nI d1 + lt tx (p + 1) - 48 = nI (10 * d1 + d2) by rw [lt_dg hd2, show (10 : Int32) = nI 10 from rfl, pk_mul, nI_add, show (48 : Int32) = nI 48 from rfl, pk_sub (by omega)]; congr 1]
  refine rn_istore_n 70 [some (.ref 22), some (.int 1), some (.int (nI (10 * d1 + d2)))] dX9_number_69 rfl rfl (Nat.le_of_ble_eq_true rfl) rfl ?_
  refine rn_aload_n 71 dX9_number_70 rfl rfl rfl ?_
  refine rn_dup 72 dX9_number_71 rfl rfl ?_
  refine rn_get 75 (.int (nI (p + 1))) dX9_number_72 fl_X9_73 rfl rfl rfl rfl ?_
  refine rn_iconst (v := 1) 76 dX9_number_75 (by decide) rfl ?_
  refine rn_iadd 77 dX9_number_76 rfl ?_
  rw [nI_1]
  refine rn_put 80 dX9_number_77 fp_X9_73 rfl rfl rfl rfl rfl ?_
  refine rn_iload_n 81 dX9_number_80 rfl rfl rfl ?_
  refine rn_if_eq 105 84 dX9_number_81 (by decide) rfl (fun c81 => absurd c81 (by decide)) (fun _ => ?_)
  refine rn_iload_n 85 dX9_number_84 rfl rfl rfl ?_
  refine rn_if_ne 105 88 dX9_number_85 (by decide) rfl (fun _ => ?_) (fun c85 => absurd c85 (fun q => hz ((nI_eq (b := 0) (by omega) (by omega)).mp q)))
  refine rn_aload_n 106 dX9_number_105 rfl rfl rfl ?_
  refine rn_cvm mX9_blanks [] [] 109 (none) (mu_s (mu_s (mu_s mu 22 8 (nI (p + 1))) 22 8 (nI (p + 2))) 22 8 (nI (sk tx (p + 2)))) dX9_number_106 cv_X9_76 rfl rfl rfl (by simp [Value.category]) rfl (c_blanks (d + 1) (mu := mu_s (mu_s mu 22 8 (nI (p + 1))) 22 8 (nI (p + 2))) h (mt_of (mu' := mu_s (mu_s mu 22 8 (nI (p + 1))) 22 8 (nI (p + 2))) ht rfl rfl) rfl (by omega)) ?_
  refine rn_iload_n 110 dX9_number_109 rfl rfl rfl ?_
  exact rn_iret rfl dX9_number_110 (⟨rfl, by rw [mu_ss, mu_ss], rfl⟩)

set_option maxRecDepth 100000 in
set_option maxHeartbeats 2000000 in
theorem c_num2_z (d : Nat) {tx : List Nat} {mu : Nat → Nat → Int32} (h : Int64) (ht : mt tx mu) {p : Nat} (h8 : mu 22 8 = nI p) (hp : p ≤ tx.length) (h9 : mu 22 9 = 1) {d1 : Nat} (hd1 : dgN tx p = some d1) {d2 : Nat} (hd2 : dgN tx (p + 1) = some d2) (hz : (10 * d1 + d2) = 0) : gd_G mX9_number (d + 3) [.ref 22, .int 1] mu h (pq (some (.int 0)) (mu_s (mu_s mu 22 8 (nI ((p + 2) - 1))) 22 9 0) h) := by
  refine gd_of rfl (Nat.le_of_ble_eq_true rfl) ?_
  show rn_R none mX9_number (d + 3) 0 [some (.ref 22), some (.int 1), none] [] mu h (pq (some (.int 0)) (mu_s (mu_s mu 22 8 (nI ((p + 2) - 1))) 22 9 0) h)
  have q1 := dgN_lt hd1
  have hi1 := c_isDigit (d + 1) h ht h8 hp
  rw [hd1] at hi1
  have hi2 := c_isDigit (d + 1) (mu := mu_s mu 22 8 (nI (p + 1))) h (mt_of (mu' := mu_s mu 22 8 (nI (p + 1))) ht rfl rfl) rfl (Nat.succ_le_of_lt q1.2)
  rw [hd2] at hi2
  have q2 := dgN_lt hd2
  refine rn_aload_n 1 dX9_number_0 rfl rfl rfl ?_
  refine rn_aload_n 2 dX9_number_1 rfl rfl rfl ?_
  refine rn_get 5 (.int (mu 22 9)) dX9_number_2 fl_X9_83 rfl rfl rfl rfl ?_
  refine rn_if_eq 19 8 dX9_number_5 (by decide) rfl (fun c5 => absurd c5 (by rw [h9]; decide)) (fun _ => ?_)
  refine rn_aload_n 9 dX9_number_8 rfl rfl rfl ?_
  refine rn_cvp mX9_isDigit [] [.ref 22] 12 (.int (if (some d1).isSome = true then 1 else 0)) dX9_number_9 cv_X9_90 rfl rfl rfl (by simp [Value.category]) rfl (hi1) ?_
  refine rn_if_eq 19 15 dX9_number_12 (by decide) rfl (fun c12 => absurd c12 (by simp)) (fun _ => ?_)
  refine rn_iconst (v := 1) 16 dX9_number_15 (by decide) rfl ?_
  refine rn_goto 20 dX9_number_16 (by decide) ?_
  refine rn_put 23 dX9_number_20 fp_X9_83 rfl rfl rfl rfl rfl ?_
  rw [mu_same h9]
  refine rn_aload_n 24 dX9_number_23 rfl rfl rfl ?_
  refine rn_get 27 (.int (mu 22 9)) dX9_number_24 fl_X9_83 rfl rfl rfl rfl ?_
  refine rn_if_ne 32 30 dX9_number_27 (by decide) rfl (fun _ => ?_) (fun c27 => absurd c27 (by rw [h9]; decide))
  refine rn_aload_n 33 dX9_number_32 rfl rfl rfl ?_
  refine rn_cvp mX9_next [] [] 36 (.int (lt tx p)) dX9_number_33 cv_X9_79 rfl rfl rfl (by simp [Value.category]) rfl (c_next (d + 2) h ht h8 hp) ?_
  refine rn_bipush (v := 48) 38 dX9_number_36 (by decide) rfl ?_
  refine rn_isub 39 dX9_number_38 rfl ?_
  rw [show lt tx p - 48 = nI d1 by rw [lt_dg hd1, show (48 : Int32) = nI 48 from rfl, pk_sub (by omega), Nat.add_sub_cancel]]
  refine rn_istore_n 40 [some (.ref 22), some (.int 1), some (.int (nI d1))] dX9_number_39 rfl rfl (Nat.le_of_ble_eq_true rfl) rfl ?_
  refine rn_aload_n 41 dX9_number_40 rfl rfl rfl ?_
  refine rn_dup 42 dX9_number_41 rfl rfl ?_
  refine rn_get 45 (.int (mu 22 8)) dX9_number_42 fl_X9_73 rfl rfl rfl rfl ?_
  refine rn_iconst (v := 1) 46 dX9_number_45 (by decide) rfl ?_
  refine rn_iadd 47 dX9_number_46 rfl ?_
  rw [show mu 22 8 + 1 = nI (p + 1) by rw [h8, nI_1]]
  refine rn_put 50 dX9_number_47 fp_X9_73 rfl rfl rfl rfl rfl ?_
  refine rn_aload_n 51 dX9_number_50 rfl rfl rfl ?_
  refine rn_cvp mX9_isDigit [] [] 54 (.int (if (some d2).isSome = true then 1 else 0)) dX9_number_51 cv_X9_90 rfl rfl rfl (by simp [Value.category]) rfl (hi2) ?_
  refine rn_if_eq 80 57 dX9_number_54 (by decide) rfl (fun c54 => absurd c54 (by simp)) (fun _ => ?_)
  refine rn_bipush (v := 10) 59 dX9_number_57 (by decide) rfl ?_
  refine rn_iload_n 60 dX9_number_59 rfl rfl rfl ?_
  refine rn_imul 61 dX9_number_60 rfl ?_
  refine rn_aload_n 62 dX9_number_61 rfl rfl rfl ?_
  refine rn_cvp mX9_next [] [.int (10 * (nI d1))] 65 (.int (lt tx (p + 1))) dX9_number_62 cv_X9_79 rfl rfl rfl (by simp [Value.category]) rfl (c_next (d + 2) (mu := mu_s mu 22 8 (nI (p + 1))) h (mt_of (mu' := mu_s mu 22 8 (nI (p + 1))) ht rfl rfl) rfl (Nat.succ_le_of_lt q1.2)) ?_
  refine rn_iadd 66 dX9_number_65 rfl ?_
  refine rn_bipush (v := 48) 68 dX9_number_66 (by decide) rfl ?_
  refine rn_isub 69 dX9_number_68 rfl ?_
  rw [show 10 * nI d1 + lt tx (p + 1) - 48 = nI (10 * d1 + d2) by rw [lt_dg hd2, show (10 : Int32) = nI 10 from rfl, pk_mul, nI_add, show (48 : Int32) = nI 48 from rfl, pk_sub (by omega)]; congr 1]
  refine rn_istore_n 70 [some (.ref 22), some (.int 1), some (.int (nI (10 * d1 + d2)))] dX9_number_69 rfl rfl (Nat.le_of_ble_eq_true rfl) rfl ?_
  refine rn_aload_n 71 dX9_number_70 rfl rfl rfl ?_
  refine rn_dup 72 dX9_number_71 rfl rfl ?_
  refine rn_get 75 (.int (nI (p + 1))) dX9_number_72 fl_X9_73 rfl rfl rfl rfl ?_
  refine rn_iconst (v := 1) 76 dX9_number_75 (by decide) rfl ?_
  refine rn_iadd 77 dX9_number_76 rfl ?_
  rw [nI_1]
  refine rn_put 80 dX9_number_77 fp_X9_73 rfl rfl rfl rfl rfl ?_
  refine rn_iload_n 81 dX9_number_80 rfl rfl rfl ?_
  refine rn_if_eq 105 84 dX9_number_81 (by decide) rfl (fun c81 => absurd c81 (by decide)) (fun _ => ?_)
  refine rn_iload_n 85 dX9_number_84 rfl rfl rfl ?_
  refine rn_if_ne 105 88 dX9_number_85 (by decide) rfl (fun c85 => absurd (by rw [hz]; rfl) c85) (fun _ => ?_)
  refine rn_aload_n 89 dX9_number_88 rfl rfl rfl ?_
  refine rn_dup 90 dX9_number_89 rfl rfl ?_
  refine rn_get 93 (.int (nI (p + 2))) dX9_number_90 fl_X9_73 rfl rfl rfl rfl ?_
  refine rn_iconst (v := 1) 94 dX9_number_93 (by decide) rfl ?_
  refine rn_isub 95 dX9_number_94 rfl ?_
  rw [nI_sub1 (by omega)]
  refine rn_put 98 dX9_number_95 fp_X9_73 rfl rfl rfl rfl rfl ?_
  refine rn_aload_n 99 dX9_number_98 rfl rfl rfl ?_
  refine rn_iconst (v := 0) 100 dX9_number_99 (by decide) rfl ?_
  refine rn_put 103 dX9_number_100 fp_X9_83 rfl rfl rfl rfl rfl ?_
  refine rn_iconst (v := 0) 104 dX9_number_103 (by decide) rfl ?_
  exact rn_iret rfl dX9_number_104 (⟨rfl, by rw [mu_ss, mu_ss], rfl⟩)

set_option maxRecDepth 100000 in
set_option maxHeartbeats 2000000 in
theorem c_num_f (d : Nat) {tx : List Nat} {mu : Nat → Nat → Int32} (h : Int64) (ht : mt tx mu) {p : Nat} (h8 : mu 22 8 = nI p) (hp : p ≤ tx.length) {s : Int32} (hf : mu 22 9 = 0 ∨ dgN tx p = none) : gd_G mX9_number (d + 3) [.ref 22, .int s] mu h (pq (some (.int 0)) (mu_s mu 22 9 0) h) := by
  refine gd_of rfl (Nat.le_of_ble_eq_true rfl) ?_
  show rn_R none mX9_number (d + 3) 0 [some (.ref 22), some (.int s), none] [] mu h (pq (some (.int 0)) (mu_s mu 22 9 0) h)
  by_cases q9 : mu 22 9 = 0
  · skip
    refine rn_aload_n 1 dX9_number_0 rfl rfl rfl ?_
    refine rn_aload_n 2 dX9_number_1 rfl rfl rfl ?_
    refine rn_get 5 (.int (mu 22 9)) dX9_number_2 fl_X9_83 rfl rfl rfl rfl ?_
    refine rn_if_eq 19 8 dX9_number_5 (by decide) rfl (fun _ => ?_) (fun c5 => absurd (q9) c5)
    refine rn_iconst (v := 0) 20 dX9_number_19 (by decide) rfl ?_
    refine rn_put 23 dX9_number_20 fp_X9_83 rfl rfl rfl rfl rfl ?_
    refine rn_aload_n 24 dX9_number_23 rfl rfl rfl ?_
    refine rn_get 27 (.int (0)) dX9_number_24 fl_X9_83 rfl rfl rfl rfl ?_
    refine rn_if_ne 32 30 dX9_number_27 (by decide) rfl (fun c27 => absurd (rfl) c27) (fun _ => ?_)
    refine rn_iconst (v := 0) 31 dX9_number_30 (by decide) rfl ?_
    exact rn_iret rfl dX9_number_31 (⟨rfl, rfl, rfl⟩)
  · skip
    have hi1 := c_isDigit (d + 1) h ht h8 hp
    rw [hf.resolve_left q9] at hi1
    refine rn_aload_n 1 dX9_number_0 rfl rfl rfl ?_
    refine rn_aload_n 2 dX9_number_1 rfl rfl rfl ?_
    refine rn_get 5 (.int (mu 22 9)) dX9_number_2 fl_X9_83 rfl rfl rfl rfl ?_
    refine rn_if_eq 19 8 dX9_number_5 (by decide) rfl (fun c5 => absurd c5 (q9)) (fun _ => ?_)
    refine rn_aload_n 9 dX9_number_8 rfl rfl rfl ?_
    refine rn_cvp mX9_isDigit [] [.ref 22] 12 (.int (if (none : Option Nat).isSome = true then 1 else 0)) dX9_number_9 cv_X9_90 rfl rfl rfl (by simp [Value.category]) rfl (hi1) ?_
    refine rn_if_eq 19 15 dX9_number_12 (by decide) rfl (fun _ => ?_) (fun c12 => absurd (rfl) c12)
    refine rn_iconst (v := 0) 20 dX9_number_19 (by decide) rfl ?_
    refine rn_put 23 dX9_number_20 fp_X9_83 rfl rfl rfl rfl rfl ?_
    refine rn_aload_n 24 dX9_number_23 rfl rfl rfl ?_
    refine rn_get 27 (.int (0)) dX9_number_24 fl_X9_83 rfl rfl rfl rfl ?_
    refine rn_if_ne 32 30 dX9_number_27 (by decide) rfl (fun c27 => absurd (rfl) c27) (fun _ => ?_)
    refine rn_iconst (v := 0) 31 dX9_number_30 (by decide) rfl ?_
    exact rn_iret rfl dX9_number_31 (⟨rfl, rfl, rfl⟩)

theorem c_number_0 (d : Nat) {tx : List Nat} {mu : Nat → Nat → Int32} (h : Int64) (ht : mt tx mu) {p : Nat} (h8 : mu 22 8 = nI p) (hp : p ≤ tx.length) (h9 : mu 22 9 = 1) (hsk : sk tx p = p) {v : Nat} (hv : (fNum tx p).1 = some v) : gd_G mX9_number (d + 3) [.ref 22, .int 0] mu h (pq (some (.int (nI v))) (mu_s mu 22 8 (nI (sk tx (fNum tx p).2))) h) := by
  unfold fNum at hv ⊢
  rw [hsk] at hv ⊢
  cases hd1 : dgN tx p with
  | none => rw [hd1] at hv; cases hv
  | some d1 =>
    rw [hd1] at hv
    simp only at hv ⊢
    cases hd2 : dgN tx (p + 1) with
    | none => rw [hd2] at hv; cases hv; exact c_num1_0 d h ht h8 hp h9 hd1 hd2
    | some d2 => rw [hd2] at hv; cases hv; exact c_num2_0 d h ht h8 hp h9 hd1 hd2
theorem c_number_1 (d : Nat) {tx : List Nat} {mu : Nat → Nat → Int32} (h : Int64) (ht : mt tx mu) {p : Nat} (h8 : mu 22 8 = nI p) (hp : p ≤ tx.length) (h9 : mu 22 9 = 1) (hsk : sk tx p = p) {v : Nat} (hv : (fNum tx p).1 = some v) (hz : ¬ v = 0) : gd_G mX9_number (d + 3) [.ref 22, .int 1] mu h (pq (some (.int (nI v))) (mu_s mu 22 8 (nI (sk tx (fNum tx p).2))) h) := by
  unfold fNum at hv ⊢
  rw [hsk] at hv ⊢
  cases hd1 : dgN tx p with
  | none => rw [hd1] at hv; cases hv
  | some d1 =>
    rw [hd1] at hv
    simp only at hv ⊢
    cases hd2 : dgN tx (p + 1) with
    | none => rw [hd2] at hv; cases hv; exact c_num1_1 d h ht h8 hp h9 hd1 hd2 hz
    | some d2 => rw [hd2] at hv; cases hv; exact c_num2_1 d h ht h8 hp h9 hd1 hd2 hz
theorem c_number_z (d : Nat) {tx : List Nat} {mu : Nat → Nat → Int32} (h : Int64) (ht : mt tx mu) {p : Nat} (h8 : mu 22 8 = nI p) (hp : p ≤ tx.length) (h9 : mu 22 9 = 1) (hsk : sk tx p = p) (hv : (fNum tx p).1 = some 0) : gd_G mX9_number (d + 3) [.ref 22, .int 1] mu h (pq (some (.int 0)) (mu_s (mu_s mu 22 8 (nI ((fNum tx p).2 - 1))) 22 9 0) h) := by
  unfold fNum at hv ⊢
  rw [hsk] at hv ⊢
  cases hd1 : dgN tx p with
  | none => rw [hd1] at hv; cases hv
  | some d1 =>
    rw [hd1] at hv
    simp only at hv ⊢
    cases hd2 : dgN tx (p + 1) with
    | none => rw [hd2] at hv; exact c_num1_z d h ht h8 hp h9 hd1 hd2 (by simpa using hv)
    | some d2 => rw [hd2] at hv; exact c_num2_z d h ht h8 hp h9 hd1 hd2 (by simpa using hv)
theorem fNum_none {tx : List Nat} {p : Nat} (hsk : sk tx p = p) : (fNum tx p).1 = none ↔ dgN tx p = none := by
  unfold fNum
  rw [hsk]
  cases hd1 : dgN tx p with
  | none => simp
  | some d1 => cases hd2 : dgN tx (p + 1) <;> simp

set_option maxRecDepth 100000 in
set_option maxHeartbeats 2000000 in
theorem c_delay_x (d : Nat) {tx : List Nat} {mu : Nat → Nat → Int32} (h : Int64) (ht : mt tx mu) {p : Nat} (h8 : mu 22 8 = nI p) (hp : p ≤ tx.length) (h9 : mu 22 9 = 1) (hb : tx[p]? = some 120) : gd_G mX9_delay (d + 4) [.ref 22] mu h (pq (some (.int 100)) (mu_s mu 22 8 (nI (sk tx (p + 1)))) h) := by
  refine gd_of rfl (Nat.le_of_ble_eq_true rfl) ?_
  show rn_R none mX9_delay (d + 4) 0 [some (.ref 22)] [] mu h (pq (some (.int 100)) (mu_s mu 22 8 (nI (sk tx (p + 1)))) h)
  have hl : p < tx.length := (List.getElem?_eq_some_iff.mp hb).1
  refine rn_aload_n 1 dX9_delay_0 rfl rfl rfl ?_
  refine rn_get 4 (.int (mu 22 9)) dX9_delay_1 fl_X9_83 rfl rfl rfl rfl ?_
  refine rn_if_eq 23 7 dX9_delay_4 (by decide) rfl (fun c4 => absurd c4 (by rw [h9]; decide)) (fun _ => ?_)
  refine rn_aload_n 8 dX9_delay_7 rfl rfl rfl ?_
  refine rn_cvp mX9_next [] [] 11 (.int (lt tx p)) dX9_delay_8 cv_X9_79 rfl rfl rfl (by simp [Value.category]) rfl (c_next (d + 3) h ht h8 (by omega)) ?_
  refine rn_bipush (v := 120) 13 dX9_delay_11 (by decide) rfl ?_
  refine rn_icmp_ne 23 16 dX9_delay_13 (by decide) rfl (fun c13 => absurd ((lt_is ht.2.2.1 (c := 120) (by omega)).mpr hb) c13) (fun _ => ?_)
  refine rn_aload_n 17 dX9_delay_16 rfl rfl rfl ?_
  refine rn_cvm mX9_passes [] [] 20 (none) (mu_s mu 22 8 (nI (sk tx (p + 1)))) dX9_delay_17 cv_X9_87 rfl rfl rfl (by simp [Value.category]) rfl (c_passes (d + 1) h ht h8 hl) ?_
  refine rn_bipush (v := 100) 22 dX9_delay_20 (by decide) rfl ?_
  exact rn_iret rfl dX9_delay_22 (⟨rfl, rfl, rfl⟩)

set_option maxRecDepth 100000 in
set_option maxHeartbeats 2000000 in
theorem c_delay_n (d : Nat) {tx : List Nat} {mu : Nat → Nat → Int32} (h : Int64) (ht : mt tx mu) {p : Nat} (h8 : mu 22 8 = nI p) (hp : p ≤ tx.length) (h9 : mu 22 9 = 1) (hsk : sk tx p = p) (hb : ¬ tx[p]? = some 120) {v : Nat} (hv : (fNum tx p).1 = some v) (hz : ¬ v = 0) : gd_G mX9_delay (d + 4) [.ref 22] mu h (pq (some (.int (nI v))) (mu_s mu 22 8 (nI (sk tx (fNum tx p).2))) h) := by
  refine gd_of rfl (Nat.le_of_ble_eq_true rfl) ?_
  show rn_R none mX9_delay (d + 4) 0 [some (.ref 22)] [] mu h (pq (some (.int (nI v))) (mu_s mu 22 8 (nI (sk tx (fNum tx p).2))) h)
  refine rn_aload_n 1 dX9_delay_0 rfl rfl rfl ?_
  refine rn_get 4 (.int (mu 22 9)) dX9_delay_1 fl_X9_83 rfl rfl rfl rfl ?_
  refine rn_if_eq 23 7 dX9_delay_4 (by decide) rfl (fun c4 => absurd c4 (by rw [h9]; decide)) (fun _ => ?_)
  refine rn_aload_n 8 dX9_delay_7 rfl rfl rfl ?_
  refine rn_cvp mX9_next [] [] 11 (.int (lt tx p)) dX9_delay_8 cv_X9_79 rfl rfl rfl (by simp [Value.category]) rfl (c_next (d + 3) h ht h8 hp) ?_
  refine rn_bipush (v := 120) 13 dX9_delay_11 (by decide) rfl ?_
  refine rn_icmp_ne 23 16 dX9_delay_13 (by decide) rfl (fun _ => ?_) (fun c13 => absurd c13 (fun z => hb ((lt_is ht.2.2.1 (c := 120) (by omega)).mp z)))
  refine rn_aload_n 24 dX9_delay_23 rfl rfl rfl ?_
  refine rn_iconst (v := 1) 25 dX9_delay_24 (by decide) rfl ?_
  refine rn_cvm mX9_number [.int 1] [] 28 (some (.int (nI v))) (mu_s mu 22 8 (nI (sk tx (fNum tx p).2))) dX9_delay_25 cv_X9_94 rfl rfl rfl (by simp [Value.category]) rfl (c_number_1 d h ht h8 hp h9 hsk hv hz) ?_
  exact rn_iret rfl dX9_delay_28 (⟨rfl, rfl, rfl⟩)

set_option maxRecDepth 100000 in
set_option maxHeartbeats 2000000 in
theorem c_delay_z (d : Nat) {tx : List Nat} {mu : Nat → Nat → Int32} (h : Int64) (ht : mt tx mu) {p : Nat} (h8 : mu 22 8 = nI p) (hp : p ≤ tx.length) (h9 : mu 22 9 = 1) (hsk : sk tx p = p) (hb : ¬ tx[p]? = some 120) (hv : (fNum tx p).1 = some 0) : gd_G mX9_delay (d + 4) [.ref 22] mu h (pq (some (.int 0)) (mu_s (mu_s mu 22 8 (nI ((fNum tx p).2 - 1))) 22 9 0) h) := by
  refine gd_of rfl (Nat.le_of_ble_eq_true rfl) ?_
  show rn_R none mX9_delay (d + 4) 0 [some (.ref 22)] [] mu h (pq (some (.int 0)) (mu_s (mu_s mu 22 8 (nI ((fNum tx p).2 - 1))) 22 9 0) h)
  refine rn_aload_n 1 dX9_delay_0 rfl rfl rfl ?_
  refine rn_get 4 (.int (mu 22 9)) dX9_delay_1 fl_X9_83 rfl rfl rfl rfl ?_
  refine rn_if_eq 23 7 dX9_delay_4 (by decide) rfl (fun c4 => absurd c4 (by rw [h9]; decide)) (fun _ => ?_)
  refine rn_aload_n 8 dX9_delay_7 rfl rfl rfl ?_
  refine rn_cvp mX9_next [] [] 11 (.int (lt tx p)) dX9_delay_8 cv_X9_79 rfl rfl rfl (by simp [Value.category]) rfl (c_next (d + 3) h ht h8 hp) ?_
  refine rn_bipush (v := 120) 13 dX9_delay_11 (by decide) rfl ?_
  refine rn_icmp_ne 23 16 dX9_delay_13 (by decide) rfl (fun _ => ?_) (fun c13 => absurd c13 (fun z => hb ((lt_is ht.2.2.1 (c := 120) (by omega)).mp z)))
  refine rn_aload_n 24 dX9_delay_23 rfl rfl rfl ?_
  refine rn_iconst (v := 1) 25 dX9_delay_24 (by decide) rfl ?_
  refine rn_cvm mX9_number [.int 1] [] 28 (some (.int 0)) (mu_s (mu_s mu 22 8 (nI ((fNum tx p).2 - 1))) 22 9 0) dX9_delay_25 cv_X9_94 rfl rfl rfl (by simp [Value.category]) rfl (c_number_z d h ht h8 hp h9 hsk hv) ?_
  exact rn_iret rfl dX9_delay_28 (⟨rfl, rfl, rfl⟩)

set_option maxRecDepth 100000 in
set_option maxHeartbeats 2000000 in
theorem c_delay_f (d : Nat) {tx : List Nat} {mu : Nat → Nat → Int32} (h : Int64) (ht : mt tx mu) {p : Nat} (h8 : mu 22 8 = nI p) (hp : p ≤ tx.length) (hf : mu 22 9 = 0 ∨ (¬ tx[p]? = some 120 ∧ dgN tx p = none)) : gd_G mX9_delay (d + 4) [.ref 22] mu h (pq (some (.int 0)) (mu_s mu 22 9 0) h) := by
  refine gd_of rfl (Nat.le_of_ble_eq_true rfl) ?_
  show rn_R none mX9_delay (d + 4) 0 [some (.ref 22)] [] mu h (pq (some (.int 0)) (mu_s mu 22 9 0) h)
  by_cases q9 : mu 22 9 = 0
  · skip
    refine rn_aload_n 1 dX9_delay_0 rfl rfl rfl ?_
    refine rn_get 4 (.int (mu 22 9)) dX9_delay_1 fl_X9_83 rfl rfl rfl rfl ?_
    refine rn_if_eq 23 7 dX9_delay_4 (by decide) rfl (fun _ => ?_) (fun c4 => absurd (q9) c4)
    refine rn_aload_n 24 dX9_delay_23 rfl rfl rfl ?_
    refine rn_iconst (v := 1) 25 dX9_delay_24 (by decide) rfl ?_
    refine rn_cvm mX9_number [.int 1] [] 28 (some (.int 0)) (mu_s mu 22 9 0) dX9_delay_25 cv_X9_94 rfl rfl rfl (by simp [Value.category]) rfl (c_num_f d h ht h8 hp (Or.inl q9)) ?_
    exact rn_iret rfl dX9_delay_28 (⟨rfl, rfl, rfl⟩)
  · skip
    obtain ⟨hb, hdn⟩ := hf.resolve_left q9
    refine rn_aload_n 1 dX9_delay_0 rfl rfl rfl ?_
    refine rn_get 4 (.int (mu 22 9)) dX9_delay_1 fl_X9_83 rfl rfl rfl rfl ?_
    refine rn_if_eq 23 7 dX9_delay_4 (by decide) rfl (fun c4 => absurd c4 (q9)) (fun _ => ?_)
    refine rn_aload_n 8 dX9_delay_7 rfl rfl rfl ?_
    refine rn_cvp mX9_next [] [] 11 (.int (lt tx p)) dX9_delay_8 cv_X9_79 rfl rfl rfl (by simp [Value.category]) rfl (c_next (d + 3) h ht h8 hp) ?_
    refine rn_bipush (v := 120) 13 dX9_delay_11 (by decide) rfl ?_
    refine rn_icmp_ne 23 16 dX9_delay_13 (by decide) rfl (fun _ => ?_) (fun c13 => absurd c13 (fun z => hb ((lt_is ht.2.2.1 (c := 120) (by omega)).mp z)))
    refine rn_aload_n 24 dX9_delay_23 rfl rfl rfl ?_
    refine rn_iconst (v := 1) 25 dX9_delay_24 (by decide) rfl ?_
    refine rn_cvm mX9_number [.int 1] [] 28 (some (.int 0)) (mu_s mu 22 9 0) dX9_delay_25 cv_X9_94 rfl rfl rfl (by simp [Value.category]) rfl (c_num_f d h ht h8 hp (Or.inr hdn)) ?_
    exact rn_iret rfl dX9_delay_28 (⟨rfl, rfl, rfl⟩)

set_option maxRecDepth 100000 in
set_option maxHeartbeats 2000000 in
theorem c_mdigit_t (d : Nat) {tx : List Nat} {mu : Nat → Nat → Int32} (h : Int64) (ht : mt tx mu) {p : Nat} (h8 : mu 22 8 = nI p) (hp : p ≤ tx.length) (h9 : mu 22 9 = 1) {k : Nat} (hd1 : dgN tx p = some k) (hk : 1 ≤ k) : gd_G mX9_digit (d + 3) [.ref 22] mu h (pq (some (.int (nI k))) (mu_s mu 22 8 (nI (sk tx (p + 1)))) h) := by
  refine gd_of rfl (Nat.le_of_ble_eq_true rfl) ?_
  show rn_R none mX9_digit (d + 3) 0 [some (.ref 22), none] [] mu h (pq (some (.int (nI k))) (mu_s mu 22 8 (nI (sk tx (p + 1)))) h)
  have q1 := dgN_lt hd1
  refine rn_aload_n 1 dX9_digit_0 rfl rfl rfl ?_
  refine rn_cvp mX9_next [] [] 4 (.int (lt tx p)) dX9_digit_1 cv_X9_79 rfl rfl rfl (by simp [Value.category]) rfl (c_next (d + 2) h ht h8 hp) ?_
  refine rn_bipush (v := 48) 6 dX9_digit_4 (by decide) rfl ?_
  refine rn_isub 7 dX9_digit_6 rfl ?_
  rw [show lt tx p - 48 = nI k by rw [lt_dg hd1, show (48 : Int32) = nI 48 from rfl, pk_sub (by omega), Nat.add_sub_cancel]]
  refine rn_istore_n 8 [some (.ref 22), some (.int (nI k))] dX9_digit_7 rfl rfl (Nat.le_of_ble_eq_true rfl) rfl ?_
  refine rn_aload_n 9 dX9_digit_8 rfl rfl rfl ?_
  refine rn_aload_n 10 dX9_digit_9 rfl rfl rfl ?_
  refine rn_get 13 (.int (mu 22 9)) dX9_digit_10 fl_X9_83 rfl rfl rfl rfl ?_
  refine rn_if_eq 30 16 dX9_digit_13 (by decide) rfl (fun c13 => absurd c13 (by rw [h9]; decide)) (fun _ => ?_)
  refine rn_iload_n 17 dX9_digit_16 rfl rfl rfl ?_
  refine rn_iconst (v := 1) 18 dX9_digit_17 (by decide) rfl ?_
  refine rn_bipush (v := 9) 20 dX9_digit_18 (by decide) rfl ?_
  refine rn_csp mX9_in [.int (nI k), .int 1, .int 9] [.ref 22] 23 (.int 1) dX9_digit_20 cs_X9_38 rfl rfl (by simp [Value.category]) rfl (c_in_t (d + 2) mu h (nI_nlt (b := 1) hk (by omega)) (nI_nlt (a := 9) (by omega) (by omega))) ?_
  refine rn_if_eq 30 26 dX9_digit_23 (by decide) rfl (fun c23 => absurd c23 (by decide)) (fun _ => ?_)
  refine rn_iconst (v := 1) 27 dX9_digit_26 (by decide) rfl ?_
  refine rn_goto 31 dX9_digit_27 (by decide) ?_
  refine rn_put 34 dX9_digit_31 fp_X9_83 rfl rfl rfl rfl rfl ?_
  rw [mu_same h9]
  refine rn_aload_n 35 dX9_digit_34 rfl rfl rfl ?_
  refine rn_get 38 (.int (mu 22 9)) dX9_digit_35 fl_X9_83 rfl rfl rfl rfl ?_
  refine rn_if_eq 45 41 dX9_digit_38 (by decide) rfl (fun c38 => absurd c38 (by rw [h9]; decide)) (fun _ => ?_)
  refine rn_aload_n 42 dX9_digit_41 rfl rfl rfl ?_
  refine rn_cvm mX9_passes [] [] 45 (none) (mu_s mu 22 8 (nI (sk tx (p + 1)))) dX9_digit_42 cv_X9_87 rfl rfl rfl (by simp [Value.category]) rfl (c_passes d h ht h8 q1.2) ?_
  refine rn_iload_n 46 dX9_digit_45 rfl rfl rfl ?_
  exact rn_iret rfl dX9_digit_46 (⟨rfl, rfl, rfl⟩)

set_option maxRecDepth 100000 in
set_option maxHeartbeats 2000000 in
theorem c_mdigit_f (d : Nat) {tx : List Nat} {mu : Nat → Nat → Int32} (h : Int64) (ht : mt tx mu) {p : Nat} (h8 : mu 22 8 = nI p) (hp : p ≤ tx.length) (hf : mu 22 9 = 0 ∨ (lt tx p - 48 < 1 ∨ 9 < lt tx p - 48)) : gd_G mX9_digit (d + 3) [.ref 22] mu h (jq (mu_s mu 22 9 0) h) := by
  refine gd_of rfl (Nat.le_of_ble_eq_true rfl) ?_
  show rn_R none mX9_digit (d + 3) 0 [some (.ref 22), none] [] mu h (jq (mu_s mu 22 9 0) h)
  by_cases q9 : mu 22 9 = 0
  · skip
    refine rn_aload_n 1 dX9_digit_0 rfl rfl rfl ?_
    refine rn_cvp mX9_next [] [] 4 (.int (lt tx p)) dX9_digit_1 cv_X9_79 rfl rfl rfl (by simp [Value.category]) rfl (c_next (d + 2) h ht h8 hp) ?_
    refine rn_bipush (v := 48) 6 dX9_digit_4 (by decide) rfl ?_
    refine rn_isub 7 dX9_digit_6 rfl ?_
    refine rn_istore_n 8 [some (.ref 22), some (.int ((lt tx p) - 48))] dX9_digit_7 rfl rfl (Nat.le_of_ble_eq_true rfl) rfl ?_
    refine rn_aload_n 9 dX9_digit_8 rfl rfl rfl ?_
    refine rn_aload_n 10 dX9_digit_9 rfl rfl rfl ?_
    refine rn_get 13 (.int (mu 22 9)) dX9_digit_10 fl_X9_83 rfl rfl rfl rfl ?_
    refine rn_if_eq 30 16 dX9_digit_13 (by decide) rfl (fun _ => ?_) (fun c13 => absurd (q9) c13)
    refine rn_iconst (v := 0) 31 dX9_digit_30 (by decide) rfl ?_
    refine rn_put 34 dX9_digit_31 fp_X9_83 rfl rfl rfl rfl rfl ?_
    refine rn_aload_n 35 dX9_digit_34 rfl rfl rfl ?_
    refine rn_get 38 (.int (0)) dX9_digit_35 fl_X9_83 rfl rfl rfl rfl ?_
    refine rn_if_eq 45 41 dX9_digit_38 (by decide) rfl (fun _ => ?_) (fun c38 => absurd (rfl) c38)
    refine rn_iload_n 46 dX9_digit_45 rfl rfl rfl ?_
    exact rn_iret rfl dX9_digit_46 (⟨⟨_, rfl⟩, rfl, rfl⟩)
  · skip
    refine rn_aload_n 1 dX9_digit_0 rfl rfl rfl ?_
    refine rn_cvp mX9_next [] [] 4 (.int (lt tx p)) dX9_digit_1 cv_X9_79 rfl rfl rfl (by simp [Value.category]) rfl (c_next (d + 2) h ht h8 hp) ?_
    refine rn_bipush (v := 48) 6 dX9_digit_4 (by decide) rfl ?_
    refine rn_isub 7 dX9_digit_6 rfl ?_
    refine rn_istore_n 8 [some (.ref 22), some (.int ((lt tx p) - 48))] dX9_digit_7 rfl rfl (Nat.le_of_ble_eq_true rfl) rfl ?_
    refine rn_aload_n 9 dX9_digit_8 rfl rfl rfl ?_
    refine rn_aload_n 10 dX9_digit_9 rfl rfl rfl ?_
    refine rn_get 13 (.int (mu 22 9)) dX9_digit_10 fl_X9_83 rfl rfl rfl rfl ?_
    refine rn_if_eq 30 16 dX9_digit_13 (by decide) rfl (fun c13 => absurd c13 (q9)) (fun _ => ?_)
    refine rn_iload_n 17 dX9_digit_16 rfl rfl rfl ?_
    refine rn_iconst (v := 1) 18 dX9_digit_17 (by decide) rfl ?_
    refine rn_bipush (v := 9) 20 dX9_digit_18 (by decide) rfl ?_
    refine rn_csp mX9_in [.int ((lt tx p) - 48), .int 1, .int 9] [.ref 22] 23 (.int 0) dX9_digit_20 cs_X9_38 rfl rfl (by simp [Value.category]) rfl (c_in_f (d + 2) mu h (hf.resolve_left q9)) ?_
    refine rn_if_eq 30 26 dX9_digit_23 (by decide) rfl (fun _ => ?_) (fun c23 => absurd (by decide) c23)
    refine rn_iconst (v := 0) 31 dX9_digit_30 (by decide) rfl ?_
    refine rn_put 34 dX9_digit_31 fp_X9_83 rfl rfl rfl rfl rfl ?_
    refine rn_aload_n 35 dX9_digit_34 rfl rfl rfl ?_
    refine rn_get 38 (.int (0)) dX9_digit_35 fl_X9_83 rfl rfl rfl rfl ?_
    refine rn_if_eq 45 41 dX9_digit_38 (by decide) rfl (fun _ => ?_) (fun c38 => absurd (rfl) c38)
    refine rn_iload_n 46 dX9_digit_45 rfl rfl rfl ?_
    exact rn_iret rfl dX9_digit_46 (⟨⟨_, rfl⟩, rfl, rfl⟩)
