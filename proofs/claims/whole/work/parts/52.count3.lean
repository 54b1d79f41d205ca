/-! BOTH SIDES: count -/
theorem tsO {v : Int32} (hv : ¬ isin v 7) : v.toInt < 0 ∨ 6 < v.toInt := by
  rcases nisin (n := 6) (by omega) hv with q | q
  · exact Or.inl (Int32.lt_iff_toInt_lt.mp q)
  · exact Or.inr (Int32.lt_iff_toInt_lt.mp q)

set_option maxRecDepth 100000 in
set_option maxHeartbeats 2000000 in
theorem x_cnt0 (d : Nat) {g : List Ed} {a : Nat} {hs : List Sg} {tx : List Nat} {f : Int32} {mu : Nat → Nat → Int32} (h : Int64) (hs0 : xS (g, a, hs, tx, f) mu) : gd_G mX8_count (d + 3) [.ref 0, .int 0] mu h (fun r mu' _ => r = some (.int (nI (ctV g a hs tx 0))) ∧ ∀ c, (c < 9 ∨ 13 < c) → mu' c = mu c) := by
  refine gd_of rfl (Nat.le_of_ble_eq_true rfl) ?_
  show rn_R none mX8_count (d + 3) 0 [some (.ref 0), some (.int 0)] [] mu h (fun r mu' _ => r = some (.int (nI (ctV g a hs tx 0))) ∧ ∀ c, (c < 9 ∨ 13 < c) → mu' c = mu c)
  obtain ⟨hg, ha, hh, ht, hf⟩ := id hs0
  simp only at hg ha hh ht hf
  have hp := pw_le hg.1
  have ha2 := ha.2
  refine rn_iload_n 1 dX8_count_0 rfl rfl rfl ?_
  refine rn_tableIn 44 dX8_count_1 (by decide) (by decide) rfl (by decide) ?_
  refine rn_aload_n 45 dX8_count_44 rfl rfl rfl ?_
  refine rn_get 48 (.ref 1) dX8_count_45 fl_X8_10 rfl rfl rfl rfl ?_
  refine rn_get 51 (.int (mu 1 1)) dX8_count_48 fl_X8_82 rfl rfl rfl rfl ?_
  exact rn_iret rfl dX8_count_51 (⟨by rw [hg.2.2.1]; rfl, fun _ _ => rfl⟩)

set_option maxRecDepth 100000 in
set_option maxHeartbeats 2000000 in
theorem m_cnt0 (d : Nat) {g : List Ed} {a : Nat} {hs : List Sg} {tx : List Nat} {f : Int32} {mu : Nat → Nat → Int32} (h : Int64) (hs0 : mS (g, a, hs, tx, f) mu) : gd_G mX9_count (d + 6) [.ref 22, .int 0] mu h (fun r mu' h' => r = some (.int (nI (ctV g a hs tx 0))) ∧ h' = h ∧ ∀ c, c ≠ 27 → mu' c = mu c) := by
  refine gd_of rfl (Nat.le_of_ble_eq_true rfl) ?_
  show rn_R none mX9_count (d + 6) 0 [some (.ref 22), some (.int 0)] [] mu h (fun r mu' h' => r = some (.int (nI (ctV g a hs tx 0))) ∧ h' = h ∧ ∀ c, c ≠ 27 → mu' c = mu c)
  obtain ⟨hg, ha, hh, ht, hf⟩ := id hs0
  simp only at hg ha hh ht hf
  have hp := pw_le hg.1
  have ha2 := ha.2
  refine rn_iload_n 1 dX9_count_0 rfl rfl rfl ?_
  refine rn_tableIn 44 dX9_count_1 (by decide) (by decide) rfl (by decide) ?_
  refine rn_aload_n 45 dX9_count_44 rfl rfl rfl ?_
  refine rn_get 48 (.ref 23) dX9_count_45 fl_X9_7 rfl rfl rfl rfl ?_
  refine rn_bipush (v := 80) 50 dX9_count_48 (by decide) rfl ?_
  refine rn_iald 51 (mu 23 80) dX9_count_50 rfl (vp_in_nI (n := 80) (by decide) (by decide)) rfl rfl ?_
  exact rn_iret rfl dX9_count_51 (⟨by rw [hg.2.2.1]; rfl, rfl, fun _ _ => rfl⟩)

set_option maxRecDepth 100000 in
set_option maxHeartbeats 2000000 in
theorem x_cnt1 (d : Nat) {g : List Ed} {a : Nat} {hs : List Sg} {tx : List Nat} {f : Int32} {mu : Nat → Nat → Int32} (h : Int64) (hs0 : xS (g, a, hs, tx, f) mu) : gd_G mX8_count (d + 3) [.ref 0, .int 1] mu h (fun r mu' _ => r = some (.int (nI (ctV g a hs tx 1))) ∧ ∀ c, (c < 9 ∨ 13 < c) → mu' c = mu c) := by
  refine gd_of rfl (Nat.le_of_ble_eq_true rfl) ?_
  show rn_R none mX8_count (d + 3) 0 [some (.ref 0), some (.int 1)] [] mu h (fun r mu' _ => r = some (.int (nI (ctV g a hs tx 1))) ∧ ∀ c, (c < 9 ∨ 13 < c) → mu' c = mu c)
  obtain ⟨hg, ha, hh, ht, hf⟩ := id hs0
  simp only at hg ha hh ht hf
  have hp := pw_le hg.1
  have ha2 := ha.2
  refine rn_iload_n 1 dX8_count_0 rfl rfl rfl ?_
  refine rn_tableIn 52 dX8_count_1 (by decide) (by decide) rfl (by decide) ?_
  refine rn_aload_n 53 dX8_count_52 rfl rfl rfl ?_
  refine rn_get 56 (.ref 1) dX8_count_53 fl_X8_10 rfl rfl rfl rfl ?_
  refine rn_get 59 (.int (mu 1 2)) dX8_count_56 fl_X8_111 rfl rfl rfl rfl ?_
  rw [ha.1]
  refine rn_csp mJ6_bitCount_0f7a4 [.int (nI a)] [] 62 (.int (nI (mny a 16))) dX8_count_59 cs_X8_216 rfl rfl (by simp [Value.category]) rfl (c_bitCount (d + 2) mu h (S := a) (by omega)) ?_
  exact rn_iret rfl dX8_count_62 (⟨rfl, fun _ _ => rfl⟩)

set_option maxRecDepth 100000 in
set_option maxHeartbeats 2000000 in
theorem m_cnt1 (d : Nat) {g : List Ed} {a : Nat} {hs : List Sg} {tx : List Nat} {f : Int32} {mu : Nat → Nat → Int32} (h : Int64) (hs0 : mS (g, a, hs, tx, f) mu) : gd_G mX9_count (d + 6) [.ref 22, .int 1] mu h (fun r mu' h' => r = some (.int (nI (ctV g a hs tx 1))) ∧ h' = h ∧ ∀ c, c ≠ 27 → mu' c = mu c) := by
  refine gd_of rfl (Nat.le_of_ble_eq_true rfl) ?_
  show rn_R none mX9_count (d + 6) 0 [some (.ref 22), some (.int 1)] [] mu h (fun r mu' h' => r = some (.int (nI (ctV g a hs tx 1))) ∧ h' = h ∧ ∀ c, c ≠ 27 → mu' c = mu c)
  obtain ⟨hg, ha, hh, ht, hf⟩ := id hs0
  simp only at hg ha hh ht hf
  have hp := pw_le hg.1
  have ha2 := ha.2
  refine rn_iload_n 1 dX9_count_0 rfl rfl rfl ?_
  refine rn_tableIn 52 dX9_count_1 (by decide) (by decide) rfl (by decide) ?_
  refine rn_aload_n 53 dX9_count_52 rfl rfl rfl ?_
  refine rn_get 56 (.ref 23) dX9_count_53 fl_X9_7 rfl rfl rfl rfl ?_
  refine rn_bipush (v := 81) 58 dX9_count_56 (by decide) rfl ?_
  refine rn_iald 59 (mu 23 81) dX9_count_58 rfl (vp_in_nI (n := 81) (by decide) (by decide)) rfl rfl ?_
  rw [ha.1]
  refine rn_csp mX9_many [.int (nI a)] [] 62 (.int (nI (mny a 16))) dX9_count_59 cs_X9_173 rfl rfl (by simp [Value.category]) rfl (c_many (d + 5) mu h (S := a) (by omega)) ?_
  exact rn_iret rfl dX9_count_62 (⟨rfl, rfl, fun _ _ => rfl⟩)

set_option maxRecDepth 100000 in
set_option maxHeartbeats 2000000 in
theorem x_cnt2 (d : Nat) {g : List Ed} {a : Nat} {hs : List Sg} {tx : List Nat} {f : Int32} {mu : Nat → Nat → Int32} (h : Int64) (hs0 : xS (g, a, hs, tx, f) mu) : gd_G mX8_count (d + 3) [.ref 0, .int 2] mu h (fun r mu' _ => r = some (.int (nI (ctV g a hs tx 2))) ∧ ∀ c, (c < 9 ∨ 13 < c) → mu' c = mu c) := by
  refine gd_of rfl (Nat.le_of_ble_eq_true rfl) ?_
  show rn_R none mX8_count (d + 3) 0 [some (.ref 0), some (.int 2)] [] mu h (fun r mu' _ => r = some (.int (nI (ctV g a hs tx 2))) ∧ ∀ c, (c < 9 ∨ 13 < c) → mu' c = mu c)
  obtain ⟨hg, ha, hh, ht, hf⟩ := id hs0
  simp only at hg ha hh ht hf
  have hp := pw_le hg.1
  have ha2 := ha.2
  refine rn_iload_n 1 dX8_count_0 rfl rfl rfl ?_
  refine rn_tableIn 63 dX8_count_1 (by decide) (by decide) rfl (by decide) ?_
  refine rn_aload_n 64 dX8_count_63 rfl rfl rfl ?_
  refine rn_get 67 (.ref 1) dX8_count_64 fl_X8_10 rfl rfl rfl rfl ?_
  refine rn_aload_n 68 dX8_count_67 rfl rfl rfl ?_
  refine rn_get 71 (.ref 1) dX8_count_68 fl_X8_10 rfl rfl rfl rfl ?_
  refine rn_get 74 (.int (mu 1 2)) dX8_count_71 fl_X8_111 rfl rfl rfl rfl ?_
  rw [ha.1]
  refine rn_cvp mX2_costOfSet [.int (nI a)] [] 77 (.int (nI (cS g a g.length))) dX8_count_74 cv_X8_131 rfl rfl rfl (by simp [Value.category]) rfl (c_costOfSet d h hg (S := a) (by omega)) ?_
  exact rn_iret rfl dX8_count_77 (⟨rfl, fun _ _ => rfl⟩)

set_option maxRecDepth 100000 in
set_option maxHeartbeats 2000000 in
theorem m_cnt2 (d : Nat) {g : List Ed} {a : Nat} {hs : List Sg} {tx : List Nat} {f : Int32} {mu : Nat → Nat → Int32} (h : Int64) (hs0 : mS (g, a, hs, tx, f) mu) : gd_G mX9_count (d + 6) [.ref 22, .int 2] mu h (fun r mu' h' => r = some (.int (nI (ctV g a hs tx 2))) ∧ h' = h ∧ ∀ c, c ≠ 27 → mu' c = mu c) := by
  refine gd_of rfl (Nat.le_of_ble_eq_true rfl) ?_
  show rn_R none mX9_count (d + 6) 0 [some (.ref 22), some (.int 2)] [] mu h (fun r mu' h' => r = some (.int (nI (ctV g a hs tx 2))) ∧ h' = h ∧ ∀ c, c ≠ 27 → mu' c = mu c)
  obtain ⟨hg, ha, hh, ht, hf⟩ := id hs0
  simp only at hg ha hh ht hf
  have hp := pw_le hg.1
  have ha2 := ha.2
  refine rn_iload_n 1 dX9_count_0 rfl rfl rfl ?_
  refine rn_tableIn 63 dX9_count_1 (by decide) (by decide) rfl (by decide) ?_
  refine rn_aload_n 64 dX9_count_63 rfl rfl rfl ?_
  refine rn_aload_n 65 dX9_count_64 rfl rfl rfl ?_
  refine rn_get 68 (.ref 23) dX9_count_65 fl_X9_7 rfl rfl rfl rfl ?_
  refine rn_bipush (v := 81) 70 dX9_count_68 (by decide) rfl ?_
  refine rn_iald 71 (mu 23 81) dX9_count_70 rfl (vp_in_nI (n := 81) (by decide) (by decide)) rfl rfl ?_
  rw [ha.1]
  refine rn_cvp mX9_costOf [.int (nI a)] [] 74 (.int (nI (cS g a g.length))) dX9_count_71 cv_X9_118 rfl rfl rfl (by simp [Value.category]) rfl (c_costOf (d + 3) h hg (S := a) (by omega)) ?_
  exact rn_iret rfl dX9_count_74 (⟨rfl, rfl, fun _ _ => rfl⟩)

set_option maxRecDepth 100000 in
set_option maxHeartbeats 2000000 in
theorem x_cnt3 (d : Nat) {g : List Ed} {a : Nat} {hs : List Sg} {tx : List Nat} {f : Int32} {mu : Nat → Nat → Int32} (h : Int64) (hs0 : xS (g, a, hs, tx, f) mu) : gd_G mX8_count (d + 3) [.ref 0, .int 3] mu h (fun r mu' _ => r = some (.int (nI (ctV g a hs tx 3))) ∧ ∀ c, (c < 9 ∨ 13 < c) → mu' c = mu c) := by
  refine gd_of rfl (Nat.le_of_ble_eq_true rfl) ?_
  show rn_R none mX8_count (d + 3) 0 [some (.ref 0), some (.int 3)] [] mu h (fun r mu' _ => r = some (.int (nI (ctV g a hs tx 3))) ∧ ∀ c, (c < 9 ∨ 13 < c) → mu' c = mu c)
  obtain ⟨hg, ha, hh, ht, hf⟩ := id hs0
  simp only at hg ha hh ht hf
  have hp := pw_le hg.1
  have ha2 := ha.2
  obtain ⟨oo, o1, o2, o3, o4, o5⟩ := hh
  refine rn_iload_n 1 dX8_count_0 rfl rfl rfl ?_
  refine rn_tableIn 78 dX8_count_1 (by decide) (by decide) rfl (by decide) ?_
  refine rn_aload_n 79 dX8_count_78 rfl rfl rfl ?_
  refine rn_get 82 (.ref 3) dX8_count_79 fl_X8_19 rfl rfl rfl rfl ?_
  refine rn_get 85 (.int (mu 3 2)) dX8_count_82 fl_X8_213 rfl rfl rfl rfl ?_
  exact rn_iret rfl dX8_count_85 (⟨by rw [o4]; rfl, fun _ _ => rfl⟩)

set_option maxRecDepth 100000 in
set_option maxHeartbeats 2000000 in
theorem m_cnt3 (d : Nat) {g : List Ed} {a : Nat} {hs : List Sg} {tx : List Nat} {f : Int32} {mu : Nat → Nat → Int32} (h : Int64) (hs0 : mS (g, a, hs, tx, f) mu) : gd_G mX9_count (d + 6) [.ref 22, .int 3] mu h (fun r mu' h' => r = some (.int (nI (ctV g a hs tx 3))) ∧ h' = h ∧ ∀ c, c ≠ 27 → mu' c = mu c) := by
  refine gd_of rfl (Nat.le_of_ble_eq_true rfl) ?_
  show rn_R none mX9_count (d + 6) 0 [some (.ref 22), some (.int 3)] [] mu h (fun r mu' h' => r = some (.int (nI (ctV g a hs tx 3))) ∧ h' = h ∧ ∀ c, c ≠ 27 → mu' c = mu c)
  obtain ⟨hg, ha, hh, ht, hf⟩ := id hs0
  simp only at hg ha hh ht hf
  have hp := pw_le hg.1
  have ha2 := ha.2
  refine rn_iload_n 1 dX9_count_0 rfl rfl rfl ?_
  refine rn_tableIn 75 dX9_count_1 (by decide) (by decide) rfl (by decide) ?_
  refine rn_aload_n 76 dX9_count_75 rfl rfl rfl ?_
  refine rn_get 79 (.int (mu 22 2)) dX9_count_76 fl_X9_50 rfl rfl rfl rfl ?_
  exact rn_iret rfl dX9_count_79 (⟨by rw [hh.2.1]; rfl, rfl, fun _ _ => rfl⟩)

set_option maxRecDepth 100000 in
set_option maxHeartbeats 2000000 in
theorem x_cnt4 (d : Nat) {g : List Ed} {a : Nat} {hs : List Sg} {tx : List Nat} {f : Int32} {mu : Nat → Nat → Int32} (h : Int64) (hs0 : xS (g, a, hs, tx, f) mu) : gd_G mX8_count (d + 3) [.ref 0, .int 4] mu h (fun r mu' _ => r = some (.int (nI (ctV g a hs tx 4))) ∧ ∀ c, (c < 9 ∨ 13 < c) → mu' c = mu c) := by
  refine gd_of rfl (Nat.le_of_ble_eq_true rfl) ?_
  show rn_R none mX8_count (d + 3) 0 [some (.ref 0), some (.int 4)] [] mu h (fun r mu' _ => r = some (.int (nI (ctV g a hs tx 4))) ∧ ∀ c, (c < 9 ∨ 13 < c) → mu' c = mu c)
  obtain ⟨hg, ha, hh, ht, hf⟩ := id hs0
  simp only at hg ha hh ht hf
  have hp := pw_le hg.1
  have ha2 := ha.2
  refine rn_iload_n 1 dX8_count_0 rfl rfl rfl ?_
  refine rn_tableIn 86 dX8_count_1 (by decide) (by decide) rfl (by decide) ?_
  refine rn_aload_n 87 dX8_count_86 rfl rfl rfl ?_
  refine rn_get 90 (.ref 5) dX8_count_87 fl_X8_26 rfl rfl rfl rfl ?_
  refine rn_get 93 (.int (mu 5 2)) dX8_count_90 fl_X8_119 rfl rfl rfl rfl ?_
  exact rn_iret rfl dX8_count_93 (⟨by rw [ht.2.1]; rfl, fun _ _ => rfl⟩)

set_option maxRecDepth 100000 in
set_option maxHeartbeats 2000000 in
theorem m_cnt4 (d : Nat) {g : List Ed} {a : Nat} {hs : List Sg} {tx : List Nat} {f : Int32} {mu : Nat → Nat → Int32} (h : Int64) (hs0 : mS (g, a, hs, tx, f) mu) : gd_G mX9_count (d + 6) [.ref 22, .int 4] mu h (fun r mu' h' => r = some (.int (nI (ctV g a hs tx 4))) ∧ h' = h ∧ ∀ c, c ≠ 27 → mu' c = mu c) := by
  refine gd_of rfl (Nat.le_of_ble_eq_true rfl) ?_
  show rn_R none mX9_count (d + 6) 0 [some (.ref 22), some (.int 4)] [] mu h (fun r mu' h' => r = some (.int (nI (ctV g a hs tx 4))) ∧ h' = h ∧ ∀ c, c ≠ 27 → mu' c = mu c)
  obtain ⟨hg, ha, hh, ht, hf⟩ := id hs0
  simp only at hg ha hh ht hf
  have hp := pw_le hg.1
  have ha2 := ha.2
  refine rn_iload_n 1 dX9_count_0 rfl rfl rfl ?_
  refine rn_tableIn 80 dX9_count_1 (by decide) (by decide) rfl (by decide) ?_
  refine rn_aload_n 81 dX9_count_80 rfl rfl rfl ?_
  refine rn_get 84 (.int (mu 22 5)) dX9_count_81 fl_X9_70 rfl rfl rfl rfl ?_
  exact rn_iret rfl dX9_count_84 (⟨by rw [ht.2.1]; rfl, rfl, fun _ _ => rfl⟩)

set_option maxRecDepth 100000 in
set_option maxHeartbeats 2000000 in
theorem x_cnt5 (d : Nat) {g : List Ed} {a : Nat} {hs : List Sg} {tx : List Nat} {f : Int32} {mu : Nat → Nat → Int32} (h : Int64) (hs0 : xS (g, a, hs, tx, f) mu) : gd_G mX8_count (d + 3) [.ref 0, .int 5] mu h (fun r mu' _ => r = some (.int (nI (ctV g a hs tx 5))) ∧ ∀ c, (c < 9 ∨ 13 < c) → mu' c = mu c) := by
  refine gd_of rfl (Nat.le_of_ble_eq_true rfl) ?_
  show rn_R none mX8_count (d + 3) 0 [some (.ref 0), some (.int 5)] [] mu h (fun r mu' _ => r = some (.int (nI (ctV g a hs tx 5))) ∧ ∀ c, (c < 9 ∨ 13 < c) → mu' c = mu c)
  obtain ⟨hg, ha, hh, ht, hf⟩ := id hs0
  simp only at hg ha hh ht hf
  have hp := pw_le hg.1
  have ha2 := ha.2
  refine rn_iload_n 1 dX8_count_0 rfl rfl rfl ?_
  refine rn_tableIn 94 dX8_count_1 (by decide) (by decide) rfl (by decide) ?_
  refine rn_aload_n 95 dX8_count_94 rfl rfl rfl ?_
  refine rn_get 98 (.ref 1) dX8_count_95 fl_X8_10 rfl rfl rfl rfl ?_
  refine rn_cvp mX2_sumOfLengths [] [] 101 (.int (nI (lnS g g.length))) dX8_count_98 cv_X8_221 rfl rfl rfl (by simp [Value.category]) rfl (c_sumL d h hg) ?_
  exact rn_iret rfl dX8_count_101 (⟨rfl, fun _ _ => rfl⟩)

set_option maxRecDepth 100000 in
set_option maxHeartbeats 2000000 in
theorem m_cnt5 (d : Nat) {g : List Ed} {a : Nat} {hs : List Sg} {tx : List Nat} {f : Int32} {mu : Nat → Nat → Int32} (h : Int64) (hs0 : mS (g, a, hs, tx, f) mu) : gd_G mX9_count (d + 6) [.ref 22, .int 5] mu h (fun r mu' h' => r = some (.int (nI (ctV g a hs tx 5))) ∧ h' = h ∧ ∀ c, c ≠ 27 → mu' c = mu c) := by
  refine gd_of rfl (Nat.le_of_ble_eq_true rfl) ?_
  show rn_R none mX9_count (d + 6) 0 [some (.ref 22), some (.int 5)] [] mu h (fun r mu' h' => r = some (.int (nI (ctV g a hs tx 5))) ∧ h' = h ∧ ∀ c, c ≠ 27 → mu' c = mu c)
  obtain ⟨hg, ha, hh, ht, hf⟩ := id hs0
  simp only at hg ha hh ht hf
  have hp := pw_le hg.1
  have ha2 := ha.2
  refine rn_iload_n 1 dX9_count_0 rfl rfl rfl ?_
  refine rn_tableIn 85 dX9_count_1 (by decide) (by decide) rfl (by decide) ?_
  refine rn_aload_n 86 dX9_count_85 rfl rfl rfl ?_
  refine rn_cvp mX9_lengths [] [] 89 (.int (nI (lnS g g.length))) dX9_count_86 cv_X9_190 rfl rfl rfl (by simp [Value.category]) rfl (c_msumL (d + 4) h hg) ?_
  exact rn_iret rfl dX9_count_89 (⟨rfl, rfl, fun _ _ => rfl⟩)

set_option maxRecDepth 100000 in
set_option maxHeartbeats 2000000 in
theorem x_cnt6 (d : Nat) {g : List Ed} {a : Nat} {hs : List Sg} {tx : List Nat} {f : Int32} {mu : Nat → Nat → Int32} (h : Int64) (hs0 : xS (g, a, hs, tx, f) mu) : gd_G mX8_count (d + 3) [.ref 0, .int 6] mu h (fun r mu' _ => r = some (.int (nI (ctV g a hs tx 6))) ∧ ∀ c, (c < 9 ∨ 13 < c) → mu' c = mu c) := by
  refine gd_of rfl (Nat.le_of_ble_eq_true rfl) ?_
  show rn_R none mX8_count (d + 3) 0 [some (.ref 0), some (.int 6)] [] mu h (fun r mu' _ => r = some (.int (nI (ctV g a hs tx 6))) ∧ ∀ c, (c < 9 ∨ 13 < c) → mu' c = mu c)
  obtain ⟨hg, ha, hh, ht, hf⟩ := id hs0
  simp only at hg ha hh ht hf
  have hp := pw_le hg.1
  have ha2 := ha.2
  refine rn_iload_n 1 dX8_count_0 rfl rfl rfl ?_
  refine rn_tableIn 102 dX8_count_1 (by decide) (by decide) rfl (by decide) ?_
  refine rn_aload_n 103 dX8_count_102 rfl rfl rfl ?_
  refine rn_get 106 (.ref 8) dX8_count_103 fl_X8_35 rfl rfl rfl rfl ?_
  refine rn_aload_n 107 dX8_count_106 rfl rfl rfl ?_
  refine rn_get 110 (.ref 1) dX8_count_107 fl_X8_10 rfl rfl rfl rfl ?_
  refine rn_get 113 (.int (mu 1 2)) dX8_count_110 fl_X8_111 rfl rfl rfl rfl ?_
  rw [ha.1]
  refine rn_callV mX5_reachablePairs [.int (nI a)] [] dX8_count_113 cv_X8_224 rfl rfl rfl (by simp [Value.category]) (c_reachPairs d (by omega) h hg) (fun r1 m1 h1 q1 _ => ?_)
  obtain ⟨e1, f1⟩ := q1
  subst e1
  exact rn_iret rfl dX8_count_116 (⟨rfl, f1⟩)

set_option maxRecDepth 100000 in
set_option maxHeartbeats 2000000 in
theorem m_cnt6 (d : Nat) {g : List Ed} {a : Nat} {hs : List Sg} {tx : List Nat} {f : Int32} {mu : Nat → Nat → Int32} (h : Int64) (hs0 : mS (g, a, hs, tx, f) mu) : gd_G mX9_count (d + 6) [.ref 22, .int 6] mu h (fun r mu' h' => r = some (.int (nI (ctV g a hs tx 6))) ∧ h' = h ∧ ∀ c, c ≠ 27 → mu' c = mu c) := by
  refine gd_of rfl (Nat.le_of_ble_eq_true rfl) ?_
  show rn_R none mX9_count (d + 6) 0 [some (.ref 22), some (.int 6)] [] mu h (fun r mu' h' => r = some (.int (nI (ctV g a hs tx 6))) ∧ h' = h ∧ ∀ c, c ≠ 27 → mu' c = mu c)
  obtain ⟨hg, ha, hh, ht, hf⟩ := id hs0
  simp only at hg ha hh ht hf
  have hp := pw_le hg.1
  have ha2 := ha.2
  refine rn_iload_n 1 dX9_count_0 rfl rfl rfl ?_
  refine rn_tableIn 90 dX9_count_1 (by decide) (by decide) rfl (by decide) ?_
  refine rn_aload_n 91 dX9_count_90 rfl rfl rfl ?_
  refine rn_callV mX9_reachable [] [] dX9_count_91 cv_X9_192 rfl rfl rfl (by simp [Value.category]) (c_mreach d ha.2 h hg ha.1) (fun r1 m1 h1 q1 _ => ?_)
  obtain ⟨e1, k1, f1⟩ := q1
  rw [e1, k1]
  show rn_R _ mX9_count _ 94 [some (.ref 22), some (.int 6)] [.int (nI (rpC g a 64))] m1 h _
  exact rn_iret rfl dX9_count_94 (⟨rfl, rfl, f1⟩)

set_option maxRecDepth 100000 in
set_option maxHeartbeats 2000000 in
theorem x_count_b (d : Nat) {g : List Ed} {a : Nat} {hs : List Sg} {tx : List Nat} {f : Int32} {v : Int32} (hv : ¬ isin v 7) : XC mX8_count d [.int v] (g, a, hs, tx, f) (g, a, hs, tx, f) (.int (-2)) := by
  intro mu h hs0
  obtain ⟨hg, ha, hh, ht, hf⟩ := id hs0
  simp only at hg ha hh ht hf
  refine gd_of rfl (Nat.le_of_ble_eq_true rfl) ?_
  show rn_R none mX8_count d 0 [some (.ref 0), some (.int v)] [] mu h (fun r mu' _ => r = some (.int (-2)) ∧ xS (g, a, hs, tx, f) mu' ∧ ∀ c, 22 ≤ c → mu' c = mu c)
  refine rn_iload_n 1 dX8_count_0 rfl rfl rfl ?_
  refine rn_tableOut 117 dX8_count_1 (tsO hv) (by decide) ?_
  refine rn_bipush (v := (-2)) 119 dX8_count_117 (by decide) rfl ?_
  exact rn_iret rfl dX8_count_119 (⟨rfl, hs0, fun _ _ => rfl⟩)

set_option maxRecDepth 100000 in
set_option maxHeartbeats 2000000 in
theorem m_count_b (d : Nat) {g : List Ed} {a : Nat} {hs : List Sg} {tx : List Nat} {f : Int32} {v : Int32} (hv : ¬ isin v 7) : MC mX9_count d [.int v] (g, a, hs, tx, f) (g, a, hs, tx, f) (.int (-2)) := by
  intro mu h hs0
  obtain ⟨hg, ha, hh, ht, hf⟩ := id hs0
  simp only at hg ha hh ht hf
  refine gd_of rfl (Nat.le_of_ble_eq_true rfl) ?_
  show rn_R none mX9_count d 0 [some (.ref 22), some (.int v)] [] mu h (fun r mu' _ => r = some (.int (-2)) ∧ mS (g, a, hs, tx, f) mu' ∧ ∀ c, c < 22 → mu' c = mu c)
  refine rn_iload_n 1 dX9_count_0 rfl rfl rfl ?_
  refine rn_tableOut 95 dX9_count_1 (tsO hv) (by decide) ?_
  refine rn_bipush (v := (-2)) 97 dX9_count_95 (by decide) rfl ?_
  exact rn_iret rfl dX9_count_97 (⟨rfl, hs0, fun _ _ => rfl⟩)

theorem c_xcount (d : Nat) {g : List Ed} {a : Nat} {hs : List Sg} {tx : List Nat} {f : Int32} {mu : Nat → Nat → Int32} (h : Int64) (hs0 : xS (g, a, hs, tx, f) mu) {w : Nat} (hw : w < 7) : gd_G mX8_count (d + 3) [.ref 0, .int (nI w)] mu h (fun r mu' _ => r = some (.int (nI (ctV g a hs tx w))) ∧ ∀ c, (c < 9 ∨ 13 < c) → mu' c = mu c) := by
  rcases (show w = 0 ∨ w = 1 ∨ w = 2 ∨ w = 3 ∨ w = 4 ∨ w = 5 ∨ w = 6 by omega) with rfl | rfl | rfl | rfl | rfl | rfl | rfl
  · exact x_cnt0 d h hs0
  · exact x_cnt1 d h hs0
  · exact x_cnt2 d h hs0
  · exact x_cnt3 d h hs0
  · exact x_cnt4 d h hs0
  · exact x_cnt5 d h hs0
  · exact x_cnt6 d h hs0
theorem c_mcount (d : Nat) {g : List Ed} {a : Nat} {hs : List Sg} {tx : List Nat} {f : Int32} {mu : Nat → Nat → Int32} (h : Int64) (hs0 : mS (g, a, hs, tx, f) mu) {w : Nat} (hw : w < 7) : gd_G mX9_count (d + 6) [.ref 22, .int (nI w)] mu h (fun r mu' h' => r = some (.int (nI (ctV g a hs tx w))) ∧ h' = h ∧ ∀ c, c ≠ 27 → mu' c = mu c) := by
  rcases (show w = 0 ∨ w = 1 ∨ w = 2 ∨ w = 3 ∨ w = 4 ∨ w = 5 ∨ w = 6 by omega) with rfl | rfl | rfl | rfl | rfl | rfl | rfl
  · exact m_cnt0 d h hs0
  · exact m_cnt1 d h hs0
  · exact m_cnt2 d h hs0
  · exact m_cnt3 d h hs0
  · exact m_cnt4 d h hs0
  · exact m_cnt5 d h hs0
  · exact m_cnt6 d h hs0
theorem op_count (v : Int32) : OP mX8_count mX9_count [.int v] := by
  rintro ⟨g, a, hs, tx, f⟩
  by_cases hv : isin v 7
  · obtain ⟨w, hw, rfl⟩ := hv
    exact ⟨.int (nI (ctV g a hs tx w)), (g, a, hs, tx, f), fun mu h hs0 => gd_mono (c_xcount 97 h hs0 hw) (fun r m2 h2 q => ⟨q.1, xS_fr hs0 (fun c hc => q.2 c (by omega)), fun c hc => q.2 c (by omega)⟩), fun mu h hs0 => gd_mono (c_mcount 94 h hs0 hw) (fun r m2 h2 q => ⟨q.1, mS_fr hs0 (fun c c1 c2 => q.2.2 c (by omega)), fun c hc => q.2.2 c (by omega)⟩)⟩
  · exact ⟨_, _, x_count_b 100 hv, m_count_b 100 hv⟩
