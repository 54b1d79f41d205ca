/-! THE GRAPH, further: lengths under an attack into a row -/

set_option maxRecDepth 100000 in
set_option maxHeartbeats 2000000 in
theorem lp_fill9 (d : Nat) {g : List Ed} {mu : Nat → Nat → Int32} (h : Int64) (hg : xg g mu) {S : Nat} (hS : S < 2 ^ 31) : ∀ (k e : Nat), e + k = g.length → rn_R none mX2_fillLengths d 2 [some (.ref 1), some (.int (nI S)), some (.ref 9), some (.int (nI e)), none, none] [] (mu_r mu 9 (fw g S (mu 9) e)) h (pq none (mu_r mu 9 (fw g S (mu 9) g.length)) h) := by
  intro k
  induction k with
  | zero =>
    intro e hek
    have h16 := hg.1
    refine rn_iload_n 3 dX2_fillLengths_2 rfl rfl rfl ?_
    refine rn_aload_n 4 dX2_fillLengths_3 rfl rfl rfl ?_
    refine rn_get 7 (.int (mu 1 1)) dX2_fillLengths_4 fl_X2_15 rfl rfl rfl rfl ?_
    refine rn_icmp_ge 79 10 dX2_fillLengths_7 (by decide) rfl (fun _ => ?_) (fun c7 => absurd (by rw [hg.2.2.1]; exact nI_le (by omega) (by omega)) c7)
    exact rn_vret rfl dX2_fillLengths_79 (⟨rfl, by rw [show e = g.length by omega], rfl⟩)
  | succ k ih =>
    intro e hek
    have hlt : e < g.length := by omega
    have h16 := hg.1
    have hpk := xg_pk hg hlt
    have hek2 := e_at hg.2.1 hlt
    refine rn_iload_n 3 dX2_fillLengths_2 rfl rfl rfl ?_
    refine rn_aload_n 4 dX2_fillLengths_3 rfl rfl rfl ?_
    refine rn_get 7 (.int (mu 1 1)) dX2_fillLengths_4 fl_X2_15 rfl rfl rfl rfl ?_
    refine rn_icmp_ge 79 10 dX2_fillLengths_7 (by decide) rfl (fun c7 => absurd c7 (by rw [hg.2.2.1]; exact nI_ge hlt (by omega))) (fun _ => ?_)
    refine rn_iload_n 11 dX2_fillLengths_10 rfl rfl rfl ?_
    refine rn_aload_n 12 dX2_fillLengths_11 rfl rfl rfl ?_
    refine rn_alen (ty := .int) 13 16 dX2_fillLengths_12 rfl (by decide) (by decide) rfl ?_
    refine rn_icmp_ge 79 16 dX2_fillLengths_13 (by decide) rfl (fun c13 => absurd c13 (nI_ge (b := 16) (by omega) (by omega))) (fun _ => ?_)
    refine rn_aload_n 17 dX2_fillLengths_16 rfl rfl rfl ?_
    refine rn_get 20 (.ref 2) dX2_fillLengths_17 fl_X2_9 rfl rfl rfl rfl ?_
    refine rn_iload_n 21 dX2_fillLengths_20 rfl rfl rfl ?_
    refine rn_iald 22 (mu 2 e) dX2_fillLengths_21 rfl (vp_in_nI (by omega) (by omega)) (congrArg (mu 2) (nI_clamp (by omega))) rfl ?_
    refine rn_istore 24 [some (.ref 1), some (.int (nI S)), some (.ref 9), some (.int (nI e)), some (.int (mu 2 e)), none] dX2_fillLengths_22 rfl (Nat.le_of_ble_eq_true rfl) rfl ?_
    refine rn_iload_n 25 dX2_fillLengths_24 rfl rfl rfl ?_
    refine rn_iload_n 26 dX2_fillLengths_25 rfl rfl rfl ?_
    refine rn_ishr 27 dX2_fillLengths_26 rfl ?_
    refine rn_iconst (v := 1) 28 dX2_fillLengths_27 (by decide) rfl ?_
    refine rn_iand 29 dX2_fillLengths_28 rfl ?_
    refine rn_if_eq 43 32 dX2_fillLengths_29 (by decide) rfl (fun c29 => ?_) (fun c29 => ?_)
    · skip
      have hb : S.testBit e = false := by rw [nb_bit hS (by omega)] at c29; exact bt_0.mp c29
      refine rn_iconst (v := 0) 44 dX2_fillLengths_43 (by decide) rfl ?_
      refine rn_istore 46 [some (.ref 1), some (.int (nI S)), some (.ref 9), some (.int (nI e)), some (.int (mu 2 e)), some (.int 0)] dX2_fillLengths_44 rfl (Nat.le_of_ble_eq_true rfl) rfl ?_
      refine rn_aload_n 47 dX2_fillLengths_46 rfl rfl rfl ?_
      refine rn_iload_n 48 dX2_fillLengths_47 rfl rfl rfl ?_
      refine rn_iload 50 dX2_fillLengths_48 rfl rfl ?_
      refine rn_bipush (v := 100) 52 dX2_fillLengths_50 (by decide) rfl ?_
      refine rn_icmp_ne 61 55 dX2_fillLengths_52 (by decide) rfl (fun _ => ?_) (fun c52 => absurd c52 (by decide))
      refine rn_iload 63 dX2_fillLengths_61 rfl rfl ?_
      refine rn_bipush (v := 6) 65 dX2_fillLengths_63 (by decide) rfl ?_
      refine rn_ishr 66 dX2_fillLengths_65 rfl ?_
      refine rn_bipush (v := 127) 68 dX2_fillLengths_66 (by decide) rfl ?_
      refine rn_iand 69 dX2_fillLengths_68 rfl ?_
      rw [hpk.2.2.1]
      refine rn_iload 71 dX2_fillLengths_69 rfl rfl ?_
      refine rn_iadd 72 dX2_fillLengths_71 rfl ?_
      refine rn_iast 73 dX2_fillLengths_72 rfl (vp_in_nI (by omega) (by omega)) rfl ?_
      rw [nI_clamp (by omega), mu_rs, show nI (eL g e) + 0 = nI (eW g S e) by simp [eW, hb], fw_1]
      refine rn_iinc (v := (nI (e + 1))) 76 [some (.ref 1), some (.int (nI S)), some (.ref 9), some (.int (nI (e + 1))), some (.int (mu 2 e)), some (.int 0)] dX2_fillLengths_73 rfl (nI_1 _) rfl rfl ?_
      refine rn_goto 2 dX2_fillLengths_76 (by decide) ?_
      refine rn_drop 4 [some (.ref 1), some (.int (nI S)), some (.ref 9), some (.int (nI (e + 1))), none, some (.int 0)] rfl ?_
      refine rn_drop 5 [some (.ref 1), some (.int (nI S)), some (.ref 9), some (.int (nI (e + 1))), none, none] rfl ?_
      exact ih (e + 1) (by omega)
    · skip
      have hb : S.testBit e = true := by rw [nb_bit hS (by omega)] at c29; cases hz : S.testBit e with | true => rfl | false => exact absurd (bt_0.mpr hz) c29
      refine rn_iload 34 dX2_fillLengths_32 rfl rfl ?_
      refine rn_bipush (v := 13) 36 dX2_fillLengths_34 (by decide) rfl ?_
      refine rn_ishr 37 dX2_fillLengths_36 rfl ?_
      refine rn_bipush (v := 127) 39 dX2_fillLengths_37 (by decide) rfl ?_
      refine rn_iand 40 dX2_fillLengths_39 rfl ?_
      rw [hpk.2.2.2.1]
      refine rn_goto 44 dX2_fillLengths_40 (by decide) ?_
      refine rn_istore 46 [some (.ref 1), some (.int (nI S)), some (.ref 9), some (.int (nI e)), some (.int (mu 2 e)), some (.int (nI (eY g e)))] dX2_fillLengths_44 rfl (Nat.le_of_ble_eq_true rfl) rfl ?_
      refine rn_aload_n 47 dX2_fillLengths_46 rfl rfl rfl ?_
      refine rn_iload_n 48 dX2_fillLengths_47 rfl rfl rfl ?_
      refine rn_iload 50 dX2_fillLengths_48 rfl rfl ?_
      refine rn_bipush (v := 100) 52 dX2_fillLengths_50 (by decide) rfl ?_
      refine rn_icmp_ne 61 55 dX2_fillLengths_52 (by decide) rfl (fun c52 => ?_) (fun c52 => ?_)
      · skip
        have hn : ¬ eY g e = 100 := fun z => c52 (by rw [z]; rfl)
        refine rn_iload 63 dX2_fillLengths_61 rfl rfl ?_
        refine rn_bipush (v := 6) 65 dX2_fillLengths_63 (by decide) rfl ?_
        refine rn_ishr 66 dX2_fillLengths_65 rfl ?_
        refine rn_bipush (v := 127) 68 dX2_fillLengths_66 (by decide) rfl ?_
        refine rn_iand 69 dX2_fillLengths_68 rfl ?_
        rw [hpk.2.2.1]
        refine rn_iload 71 dX2_fillLengths_69 rfl rfl ?_
        refine rn_iadd 72 dX2_fillLengths_71 rfl ?_
        refine rn_iast 73 dX2_fillLengths_72 rfl (vp_in_nI (by omega) (by omega)) rfl ?_
        rw [nI_clamp (by omega), mu_rs, show nI (eL g e) + nI (eY g e) = nI (eW g S e) by rw [nI_add]; simp [eW, hb, hn], fw_1]
        refine rn_iinc (v := (nI (e + 1))) 76 [some (.ref 1), some (.int (nI S)), some (.ref 9), some (.int (nI (e + 1))), some (.int (mu 2 e)), some (.int (nI (eY g e)))] dX2_fillLengths_73 rfl (nI_1 _) rfl rfl ?_
        refine rn_goto 2 dX2_fillLengths_76 (by decide) ?_
        refine rn_drop 4 [some (.ref 1), some (.int (nI S)), some (.ref 9), some (.int (nI (e + 1))), none, some (.int (nI (eY g e)))] rfl ?_
        refine rn_drop 5 [some (.ref 1), some (.int (nI S)), some (.ref 9), some (.int (nI (e + 1))), none, none] rfl ?_
        exact ih (e + 1) (by omega)
      · skip
        have hn : eY g e = 100 := (nI_eq (b := 100) (by omega) (by omega)).mp c52
        refine rn_sipush (v := 9999) 58 dX2_fillLengths_55 (by decide) rfl ?_
        refine rn_goto 72 dX2_fillLengths_58 (by decide) ?_
        refine rn_iast 73 dX2_fillLengths_72 rfl (vp_in_nI (by omega) (by omega)) rfl ?_
        rw [nI_clamp (by omega), mu_rs, show (9999 : Int32) = nI (eW g S e) by simp [eW, hb, hn]; rfl, fw_1]
        refine rn_iinc (v := (nI (e + 1))) 76 [some (.ref 1), some (.int (nI S)), some (.ref 9), some (.int (nI (e + 1))), some (.int (mu 2 e)), some (.int (nI (eY g e)))] dX2_fillLengths_73 rfl (nI_1 _) rfl rfl ?_
        refine rn_goto 2 dX2_fillLengths_76 (by decide) ?_
        refine rn_drop 4 [some (.ref 1), some (.int (nI S)), some (.ref 9), some (.int (nI (e + 1))), none, some (.int (nI (eY g e)))] rfl ?_
        refine rn_drop 5 [some (.ref 1), some (.int (nI S)), some (.ref 9), some (.int (nI (e + 1))), none, none] rfl ?_
        exact ih (e + 1) (by omega)

set_option maxRecDepth 100000 in
set_option maxHeartbeats 2000000 in
theorem c_fillLengths9 (d : Nat) {g : List Ed} {mu : Nat → Nat → Int32} (h : Int64) (hg : xg g mu) {S : Nat} (hS : S < 2 ^ 31) : gd_G mX2_fillLengths d [.ref 1, .int (nI S), .ref 9] mu h (pq none (mu_r mu 9 (fw g S (mu 9) g.length)) h) := by
  refine gd_of rfl (Nat.le_of_ble_eq_true rfl) ?_
  show rn_R none mX2_fillLengths d 0 [some (.ref 1), some (.int (nI S)), some (.ref 9), none, none, none] [] mu h (pq none (mu_r mu 9 (fw g S (mu 9) g.length)) h)
  refine rn_iconst (v := 0) 1 dX2_fillLengths_0 (by decide) rfl ?_
  refine rn_istore_n 2 [some (.ref 1), some (.int (nI S)), some (.ref 9), some (.int 0), none, none] dX2_fillLengths_1 rfl rfl (Nat.le_of_ble_eq_true rfl) rfl ?_
  have z := lp_fill9 d h hg hS g.length 0 (by omega)
  rw [fw_0, mu_r_id] at z
  exact z

set_option maxRecDepth 100000 in
set_option maxHeartbeats 2000000 in
theorem lp_fill16 (d : Nat) {g : List Ed} {mu : Nat → Nat → Int32} (h : Int64) (hg : xg g mu) {S : Nat} (hS : S < 2 ^ 31) : ∀ (k e : Nat), e + k = g.length → rn_R none mX2_fillLengths d 2 [some (.ref 1), some (.int (nI S)), some (.ref 16), some (.int (nI e)), none, none] [] (mu_r mu 16 (fw g S (mu 16) e)) h (pq none (mu_r mu 16 (fw g S (mu 16) g.length)) h) := by
  intro k
  induction k with
  | zero =>
    intro e hek
    have h16 := hg.1
    refine rn_iload_n 3 dX2_fillLengths_2 rfl rfl rfl ?_
    refine rn_aload_n 4 dX2_fillLengths_3 rfl rfl rfl ?_
    refine rn_get 7 (.int (mu 1 1)) dX2_fillLengths_4 fl_X2_15 rfl rfl rfl rfl ?_
    refine rn_icmp_ge 79 10 dX2_fillLengths_7 (by decide) rfl (fun _ => ?_) (fun c7 => absurd (by rw [hg.2.2.1]; exact nI_le (by omega) (by omega)) c7)
    exact rn_vret rfl dX2_fillLengths_79 (⟨rfl, by rw [show e = g.length by omega], rfl⟩)
  | succ k ih =>
    intro e hek
    have hlt : e < g.length := by omega
    have h16 := hg.1
    have hpk := xg_pk hg hlt
    have hek2 := e_at hg.2.1 hlt
    refine rn_iload_n 3 dX2_fillLengths_2 rfl rfl rfl ?_
    refine rn_aload_n 4 dX2_fillLengths_3 rfl rfl rfl ?_
    refine rn_get 7 (.int (mu 1 1)) dX2_fillLengths_4 fl_X2_15 rfl rfl rfl rfl ?_
    refine rn_icmp_ge 79 10 dX2_fillLengths_7 (by decide) rfl (fun c7 => absurd c7 (by rw [hg.2.2.1]; exact nI_ge hlt (by omega))) (fun _ => ?_)
    refine rn_iload_n 11 dX2_fillLengths_10 rfl rfl rfl ?_
    refine rn_aload_n 12 dX2_fillLengths_11 rfl rfl rfl ?_
    refine rn_alen (ty := .int) 13 16 dX2_fillLengths_12 rfl (by decide) (by decide) rfl ?_
    refine rn_icmp_ge 79 16 dX2_fillLengths_13 (by decide) rfl (fun c13 => absurd c13 (nI_ge (b := 16) (by omega) (by omega))) (fun _ => ?_)
    refine rn_aload_n 17 dX2_fillLengths_16 rfl rfl rfl ?_
    refine rn_get 20 (.ref 2) dX2_fillLengths_17 fl_X2_9 rfl rfl rfl rfl ?_
    refine rn_iload_n 21 dX2_fillLengths_20 rfl rfl rfl ?_
    refine rn_iald 22 (mu 2 e) dX2_fillLengths_21 rfl (vp_in_nI (by omega) (by omega)) (congrArg (mu 2) (nI_clamp (by omega))) rfl ?_
    refine rn_istore 24 [some (.ref 1), some (.int (nI S)), some (.ref 16), some (.int (nI e)), some (.int (mu 2 e)), none] dX2_fillLengths_22 rfl (Nat.le_of_ble_eq_true rfl) rfl ?_
    refine rn_iload_n 25 dX2_fillLengths_24 rfl rfl rfl ?_
    refine rn_iload_n 26 dX2_fillLengths_25 rfl rfl rfl ?_
    refine rn_ishr 27 dX2_fillLengths_26 rfl ?_
    refine rn_iconst (v := 1) 28 dX2_fillLengths_27 (by decide) rfl ?_
    refine rn_iand 29 dX2_fillLengths_28 rfl ?_
    refine rn_if_eq 43 32 dX2_fillLengths_29 (by decide) rfl (fun c29 => ?_) (fun c29 => ?_)
    · skip
      have hb : S.testBit e = false := by rw [nb_bit hS (by omega)] at c29; exact bt_0.mp c29
      refine rn_iconst (v := 0) 44 dX2_fillLengths_43 (by decide) rfl ?_
      refine rn_istore 46 [some (.ref 1), some (.int (nI S)), some (.ref 16), some (.int (nI e)), some (.int (mu 2 e)), some (.int 0)] dX2_fillLengths_44 rfl (Nat.le_of_ble_eq_true rfl) rfl ?_
      refine rn_aload_n 47 dX2_fillLengths_46 rfl rfl rfl ?_
      refine rn_iload_n 48 dX2_fillLengths_47 rfl rfl rfl ?_
      refine rn_iload 50 dX2_fillLengths_48 rfl rfl ?_
      refine rn_bipush (v := 100) 52 dX2_fillLengths_50 (by decide) rfl ?_
      refine rn_icmp_ne 61 55 dX2_fillLengths_52 (by decide) rfl (fun _ => ?_) (fun c52 => absurd c52 (by decide))
      refine rn_iload 63 dX2_fillLengths_61 rfl rfl ?_
      refine rn_bipush (v := 6) 65 dX2_fillLengths_63 (by decide) rfl ?_
      refine rn_ishr 66 dX2_fillLengths_65 rfl ?_
      refine rn_bipush (v := 127) 68 dX2_fillLengths_66 (by decide) rfl ?_
      refine rn_iand 69 dX2_fillLengths_68 rfl ?_
      rw [hpk.2.2.1]
      refine rn_iload 71 dX2_fillLengths_69 rfl rfl ?_
      refine rn_iadd 72 dX2_fillLengths_71 rfl ?_
      refine rn_iast 73 dX2_fillLengths_72 rfl (vp_in_nI (by omega) (by omega)) rfl ?_
      rw [nI_clamp (by omega), mu_rs, show nI (eL g e) + 0 = nI (eW g S e) by simp [eW, hb], fw_1]
      refine rn_iinc (v := (nI (e + 1))) 76 [some (.ref 1), some (.int (nI S)), some (.ref 16), some (.int (nI (e + 1))), some (.int (mu 2 e)), some (.int 0)] dX2_fillLengths_73 rfl (nI_1 _) rfl rfl ?_
      refine rn_goto 2 dX2_fillLengths_76 (by decide) ?_
      refine rn_drop 4 [some (.ref 1), some (.int (nI S)), some (.ref 16), some (.int (nI (e + 1))), none, some (.int 0)] rfl ?_
      refine rn_drop 5 [some (.ref 1), some (.int (nI S)), some (.ref 16), some (.int (nI (e + 1))), none, none] rfl ?_
      exact ih (e + 1) (by omega)
    · skip
      have hb : S.testBit e = true := by rw [nb_bit hS (by omega)] at c29; cases hz : S.testBit e with | true => rfl | false => exact absurd (bt_0.mpr hz) c29
      refine rn_iload 34 dX2_fillLengths_32 rfl rfl ?_
      refine rn_bipush (v := 13) 36 dX2_fillLengths_34 (by decide) rfl ?_
      refine rn_ishr 37 dX2_fillLengths_36 rfl ?_
      refine rn_bipush (v := 127) 39 dX2_fillLengths_37 (by decide) rfl ?_
      refine rn_iand 40 dX2_fillLengths_39 rfl ?_
      rw [hpk.2.2.2.1]
      refine rn_goto 44 dX2_fillLengths_40 (by decide) ?_
      refine rn_istore 46 [some (.ref 1), some (.int (nI S)), some (.ref 16), some (.int (nI e)), some (.int (mu 2 e)), some (.int (nI (eY g e)))] dX2_fillLengths_44 rfl (Nat.le_of_ble_eq_true rfl) rfl ?_
      refine rn_aload_n 47 dX2_fillLengths_46 rfl rfl rfl ?_
      refine rn_iload_n 48 dX2_fillLengths_47 rfl rfl rfl ?_
      refine rn_iload 50 dX2_fillLengths_48 rfl rfl ?_
      refine rn_bipush (v := 100) 52 dX2_fillLengths_50 (by decide) rfl ?_
      refine rn_icmp_ne 61 55 dX2_fillLengths_52 (by decide) rfl (fun c52 => ?_) (fun c52 => ?_)
      · skip
        have hn : ¬ eY g e = 100 := fun z => c52 (by rw [z]; rfl)
        refine rn_iload 63 dX2_fillLengths_61 rfl rfl ?_
        refine rn_bipush (v := 6) 65 dX2_fillLengths_63 (by decide) rfl ?_
        refine rn_ishr 66 dX2_fillLengths_65 rfl ?_
        refine rn_bipush (v := 127) 68 dX2_fillLengths_66 (by decide) rfl ?_
        refine rn_iand 69 dX2_fillLengths_68 rfl ?_
        rw [hpk.2.2.1]
        refine rn_iload 71 dX2_fillLengths_69 rfl rfl ?_
        refine rn_iadd 72 dX2_fillLengths_71 rfl ?_
        refine rn_iast 73 dX2_fillLengths_72 rfl (vp_in_nI (by omega) (by omega)) rfl ?_
        rw [nI_clamp (by omega), mu_rs, show nI (eL g e) + nI (eY g e) = nI (eW g S e) by rw [nI_add]; simp [eW, hb, hn], fw_1]
        refine rn_iinc (v := (nI (e + 1))) 76 [some (.ref 1), some (.int (nI S)), some (.ref 16), some (.int (nI (e + 1))), some (.int (mu 2 e)), some (.int (nI (eY g e)))] dX2_fillLengths_73 rfl (nI_1 _) rfl rfl ?_
        refine rn_goto 2 dX2_fillLengths_76 (by decide) ?_
        refine rn_drop 4 [some (.ref 1), some (.int (nI S)), some (.ref 16), some (.int (nI (e + 1))), none, some (.int (nI (eY g e)))] rfl ?_
        refine rn_drop 5 [some (.ref 1), some (.int (nI S)), some (.ref 16), some (.int (nI (e + 1))), none, none] rfl ?_
        exact ih (e + 1) (by omega)
      · skip
        have hn : eY g e = 100 := (nI_eq (b := 100) (by omega) (by omega)).mp c52
        refine rn_sipush (v := 9999) 58 dX2_fillLengths_55 (by decide) rfl ?_
        refine rn_goto 72 dX2_fillLengths_58 (by decide) ?_
        refine rn_iast 73 dX2_fillLengths_72 rfl (vp_in_nI (by omega) (by omega)) rfl ?_
        rw [nI_clamp (by omega), mu_rs, show (9999 : Int32) = nI (eW g S e) by simp [eW, hb, hn]; rfl, fw_1]
        refine rn_iinc (v := (nI (e + 1))) 76 [some (.ref 1), some (.int (nI S)), some (.ref 16), some (.int (nI (e + 1))), some (.int (mu 2 e)), some (.int (nI (eY g e)))] dX2_fillLengths_73 rfl (nI_1 _) rfl rfl ?_
        refine rn_goto 2 dX2_fillLengths_76 (by decide) ?_
        refine rn_drop 4 [some (.ref 1), some (.int (nI S)), some (.ref 16), some (.int (nI (e + 1))), none, some (.int (nI (eY g e)))] rfl ?_
        refine rn_drop 5 [some (.ref 1), some (.int (nI S)), some (.ref 16), some (.int (nI (e + 1))), none, none] rfl ?_
        exact ih (e + 1) (by omega)

set_option maxRecDepth 100000 in
set_option maxHeartbeats 2000000 in
theorem c_fillLengths16 (d : Nat) {g : List Ed} {mu : Nat → Nat → Int32} (h : Int64) (hg : xg g mu) {S : Nat} (hS : S < 2 ^ 31) : gd_G mX2_fillLengths d [.ref 1, .int (nI S), .ref 16] mu h (pq none (mu_r mu 16 (fw g S (mu 16) g.length)) h) := by
  refine gd_of rfl (Nat.le_of_ble_eq_true rfl) ?_
  show rn_R none mX2_fillLengths d 0 [some (.ref 1), some (.int (nI S)), some (.ref 16), none, none, none] [] mu h (pq none (mu_r mu 16 (fw g S (mu 16) g.length)) h)
  refine rn_iconst (v := 0) 1 dX2_fillLengths_0 (by decide) rfl ?_
  refine rn_istore_n 2 [some (.ref 1), some (.int (nI S)), some (.ref 16), some (.int 0), none, none] dX2_fillLengths_1 rfl rfl (Nat.le_of_ble_eq_true rfl) rfl ?_
  have z := lp_fill16 d h hg hS g.length 0 (by omega)
  rw [fw_0, mu_r_id] at z
  exact z
