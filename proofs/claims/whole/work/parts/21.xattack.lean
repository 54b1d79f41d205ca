/-! THE CLASS's CALLS: edge, clear, attack, setAttack, undo -/
theorem bi_01 {b : Bool} {v : Int32} (h : (if b = true then (1 : Int32) else 0) = v) : v = (if b = true then 1 else 0) := h.symm

set_option maxRecDepth 100000 in
set_option maxHeartbeats 2000000 in
theorem x_edge_b (d : Nat) {g : List Ed} {a : Nat} {hs : List Sg} {tx : List Nat} {f : Int32} {v1 v2 : Int32} (hv : ¬ (isin v1 g.length ∧ isin v2 6)) : XC mX8_edge (d + 1) [.int v1, .int v2] (g, a, hs, tx, f) (g, a, hs, tx, f) (.int (-2)) := by
  intro mu h hs0
  obtain ⟨hg, ha, hh, ht, hf⟩ := id hs0
  simp only at hg ha hh ht hf
  refine gd_of rfl (Nat.le_of_ble_eq_true rfl) ?_
  show rn_R none mX8_edge (d + 1) 0 [some (.ref 0), some (.int v1), some (.int v2)] [] mu h (fun r mu' _ => r = some (.int (-2)) ∧ xS (g, a, hs, tx, f) mu' ∧ ∀ c, 22 ≤ c → mu' c = mu c)
  by_cases q1 : isin v1 g.length
  · skip
    have q2 : ¬ isin v2 6 := fun q => hv ⟨q1, q⟩
    obtain ⟨e, he, rfl⟩ := q1
    refine rn_aload_n 1 dX8_edge_0 rfl rfl rfl ?_
    refine rn_get 4 (.ref 1) dX8_edge_1 fl_X8_10 rfl rfl rfl rfl ?_
    refine rn_iload_n 5 dX8_edge_4 rfl rfl rfl ?_
    refine rn_cvp mX2_has [.int (nI e)] [] 8 (.int 1) dX8_edge_5 cv_X8_96 rfl rfl rfl (by simp [Value.category]) rfl (c_has_t (d) h hg he) ?_
    refine rn_if_eq 20 11 dX8_edge_8 (by decide) rfl (fun c8 => absurd c8 (by decide)) (fun _ => ?_)
    refine rn_iload_n 12 dX8_edge_11 rfl rfl rfl ?_
    refine rn_if_lt 20 15 dX8_edge_12 (by decide) rfl (fun c12 => ?_) (fun c12 => ?_)
    · skip
      refine rn_bipush (v := (-2)) 22 dX8_edge_20 (by decide) rfl ?_
      exact rn_iret rfl dX8_edge_22 (⟨rfl, hs0, fun _ _ => rfl⟩)
    · skip
      refine rn_iload_n 16 dX8_edge_15 rfl rfl rfl ?_
      refine rn_iconst (v := 5) 17 dX8_edge_16 (by decide) rfl ?_
      refine rn_icmp_le 23 20 dX8_edge_17 (by decide) rfl (fun c17 => absurd c17 (fun q => q2 (isin_of' (n := 5) (by omega) c12 (Int32.not_lt.mpr q)))) (fun _ => ?_)
      refine rn_bipush (v := (-2)) 22 dX8_edge_20 (by decide) rfl ?_
      exact rn_iret rfl dX8_edge_22 (⟨rfl, hs0, fun _ _ => rfl⟩)
  · skip
    refine rn_aload_n 1 dX8_edge_0 rfl rfl rfl ?_
    refine rn_get 4 (.ref 1) dX8_edge_1 fl_X8_10 rfl rfl rfl rfl ?_
    refine rn_iload_n 5 dX8_edge_4 rfl rfl rfl ?_
    refine rn_cvp mX2_has [.int v1] [] 8 (.int 0) dX8_edge_5 cv_X8_96 rfl rfl rfl (by simp [Value.category]) rfl (c_has_f (d) h hg q1) ?_
    refine rn_if_eq 20 11 dX8_edge_8 (by decide) rfl (fun _ => ?_) (fun c8 => absurd (by decide) c8)
    refine rn_bipush (v := (-2)) 22 dX8_edge_20 (by decide) rfl ?_
    exact rn_iret rfl dX8_edge_22 (⟨rfl, hs0, fun _ _ => rfl⟩)

set_option maxRecDepth 100000 in
set_option maxHeartbeats 2000000 in
theorem x_edge_p (d : Nat) {g : List Ed} {a : Nat} {hs : List Sg} {tx : List Nat} {f : Int32} {e w : Nat} (he : e < g.length) (hw : w < 5) : XC mX8_edge (d + 2) [.int (nI e), .int (nI w)] (g, a, hs, tx, f) (g, a, hs, tx, f) (.int (nI (eP g e w))) := by
  intro mu h hs0
  obtain ⟨hg, ha, hh, ht, hf⟩ := id hs0
  simp only at hg ha hh ht hf
  refine gd_of rfl (Nat.le_of_ble_eq_true rfl) ?_
  show rn_R none mX8_edge (d + 2) 0 [some (.ref 0), some (.int (nI e)), some (.int (nI w))] [] mu h (fun r mu' _ => r = some (.int (nI (eP g e w))) ∧ xS (g, a, hs, tx, f) mu' ∧ ∀ c, 22 ≤ c → mu' c = mu c)
  refine rn_aload_n 1 dX8_edge_0 rfl rfl rfl ?_
  refine rn_get 4 (.ref 1) dX8_edge_1 fl_X8_10 rfl rfl rfl rfl ?_
  refine rn_iload_n 5 dX8_edge_4 rfl rfl rfl ?_
  refine rn_cvp mX2_has [.int (nI e)] [] 8 (.int 1) dX8_edge_5 cv_X8_96 rfl rfl rfl (by simp [Value.category]) rfl (c_has_t (d + 1) h hg he) ?_
  refine rn_if_eq 20 11 dX8_edge_8 (by decide) rfl (fun c8 => absurd c8 (by decide)) (fun _ => ?_)
  refine rn_iload_n 12 dX8_edge_11 rfl rfl rfl ?_
  refine rn_if_lt 20 15 dX8_edge_12 (by decide) rfl (fun c12 => absurd c12 (nI_pos (by omega))) (fun _ => ?_)
  refine rn_iload_n 16 dX8_edge_15 rfl rfl rfl ?_
  refine rn_iconst (v := 5) 17 dX8_edge_16 (by decide) rfl ?_
  refine rn_icmp_le 23 20 dX8_edge_17 (by decide) rfl (fun _ => ?_) (fun c17 => absurd (nI_le (b := 5) (by omega) (by omega)) c17)
  refine rn_iload_n 24 dX8_edge_23 rfl rfl rfl ?_
  refine rn_iconst (v := 5) 25 dX8_edge_24 (by decide) rfl ?_
  refine rn_icmp_ne 42 28 dX8_edge_25 (by decide) rfl (fun _ => ?_) (fun c25 => absurd c25 (fun q => absurd ((nI_eq (b := 5) (by omega) (by omega)).mp q) (by omega)))
  refine rn_aload_n 43 dX8_edge_42 rfl rfl rfl ?_
  refine rn_get 46 (.ref 1) dX8_edge_43 fl_X8_10 rfl rfl rfl rfl ?_
  refine rn_iload_n 47 dX8_edge_46 rfl rfl rfl ?_
  refine rn_iload_n 48 dX8_edge_47 rfl rfl rfl ?_
  refine rn_cvp mX2_part [.int (nI e), .int (nI w)] [] 51 (.int (nI (eP g e w))) dX8_edge_48 cv_X8_103 rfl rfl rfl (by simp [Value.category]) rfl (c_part d h hg he hw) ?_
  exact rn_iret rfl dX8_edge_51 (⟨rfl, hs0, fun _ _ => rfl⟩)

set_option maxRecDepth 100000 in
set_option maxHeartbeats 2000000 in
theorem x_edge_a (d : Nat) {g : List Ed} {a : Nat} {hs : List Sg} {tx : List Nat} {f : Int32} {e : Nat} (he : e < g.length) : XC mX8_edge (d + 1) [.int (nI e), .int 5] (g, a, hs, tx, f) (g, a, hs, tx, f) (.int (if a.testBit e then 1 else 0)) := by
  intro mu h hs0
  obtain ⟨hg, ha, hh, ht, hf⟩ := id hs0
  simp only at hg ha hh ht hf
  refine gd_of rfl (Nat.le_of_ble_eq_true rfl) ?_
  show rn_R none mX8_edge (d + 1) 0 [some (.ref 0), some (.int (nI e)), some (.int 5)] [] mu h (fun r mu' _ => r = some (.int (if a.testBit e then 1 else 0)) ∧ xS (g, a, hs, tx, f) mu' ∧ ∀ c, 22 ≤ c → mu' c = mu c)
  have hp := pw_le hg.1
  have ha2 := ha.2
  have h16 := hg.1
  refine rn_aload_n 1 dX8_edge_0 rfl rfl rfl ?_
  refine rn_get 4 (.ref 1) dX8_edge_1 fl_X8_10 rfl rfl rfl rfl ?_
  refine rn_iload_n 5 dX8_edge_4 rfl rfl rfl ?_
  refine rn_cvp mX2_has [.int (nI e)] [] 8 (.int 1) dX8_edge_5 cv_X8_96 rfl rfl rfl (by simp [Value.category]) rfl (c_has_t (d) h hg he) ?_
  refine rn_if_eq 20 11 dX8_edge_8 (by decide) rfl (fun c8 => absurd c8 (by decide)) (fun _ => ?_)
  refine rn_iload_n 12 dX8_edge_11 rfl rfl rfl ?_
  refine rn_if_lt 20 15 dX8_edge_12 (by decide) rfl (fun c12 => absurd c12 (by decide)) (fun _ => ?_)
  refine rn_iload_n 16 dX8_edge_15 rfl rfl rfl ?_
  refine rn_iconst (v := 5) 17 dX8_edge_16 (by decide) rfl ?_
  refine rn_icmp_le 23 20 dX8_edge_17 (by decide) rfl (fun _ => ?_) (fun c17 => absurd (by decide) c17)
  refine rn_iload_n 24 dX8_edge_23 rfl rfl rfl ?_
  refine rn_iconst (v := 5) 25 dX8_edge_24 (by decide) rfl ?_
  refine rn_icmp_ne 42 28 dX8_edge_25 (by decide) rfl (fun c25 => absurd (rfl) c25) (fun _ => ?_)
  refine rn_aload_n 29 dX8_edge_28 rfl rfl rfl ?_
  refine rn_get 32 (.ref 1) dX8_edge_29 fl_X8_10 rfl rfl rfl rfl ?_
  refine rn_get 35 (.int (mu 1 2)) dX8_edge_32 fl_X8_111 rfl rfl rfl rfl ?_
  refine rn_iload_n 36 dX8_edge_35 rfl rfl rfl ?_
  refine rn_ishr 37 dX8_edge_36 rfl ?_
  refine rn_iconst (v := 1) 38 dX8_edge_37 (by decide) rfl ?_
  refine rn_iand 39 dX8_edge_38 rfl ?_
  refine rn_goto 51 dX8_edge_39 (by decide) ?_
  exact rn_iret rfl dX8_edge_51 (⟨by rw [ha.1, nb_bit (by omega) (by omega)], hs0, fun _ _ => rfl⟩)

set_option maxRecDepth 100000 in
set_option maxHeartbeats 2000000 in
theorem x_clear (d : Nat) {g : List Ed} {a : Nat} {hs : List Sg} {tx : List Nat} {f : Int32}  : XC mX8_clear (d + 3) [] (g, a, hs, tx, f) ([], 0, hk hs (g, a), tx, f) (.int (nI g.length)) := by
  intro mu h hs0
  obtain ⟨hg, ha, hh, ht, hf⟩ := id hs0
  simp only at hg ha hh ht hf
  refine gd_of rfl (Nat.le_of_ble_eq_true rfl) ?_
  show rn_R none mX8_clear (d + 3) 0 [some (.ref 0), none] [] mu h (fun r mu' _ => r = some (.int (nI g.length)) ∧ xS ([], 0, hk hs (g, a), tx, f) mu' ∧ ∀ c, 22 ≤ c → mu' c = mu c)
  refine rn_aload_n 1 dX8_clear_0 rfl rfl rfl ?_
  refine rn_get 4 (.ref 3) dX8_clear_1 fl_X8_19 rfl rfl rfl rfl ?_
  refine rn_aload_n 5 dX8_clear_4 rfl rfl rfl ?_
  refine rn_get 8 (.ref 1) dX8_clear_5 fl_X8_10 rfl rfl rfl rfl ?_
  refine rn_callV mX4_keep [.ref 1] [] dX8_clear_8 cv_X8_85 rfl rfl rfl (by simp [Value.category]) (c_keep (d) h hg ha hh) (fun r1 m1 h1 q1 _ => ?_)
  obtain ⟨e1, -, hh1, fr1⟩ := q1
  subst e1
  have hs1 := xS_kept hs0 hh1 fr1
  obtain ⟨hg1, ha1, -, ht1, hf1⟩ := id hs1
  simp only at hg1 ha1 ht1 hf1
  show rn_R _ mX8_clear _ 11 [some (.ref 0), none] [] m1 h1 _
  refine rn_aload_n 12 dX8_clear_11 rfl rfl rfl ?_
  refine rn_get 15 (.ref 1) dX8_clear_12 fl_X8_10 rfl rfl rfl rfl ?_
  refine rn_get 18 (.int (m1 1 1)) dX8_clear_15 fl_X8_82 rfl rfl rfl rfl ?_
  refine rn_istore_n 19 [some (.ref 0), some (.int (m1 1 1))] dX8_clear_18 rfl rfl (Nat.le_of_ble_eq_true rfl) rfl ?_
  refine rn_aload_n 20 dX8_clear_19 rfl rfl rfl ?_
  refine rn_get 23 (.ref 1) dX8_clear_20 fl_X8_10 rfl rfl rfl rfl ?_
  refine rn_cvm mX2_empty [] [] 26 (none) (mu_s (mu_s m1 1 1 0) 1 2 0) dX8_clear_23 cv_X8_114 rfl rfl rfl (by simp [Value.category]) rfl (c_empty (d + 2) m1 h1) ?_
  refine rn_iload_n 27 dX8_clear_26 rfl rfl rfl ?_
  exact rn_iret rfl dX8_clear_27 (⟨by rw [hg1.2.2.1], xS_g hs1 ⟨by simp, by simp, rfl, by simp⟩ ⟨rfl, by simp⟩ (fun c c1 c2 => by simp [mu_s, mu_r, c1, c2]), fun c hc => by simp [mu_s, mu_r, show c ≠ 1 by omega]; exact fr1 c (by omega) (by omega)⟩)

set_option maxRecDepth 100000 in
set_option maxHeartbeats 2000000 in
theorem x_attack_b (d : Nat) {g : List Ed} {a : Nat} {hs : List Sg} {tx : List Nat} {f : Int32} {v1 v2 : Int32} (hv : ¬ isin v1 g.length) : XC mX8_attack (d + 1) [.int v1, .int v2] (g, a, hs, tx, f) (g, a, hs, tx, f) (.int (-2)) := by
  intro mu h hs0
  obtain ⟨hg, ha, hh, ht, hf⟩ := id hs0
  simp only at hg ha hh ht hf
  refine gd_of rfl (Nat.le_of_ble_eq_true rfl) ?_
  show rn_R none mX8_attack (d + 1) 0 [some (.ref 0), some (.int v1), some (.int v2), none] [] mu h (fun r mu' _ => r = some (.int (-2)) ∧ xS (g, a, hs, tx, f) mu' ∧ ∀ c, 22 ≤ c → mu' c = mu c)
  refine rn_aload_n 1 dX8_attack_0 rfl rfl rfl ?_
  refine rn_get 4 (.ref 1) dX8_attack_1 fl_X8_10 rfl rfl rfl rfl ?_
  refine rn_iload_n 5 dX8_attack_4 rfl rfl rfl ?_
  refine rn_cvp mX2_has [.int v1] [] 8 (.int 0) dX8_attack_5 cv_X8_96 rfl rfl rfl (by simp [Value.category]) rfl (c_has_f (d) h hg hv) ?_
  refine rn_if_ne 14 11 dX8_attack_8 (by decide) rfl (fun c8 => absurd (rfl) c8) (fun _ => ?_)
  refine rn_bipush (v := (-2)) 13 dX8_attack_11 (by decide) rfl ?_
  exact rn_iret rfl dX8_attack_13 (⟨rfl, hs0, fun _ _ => rfl⟩)

set_option maxRecDepth 100000 in
set_option maxHeartbeats 2000000 in
theorem x_attack_s0 (d : Nat) {g : List Ed} {a : Nat} {hs : List Sg} {tx : List Nat} {f : Int32} {e : Nat} (he : e < g.length) (hb : a.testBit e = false) : XC mX8_attack (d + 3) [.int (nI e), .int 0] (g, a, hs, tx, f) (g, a, hs, tx, f) (.int (-3)) := by
  intro mu h hs0
  obtain ⟨hg, ha, hh, ht, hf⟩ := id hs0
  simp only at hg ha hh ht hf
  refine gd_of rfl (Nat.le_of_ble_eq_true rfl) ?_
  show rn_R none mX8_attack (d + 3) 0 [some (.ref 0), some (.int (nI e)), some (.int 0), none] [] mu h (fun r mu' _ => r = some (.int (-3)) ∧ xS (g, a, hs, tx, f) mu' ∧ ∀ c, 22 ≤ c → mu' c = mu c)
  have hp := pw_le hg.1
  have ha2 := ha.2
  have h16 := hg.1
  have hbit := nb_bit (n := a) (e := e) (by omega) (by omega)
  rw [show a.testBit e = false from hb] at hbit
  refine rn_aload_n 1 dX8_attack_0 rfl rfl rfl ?_
  refine rn_get 4 (.ref 1) dX8_attack_1 fl_X8_10 rfl rfl rfl rfl ?_
  refine rn_iload_n 5 dX8_attack_4 rfl rfl rfl ?_
  refine rn_cvp mX2_has [.int (nI e)] [] 8 (.int 1) dX8_attack_5 cv_X8_96 rfl rfl rfl (by simp [Value.category]) rfl (c_has_t (d + 2) h hg he) ?_
  refine rn_if_ne 14 11 dX8_attack_8 (by decide) rfl (fun _ => ?_) (fun c8 => absurd c8 (by decide))
  refine rn_aload_n 15 dX8_attack_14 rfl rfl rfl ?_
  refine rn_get 18 (.ref 1) dX8_attack_15 fl_X8_10 rfl rfl rfl rfl ?_
  refine rn_get 21 (.int (mu 1 2)) dX8_attack_18 fl_X8_111 rfl rfl rfl rfl ?_
  refine rn_iload_n 22 dX8_attack_21 rfl rfl rfl ?_
  refine rn_ishr 23 dX8_attack_22 rfl ?_
  refine rn_iconst (v := 1) 24 dX8_attack_23 (by decide) rfl ?_
  refine rn_iand 25 dX8_attack_24 rfl ?_
  rw [ha.1, hbit]
  refine rn_if_eq 32 28 dX8_attack_25 (by decide) rfl (fun _ => ?_) (fun c25 => absurd (rfl) c25)
  refine rn_iconst (v := 0) 33 dX8_attack_32 (by decide) rfl ?_
  refine rn_istore_n 34 [some (.ref 0), some (.int (nI e)), some (.int 0), some (.int 0)] dX8_attack_33 rfl rfl (Nat.le_of_ble_eq_true rfl) rfl ?_
  refine rn_iload_n 35 dX8_attack_34 rfl rfl rfl ?_
  refine rn_iload_n 36 dX8_attack_35 rfl rfl rfl ?_
  refine rn_icmp_ne 42 39 dX8_attack_36 (by decide) rfl (fun c36 => absurd (rfl) c36) (fun _ => ?_)
  refine rn_bipush (v := (-3)) 41 dX8_attack_39 (by decide) rfl ?_
  exact rn_iret rfl dX8_attack_41 (⟨rfl, hs0, fun _ _ => rfl⟩)

set_option maxRecDepth 100000 in
set_option maxHeartbeats 2000000 in
theorem x_attack_t0 (d : Nat) {g : List Ed} {a : Nat} {hs : List Sg} {tx : List Nat} {f : Int32} {e : Nat} (he : e < g.length) (hb : a.testBit e = true) : XC mX8_attack (d + 3) [.int (nI e), .int 0] (g, a, hs, tx, f) (g, a ^^^ 2 ^ e, hk hs (g, a), tx, f) (.int (nI (cS g (a ^^^ 2 ^ e) g.length))) := by
  intro mu h hs0
  obtain ⟨hg, ha, hh, ht, hf⟩ := id hs0
  simp only at hg ha hh ht hf
  refine gd_of rfl (Nat.le_of_ble_eq_true rfl) ?_
  show rn_R none mX8_attack (d + 3) 0 [some (.ref 0), some (.int (nI e)), some (.int 0), none] [] mu h (fun r mu' _ => r = some (.int (nI (cS g (a ^^^ 2 ^ e) g.length))) ∧ xS (g, a ^^^ 2 ^ e, hk hs (g, a), tx, f) mu' ∧ ∀ c, 22 ≤ c → mu' c = mu c)
  have hp := pw_le hg.1
  have ha2 := ha.2
  have h16 := hg.1
  have hbit := nb_bit (n := a) (e := e) (by omega) (by omega)
  rw [show a.testBit e = true from hb] at hbit
  have hlt : a ^^^ 2 ^ e < 2 ^ g.length := Nat.xor_lt_two_pow ha.2 (Nat.pow_lt_pow_right (by omega) he)
  refine rn_aload_n 1 dX8_attack_0 rfl rfl rfl ?_
  refine rn_get 4 (.ref 1) dX8_attack_1 fl_X8_10 rfl rfl rfl rfl ?_
  refine rn_iload_n 5 dX8_attack_4 rfl rfl rfl ?_
  refine rn_cvp mX2_has [.int (nI e)] [] 8 (.int 1) dX8_attack_5 cv_X8_96 rfl rfl rfl (by simp [Value.category]) rfl (c_has_t (d + 2) h hg he) ?_
  refine rn_if_ne 14 11 dX8_attack_8 (by decide) rfl (fun _ => ?_) (fun c8 => absurd c8 (by decide))
  refine rn_aload_n 15 dX8_attack_14 rfl rfl rfl ?_
  refine rn_get 18 (.ref 1) dX8_attack_15 fl_X8_10 rfl rfl rfl rfl ?_
  refine rn_get 21 (.int (mu 1 2)) dX8_attack_18 fl_X8_111 rfl rfl rfl rfl ?_
  refine rn_iload_n 22 dX8_attack_21 rfl rfl rfl ?_
  refine rn_ishr 23 dX8_attack_22 rfl ?_
  refine rn_iconst (v := 1) 24 dX8_attack_23 (by decide) rfl ?_
  refine rn_iand 25 dX8_attack_24 rfl ?_
  rw [ha.1, hbit]
  refine rn_if_eq 32 28 dX8_attack_25 (by decide) rfl (fun c25 => absurd c25 (by decide)) (fun _ => ?_)
  refine rn_iconst (v := 1) 29 dX8_attack_28 (by decide) rfl ?_
  refine rn_goto 33 dX8_attack_29 (by decide) ?_
  refine rn_istore_n 34 [some (.ref 0), some (.int (nI e)), some (.int 0), some (.int 1)] dX8_attack_33 rfl rfl (Nat.le_of_ble_eq_true rfl) rfl ?_
  refine rn_iload_n 35 dX8_attack_34 rfl rfl rfl ?_
  refine rn_iload_n 36 dX8_attack_35 rfl rfl rfl ?_
  refine rn_icmp_ne 42 39 dX8_attack_36 (by decide) rfl (fun _ => ?_) (fun c36 => absurd c36 (by decide))
  refine rn_aload_n 43 dX8_attack_42 rfl rfl rfl ?_
  refine rn_get 46 (.ref 3) dX8_attack_43 fl_X8_19 rfl rfl rfl rfl ?_
  refine rn_aload_n 47 dX8_attack_46 rfl rfl rfl ?_
  refine rn_get 50 (.ref 1) dX8_attack_47 fl_X8_10 rfl rfl rfl rfl ?_
  refine rn_callV mX4_keep [.ref 1] [] dX8_attack_50 cv_X8_85 rfl rfl rfl (by simp [Value.category]) (c_keep (d) h hg ha hh) (fun r1 m1 h1 q1 _ => ?_)
  obtain ⟨e1, -, hh1, fr1⟩ := q1
  subst e1
  have hs1 := xS_kept hs0 hh1 fr1
  obtain ⟨hg1, ha1, -, ht1, hf1⟩ := id hs1
  simp only at hg1 ha1 ht1 hf1
  show rn_R _ mX8_attack _ 53 [some (.ref 0), some (.int (nI e)), some (.int 0), some (.int 1)] [] m1 h1 _
  refine rn_aload_n 54 dX8_attack_53 rfl rfl rfl ?_
  refine rn_get 57 (.ref 1) dX8_attack_54 fl_X8_10 rfl rfl rfl rfl ?_
  refine rn_dup 58 dX8_attack_57 rfl rfl ?_
  refine rn_get 61 (.int (m1 1 2)) dX8_attack_58 fl_X8_111 rfl rfl rfl rfl ?_
  refine rn_iconst (v := 1) 62 dX8_attack_61 (by decide) rfl ?_
  refine rn_iload_n 63 dX8_attack_62 rfl rfl rfl ?_
  refine rn_ishl 64 dX8_attack_63 rfl ?_
  refine rn_ixor 65 dX8_attack_64 rfl ?_
  rw [show m1 1 2 ^^^ (1 <<< (nI e &&& 31)) = nI (a ^^^ 2 ^ e) by rw [ha1.1, nb_1 (by omega), nb_xor]]
  refine rn_put 68 dX8_attack_65 fp_X8_111 rfl rfl rfl rfl rfl ?_
  refine rn_aload_n 69 dX8_attack_68 rfl rfl rfl ?_
  refine rn_get 72 (.ref 1) dX8_attack_69 fl_X8_10 rfl rfl rfl rfl ?_
  refine rn_aload_n 73 dX8_attack_72 rfl rfl rfl ?_
  refine rn_get 76 (.ref 1) dX8_attack_73 fl_X8_10 rfl rfl rfl rfl ?_
  refine rn_get 79 (.int (nI (a ^^^ 2 ^ e))) dX8_attack_76 fl_X8_111 rfl rfl rfl rfl ?_
  refine rn_cvp mX2_costOfSet [.int (nI (a ^^^ 2 ^ e))] [] 82 (.int (nI (cS g (a ^^^ 2 ^ e) g.length))) dX8_attack_79 cv_X8_131 rfl rfl rfl (by simp [Value.category]) rfl (c_costOfSet d h1 (xg_of (mu' := mu_s m1 1 2 (nI (a ^^^ 2 ^ e))) hg1 rfl rfl) (S := a ^^^ 2 ^ e) (by omega)) ?_
  exact rn_iret rfl dX8_attack_82 (⟨rfl, xS_g hs1 (xg_of hg1 rfl rfl) ⟨rfl, hlt⟩ (fun c c1 c2 => by simp [mu_s, mu_r, c1, c2]), fun c hc => by simp [mu_s, mu_r, show c ≠ 1 by omega]; exact fr1 c (by omega) (by omega)⟩)

set_option maxRecDepth 100000 in
set_option maxHeartbeats 2000000 in
theorem x_attack_s1 (d : Nat) {g : List Ed} {a : Nat} {hs : List Sg} {tx : List Nat} {f : Int32} {e : Nat} (he : e < g.length) (hb : a.testBit e = true) : XC mX8_attack (d + 3) [.int (nI e), .int 1] (g, a, hs, tx, f) (g, a, hs, tx, f) (.int (-3)) := by
  intro mu h hs0
  obtain ⟨hg, ha, hh, ht, hf⟩ := id hs0
  simp only at hg ha hh ht hf
  refine gd_of rfl (Nat.le_of_ble_eq_true rfl) ?_
  show rn_R none mX8_attack (d + 3) 0 [some (.ref 0), some (.int (nI e)), some (.int 1), none] [] mu h (fun r mu' _ => r = some (.int (-3)) ∧ xS (g, a, hs, tx, f) mu' ∧ ∀ c, 22 ≤ c → mu' c = mu c)
  have hp := pw_le hg.1
  have ha2 := ha.2
  have h16 := hg.1
  have hbit := nb_bit (n := a) (e := e) (by omega) (by omega)
  rw [show a.testBit e = true from hb] at hbit
  refine rn_aload_n 1 dX8_attack_0 rfl rfl rfl ?_
  refine rn_get 4 (.ref 1) dX8_attack_1 fl_X8_10 rfl rfl rfl rfl ?_
  refine rn_iload_n 5 dX8_attack_4 rfl rfl rfl ?_
  refine rn_cvp mX2_has [.int (nI e)] [] 8 (.int 1) dX8_attack_5 cv_X8_96 rfl rfl rfl (by simp [Value.category]) rfl (c_has_t (d + 2) h hg he) ?_
  refine rn_if_ne 14 11 dX8_attack_8 (by decide) rfl (fun _ => ?_) (fun c8 => absurd c8 (by decide))
  refine rn_aload_n 15 dX8_attack_14 rfl rfl rfl ?_
  refine rn_get 18 (.ref 1) dX8_attack_15 fl_X8_10 rfl rfl rfl rfl ?_
  refine rn_get 21 (.int (mu 1 2)) dX8_attack_18 fl_X8_111 rfl rfl rfl rfl ?_
  refine rn_iload_n 22 dX8_attack_21 rfl rfl rfl ?_
  refine rn_ishr 23 dX8_attack_22 rfl ?_
  refine rn_iconst (v := 1) 24 dX8_attack_23 (by decide) rfl ?_
  refine rn_iand 25 dX8_attack_24 rfl ?_
  rw [ha.1, hbit]
  refine rn_if_eq 32 28 dX8_attack_25 (by decide) rfl (fun c25 => absurd c25 (by decide)) (fun _ => ?_)
  refine rn_iconst (v := 1) 29 dX8_attack_28 (by decide) rfl ?_
  refine rn_goto 33 dX8_attack_29 (by decide) ?_
  refine rn_istore_n 34 [some (.ref 0), some (.int (nI e)), some (.int 1), some (.int 1)] dX8_attack_33 rfl rfl (Nat.le_of_ble_eq_true rfl) rfl ?_
  refine rn_iload_n 35 dX8_attack_34 rfl rfl rfl ?_
  refine rn_iload_n 36 dX8_attack_35 rfl rfl rfl ?_
  refine rn_icmp_ne 42 39 dX8_attack_36 (by decide) rfl (fun c36 => absurd (rfl) c36) (fun _ => ?_)
  refine rn_bipush (v := (-3)) 41 dX8_attack_39 (by decide) rfl ?_
  exact rn_iret rfl dX8_attack_41 (⟨rfl, hs0, fun _ _ => rfl⟩)

set_option maxRecDepth 100000 in
set_option maxHeartbeats 2000000 in
theorem x_attack_t1 (d : Nat) {g : List Ed} {a : Nat} {hs : List Sg} {tx : List Nat} {f : Int32} {e : Nat} (he : e < g.length) (hb : a.testBit e = false) : XC mX8_attack (d + 3) [.int (nI e), .int 1] (g, a, hs, tx, f) (g, a ^^^ 2 ^ e, hk hs (g, a), tx, f) (.int (nI (cS g (a ^^^ 2 ^ e) g.length))) := by
  intro mu h hs0
  obtain ⟨hg, ha, hh, ht, hf⟩ := id hs0
  simp only at hg ha hh ht hf
  refine gd_of rfl (Nat.le_of_ble_eq_true rfl) ?_
  show rn_R none mX8_attack (d + 3) 0 [some (.ref 0), some (.int (nI e)), some (.int 1), none] [] mu h (fun r mu' _ => r = some (.int (nI (cS g (a ^^^ 2 ^ e) g.length))) ∧ xS (g, a ^^^ 2 ^ e, hk hs (g, a), tx, f) mu' ∧ ∀ c, 22 ≤ c → mu' c = mu c)
  have hp := pw_le hg.1
  have ha2 := ha.2
  have h16 := hg.1
  have hbit := nb_bit (n := a) (e := e) (by omega) (by omega)
  rw [show a.testBit e = false from hb] at hbit
  have hlt : a ^^^ 2 ^ e < 2 ^ g.length := Nat.xor_lt_two_pow ha.2 (Nat.pow_lt_pow_right (by omega) he)
  refine rn_aload_n 1 dX8_attack_0 rfl rfl rfl ?_
  refine rn_get 4 (.ref 1) dX8_attack_1 fl_X8_10 rfl rfl rfl rfl ?_
  refine rn_iload_n 5 dX8_attack_4 rfl rfl rfl ?_
  refine rn_cvp mX2_has [.int (nI e)] [] 8 (.int 1) dX8_attack_5 cv_X8_96 rfl rfl rfl (by simp [Value.category]) rfl (c_has_t (d + 2) h hg he) ?_
  refine rn_if_ne 14 11 dX8_attack_8 (by decide) rfl (fun _ => ?_) (fun c8 => absurd c8 (by decide))
  refine rn_aload_n 15 dX8_attack_14 rfl rfl rfl ?_
  refine rn_get 18 (.ref 1) dX8_attack_15 fl_X8_10 rfl rfl rfl rfl ?_
  refine rn_get 21 (.int (mu 1 2)) dX8_attack_18 fl_X8_111 rfl rfl rfl rfl ?_
  refine rn_iload_n 22 dX8_attack_21 rfl rfl rfl ?_
  refine rn_ishr 23 dX8_attack_22 rfl ?_
  refine rn_iconst (v := 1) 24 dX8_attack_23 (by decide) rfl ?_
  refine rn_iand 25 dX8_attack_24 rfl ?_
  rw [ha.1, hbit]
  refine rn_if_eq 32 28 dX8_attack_25 (by decide) rfl (fun _ => ?_) (fun c25 => absurd (rfl) c25)
  refine rn_iconst (v := 0) 33 dX8_attack_32 (by decide) rfl ?_
  refine rn_istore_n 34 [some (.ref 0), some (.int (nI e)), some (.int 1), some (.int 0)] dX8_attack_33 rfl rfl (Nat.le_of_ble_eq_true rfl) rfl ?_
  refine rn_iload_n 35 dX8_attack_34 rfl rfl rfl ?_
  refine rn_iload_n 36 dX8_attack_35 rfl rfl rfl ?_
  refine rn_icmp_ne 42 39 dX8_attack_36 (by decide) rfl (fun _ => ?_) (fun c36 => absurd c36 (by decide))
  refine rn_aload_n 43 dX8_attack_42 rfl rfl rfl ?_
  refine rn_get 46 (.ref 3) dX8_attack_43 fl_X8_19 rfl rfl rfl rfl ?_
  refine rn_aload_n 47 dX8_attack_46 rfl rfl rfl ?_
  refine rn_get 50 (.ref 1) dX8_attack_47 fl_X8_10 rfl rfl rfl rfl ?_
  refine rn_callV mX4_keep [.ref 1] [] dX8_attack_50 cv_X8_85 rfl rfl rfl (by simp [Value.category]) (c_keep (d) h hg ha hh) (fun r1 m1 h1 q1 _ => ?_)
  obtain ⟨e1, -, hh1, fr1⟩ := q1
  subst e1
  have hs1 := xS_kept hs0 hh1 fr1
  obtain ⟨hg1, ha1, -, ht1, hf1⟩ := id hs1
  simp only at hg1 ha1 ht1 hf1
  show rn_R _ mX8_attack _ 53 [some (.ref 0), some (.int (nI e)), some (.int 1), some (.int 0)] [] m1 h1 _
  refine rn_aload_n 54 dX8_attack_53 rfl rfl rfl ?_
  refine rn_get 57 (.ref 1) dX8_attack_54 fl_X8_10 rfl rfl rfl rfl ?_
  refine rn_dup 58 dX8_attack_57 rfl rfl ?_
  refine rn_get 61 (.int (m1 1 2)) dX8_attack_58 fl_X8_111 rfl rfl rfl rfl ?_
  refine rn_iconst (v := 1) 62 dX8_attack_61 (by decide) rfl ?_
  refine rn_iload_n 63 dX8_attack_62 rfl rfl rfl ?_
  refine rn_ishl 64 dX8_attack_63 rfl ?_
  refine rn_ixor 65 dX8_attack_64 rfl ?_
  rw [show m1 1 2 ^^^ (1 <<< (nI e &&& 31)) = nI (a ^^^ 2 ^ e) by rw [ha1.1, nb_1 (by omega), nb_xor]]
  refine rn_put 68 dX8_attack_65 fp_X8_111 rfl rfl rfl rfl rfl ?_
  refine rn_aload_n 69 dX8_attack_68 rfl rfl rfl ?_
  refine rn_get 72 (.ref 1) dX8_attack_69 fl_X8_10 rfl rfl rfl rfl ?_
  refine rn_aload_n 73 dX8_attack_72 rfl rfl rfl ?_
  refine rn_get 76 (.ref 1) dX8_attack_73 fl_X8_10 rfl rfl rfl rfl ?_
  refine rn_get 79 (.int (nI (a ^^^ 2 ^ e))) dX8_attack_76 fl_X8_111 rfl rfl rfl rfl ?_
  refine rn_cvp mX2_costOfSet [.int (nI (a ^^^ 2 ^ e))] [] 82 (.int (nI (cS g (a ^^^ 2 ^ e) g.length))) dX8_attack_79 cv_X8_131 rfl rfl rfl (by simp [Value.category]) rfl (c_costOfSet d h1 (xg_of (mu' := mu_s m1 1 2 (nI (a ^^^ 2 ^ e))) hg1 rfl rfl) (S := a ^^^ 2 ^ e) (by omega)) ?_
  exact rn_iret rfl dX8_attack_82 (⟨rfl, xS_g hs1 (xg_of hg1 rfl rfl) ⟨rfl, hlt⟩ (fun c c1 c2 => by simp [mu_s, mu_r, c1, c2]), fun c hc => by simp [mu_s, mu_r, show c ≠ 1 by omega]; exact fr1 c (by omega) (by omega)⟩)

set_option maxRecDepth 100000 in
set_option maxHeartbeats 2000000 in
theorem x_setAttack_b (d : Nat) {g : List Ed} {a : Nat} {hs : List Sg} {tx : List Nat} {f : Int32} {v : Int32} (hv : ¬ isin v (2 ^ g.length)) : XC mX8_setAttack (d + 2) [.int v] (g, a, hs, tx, f) (g, a, hs, tx, f) (.int (-2)) := by
  intro mu h hs0
  obtain ⟨hg, ha, hh, ht, hf⟩ := id hs0
  simp only at hg ha hh ht hf
  refine gd_of rfl (Nat.le_of_ble_eq_true rfl) ?_
  show rn_R none mX8_setAttack (d + 2) 0 [some (.ref 0), some (.int v)] [] mu h (fun r mu' _ => r = some (.int (-2)) ∧ xS (g, a, hs, tx, f) mu' ∧ ∀ c, 22 ≤ c → mu' c = mu c)
  refine rn_aload_n 1 dX8_setAttack_0 rfl rfl rfl ?_
  refine rn_get 4 (.ref 1) dX8_setAttack_1 fl_X8_10 rfl rfl rfl rfl ?_
  refine rn_iload_n 5 dX8_setAttack_4 rfl rfl rfl ?_
  refine rn_cvp mX2_hasAll [.int v] [] 8 (.int 0) dX8_setAttack_5 cv_X8_134 rfl rfl rfl (by simp [Value.category]) rfl (c_hasAll_f d h hg hv) ?_
  refine rn_if_ne 14 11 dX8_setAttack_8 (by decide) rfl (fun c8 => absurd (rfl) c8) (fun _ => ?_)
  refine rn_bipush (v := (-2)) 13 dX8_setAttack_11 (by decide) rfl ?_
  exact rn_iret rfl dX8_setAttack_13 (⟨rfl, hs0, fun _ _ => rfl⟩)

set_option maxRecDepth 100000 in
set_option maxHeartbeats 2000000 in
theorem x_setAttack_t (d : Nat) {g : List Ed} {a : Nat} {hs : List Sg} {tx : List Nat} {f : Int32} {S : Nat} (hS : S < 2 ^ g.length) : XC mX8_setAttack (d + 3) [.int (nI S)] (g, a, hs, tx, f) (g, S, hk hs (g, a), tx, f) (.int (nI (cS g S g.length))) := by
  intro mu h hs0
  obtain ⟨hg, ha, hh, ht, hf⟩ := id hs0
  simp only at hg ha hh ht hf
  refine gd_of rfl (Nat.le_of_ble_eq_true rfl) ?_
  show rn_R none mX8_setAttack (d + 3) 0 [some (.ref 0), some (.int (nI S))] [] mu h (fun r mu' _ => r = some (.int (nI (cS g S g.length))) ∧ xS (g, S, hk hs (g, a), tx, f) mu' ∧ ∀ c, 22 ≤ c → mu' c = mu c)
  have hp := pw_le hg.1
  refine rn_aload_n 1 dX8_setAttack_0 rfl rfl rfl ?_
  refine rn_get 4 (.ref 1) dX8_setAttack_1 fl_X8_10 rfl rfl rfl rfl ?_
  refine rn_iload_n 5 dX8_setAttack_4 rfl rfl rfl ?_
  refine rn_cvp mX2_hasAll [.int (nI S)] [] 8 (.int 1) dX8_setAttack_5 cv_X8_134 rfl rfl rfl (by simp [Value.category]) rfl (c_hasAll_t (d + 1) h hg hS) ?_
  refine rn_if_ne 14 11 dX8_setAttack_8 (by decide) rfl (fun _ => ?_) (fun c8 => absurd c8 (by decide))
  refine rn_aload_n 15 dX8_setAttack_14 rfl rfl rfl ?_
  refine rn_get 18 (.ref 3) dX8_setAttack_15 fl_X8_19 rfl rfl rfl rfl ?_
  refine rn_aload_n 19 dX8_setAttack_18 rfl rfl rfl ?_
  refine rn_get 22 (.ref 1) dX8_setAttack_19 fl_X8_10 rfl rfl rfl rfl ?_
  refine rn_callV mX4_keep [.ref 1] [] dX8_setAttack_22 cv_X8_85 rfl rfl rfl (by simp [Value.category]) (c_keep (d) h hg ha hh) (fun r1 m1 h1 q1 _ => ?_)
  obtain ⟨e1, -, hh1, fr1⟩ := q1
  subst e1
  have hs1 := xS_kept hs0 hh1 fr1
  obtain ⟨hg1, ha1, -, ht1, hf1⟩ := id hs1
  simp only at hg1 ha1 ht1 hf1
  show rn_R _ mX8_setAttack _ 25 [some (.ref 0), some (.int (nI S))] [] m1 h1 _
  refine rn_aload_n 26 dX8_setAttack_25 rfl rfl rfl ?_
  refine rn_get 29 (.ref 1) dX8_setAttack_26 fl_X8_10 rfl rfl rfl rfl ?_
  refine rn_iload_n 30 dX8_setAttack_29 rfl rfl rfl ?_
  refine rn_put 33 dX8_setAttack_30 fp_X8_111 rfl rfl rfl rfl rfl ?_
  refine rn_aload_n 34 dX8_setAttack_33 rfl rfl rfl ?_
  refine rn_get 37 (.ref 1) dX8_setAttack_34 fl_X8_10 rfl rfl rfl rfl ?_
  refine rn_iload_n 38 dX8_setAttack_37 rfl rfl rfl ?_
  refine rn_cvp mX2_costOfSet [.int (nI S)] [] 41 (.int (nI (cS g S g.length))) dX8_setAttack_38 cv_X8_131 rfl rfl rfl (by simp [Value.category]) rfl (c_costOfSet d h1 (xg_of (mu' := mu_s m1 1 2 (nI S)) hg1 rfl rfl) (S := S) (by omega)) ?_
  exact rn_iret rfl dX8_setAttack_41 (⟨rfl, xS_g hs1 (xg_of hg1 rfl rfl) ⟨rfl, hS⟩ (fun c c1 c2 => by simp [mu_s, mu_r, c1, c2]), fun c hc => by simp [mu_s, mu_r, show c ≠ 1 by omega]; exact fr1 c (by omega) (by omega)⟩)

set_option maxRecDepth 100000 in
set_option maxHeartbeats 2000000 in
theorem x_undo_b (d : Nat) {g : List Ed} {a : Nat} {hs : List Sg} {tx : List Nat} {f : Int32}  : XC mX8_undo (d + 1) [] (g, a, [], tx, f) (g, a, [], tx, f) (.int (-3)) := by
  intro mu h hs0
  obtain ⟨hg, ha, hh, ht, hf⟩ := id hs0
  simp only at hg ha hh ht hf
  refine gd_of rfl (Nat.le_of_ble_eq_true rfl) ?_
  show rn_R none mX8_undo (d + 1) 0 [some (.ref 0)] [] mu h (fun r mu' _ => r = some (.int (-3)) ∧ xS (g, a, [], tx, f) mu' ∧ ∀ c, 22 ≤ c → mu' c = mu c)
  refine rn_aload_n 1 dX8_undo_0 rfl rfl rfl ?_
  refine rn_get 4 (.ref 3) dX8_undo_1 fl_X8_19 rfl rfl rfl rfl ?_
  refine rn_aload_n 5 dX8_undo_4 rfl rfl rfl ?_
  refine rn_get 8 (.ref 1) dX8_undo_5 fl_X8_10 rfl rfl rfl rfl ?_
  refine rn_cvp mX4_bringBack [.ref 1] [] 11 (.int 0) dX8_undo_8 cv_X8_209 rfl rfl rfl (by simp [Value.category]) rfl (c_bringBack_0 d h hh) ?_
  refine rn_if_eq 24 14 dX8_undo_11 (by decide) rfl (fun _ => ?_) (fun c11 => absurd (by decide) c11)
  refine rn_bipush (v := (-3)) 26 dX8_undo_24 (by decide) rfl ?_
  exact rn_iret rfl dX8_undo_26 (⟨rfl, hs0, fun _ _ => rfl⟩)

set_option maxRecDepth 100000 in
set_option maxHeartbeats 2000000 in
theorem x_undo_t (d : Nat) {g : List Ed} {a : Nat} {hs : List Sg} {tx : List Nat} {f : Int32} {x : Sg} : XC mX8_undo (d + 3) [] (g, a, hs ++ [x], tx, f) (x.1, x.2, hs, tx, f) (.int (nI hs.length)) := by
  intro mu h hs0
  obtain ⟨hg, ha, hh, ht, hf⟩ := id hs0
  simp only at hg ha hh ht hf
  refine gd_of rfl (Nat.le_of_ble_eq_true rfl) ?_
  show rn_R none mX8_undo (d + 3) 0 [some (.ref 0)] [] mu h (fun r mu' _ => r = some (.int (nI hs.length)) ∧ xS (x.1, x.2, hs, tx, f) mu' ∧ ∀ c, 22 ≤ c → mu' c = mu c)
  refine rn_aload_n 1 dX8_undo_0 rfl rfl rfl ?_
  refine rn_get 4 (.ref 3) dX8_undo_1 fl_X8_19 rfl rfl rfl rfl ?_
  refine rn_aload_n 5 dX8_undo_4 rfl rfl rfl ?_
  refine rn_get 8 (.ref 1) dX8_undo_5 fl_X8_10 rfl rfl rfl rfl ?_
  refine rn_callV mX4_bringBack [.ref 1] [] dX8_undo_8 cv_X8_209 rfl rfl rfl (by simp [Value.category]) (c_bringBack_1 d h hh) (fun r1 m1 h1 q1 _ => ?_)
  obtain ⟨e1, -, hh1, hg1, ha1, fr1⟩ := q1
  subst e1
  have hh2 : m1 3 2 = nI hs.length := by obtain ⟨_, _, _, _, q, _⟩ := hh1; exact q
  show rn_R _ mX8_undo _ 11 [some (.ref 0)] [.int 1] m1 h1 _
  refine rn_if_eq 24 14 dX8_undo_11 (by decide) rfl (fun c11 => absurd c11 (by decide)) (fun _ => ?_)
  refine rn_aload_n 15 dX8_undo_14 rfl rfl rfl ?_
  refine rn_get 18 (.ref 3) dX8_undo_15 fl_X8_19 rfl rfl rfl rfl ?_
  refine rn_get 21 (.int (m1 3 2)) dX8_undo_18 fl_X8_213 rfl rfl rfl rfl ?_
  refine rn_goto 26 dX8_undo_21 (by decide) ?_
  exact rn_iret rfl dX8_undo_26 (⟨by rw [hh2], ⟨hg1, ha1, hh1, xt_of ht (by rw [fr1 5 (by omega) (by omega) (by omega)]) (fr1 6 (by omega) (by omega) (by omega)), by rw [fr1 0 (by omega) (by omega) (by omega)]; exact hf⟩, fun c hc => fr1 c (by omega) (by omega) (by omega)⟩)
