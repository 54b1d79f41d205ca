/-! THE TEXT: load of the class -/
set_option maxRecDepth 100000 in
set_option maxHeartbeats 2000000 in
theorem c_codeOf (d : Nat) {mu : Nat → Nat → Int32} (h : Int64) {n e : Nat} (h3 : mu 5 3 = nI n) (hn : n ≤ 16) (he : e < n) : gd_G mX6_codeOf d [.ref 5, .int (nI e)] mu h (pq (some (.int (mu 7 e))) mu h) := by
  refine gd_of rfl (Nat.le_of_ble_eq_true rfl) ?_
  show rn_R none mX6_codeOf d 0 [some (.ref 5), some (.int (nI e))] [] mu h (pq (some (.int (mu 7 e))) mu h)
  refine rn_iload_n 1 dX6_codeOf_0 rfl rfl rfl ?_
  refine rn_if_lt 21 4 dX6_codeOf_1 (by decide) rfl (fun c1 => absurd c1 (nI_pos (by omega))) (fun _ => ?_)
  refine rn_iload_n 5 dX6_codeOf_4 rfl rfl rfl ?_
  refine rn_aload_n 6 dX6_codeOf_5 rfl rfl rfl ?_
  refine rn_get 9 (.int (mu 5 3)) dX6_codeOf_6 fl_X6_23 rfl rfl rfl rfl ?_
  refine rn_icmp_ge 21 12 dX6_codeOf_9 (by decide) rfl (fun c9 => absurd c9 (by rw [h3]; exact nI_ge he (by omega))) (fun _ => ?_)
  refine rn_aload_n 13 dX6_codeOf_12 rfl rfl rfl ?_
  refine rn_get 16 (.ref 7) dX6_codeOf_13 fl_X6_15 rfl rfl rfl rfl ?_
  refine rn_iload_n 17 dX6_codeOf_16 rfl rfl rfl ?_
  refine rn_iald 18 (mu 7 e) dX6_codeOf_17 rfl (vp_in_nI (by omega) (by omega)) (congrArg (mu 7) (nI_clamp (by omega))) rfl ?_
  refine rn_goto 22 dX6_codeOf_18 (by decide) ?_
  exact rn_iret rfl dX6_codeOf_22 (⟨rfl, rfl, rfl⟩)

set_option maxRecDepth 100000 in
set_option maxHeartbeats 2000000 in
theorem lp_load (d : Nat) {es : List Ed} (mB : Nat → Nat → Int32) (hes : es.length ≤ 16) (hok : ∀ x ∈ es, e_ok x) (h53 : mB 5 3 = nI es.length) (hrow : ∀ (i : Nat) (x : Ed), es[i]? = some x → mB 7 i = pkx x) : ∀ (k e : Nat) (mu : Nat → Nat → Int32) (h : Int64), e + k = es.length → xg (es.take e) mu → mu 1 2 = 0 → (∀ c, c ≠ 1 → c ≠ 2 → mu c = mB c) → rn_R none mX8_load (d + 1) 34 [some (.ref 0), some (.int (nI e))] [] mu h (fun r mu' _ => r = some (.int (nI es.length)) ∧ xg es mu' ∧ mu' 1 2 = 0 ∧ mu' 5 2 = 0 ∧ (∀ c, c ≠ 1 → c ≠ 2 → c ≠ 5 → mu' c = mB c)) := by
  intro k
  induction k with
  | zero =>
    intro e mu h hek hg h12 hfr
    have f5 := hfr 5 (by omega) (by omega)
    refine rn_iload_n 35 dX8_load_34 rfl rfl rfl ?_
    refine rn_aload_n 36 dX8_load_35 rfl rfl rfl ?_
    refine rn_get 39 (.ref 5) dX8_load_36 fl_X8_26 rfl rfl rfl rfl ?_
    refine rn_get 42 (.int (mu 5 3)) dX8_load_39 fl_X8_124 rfl rfl rfl rfl ?_
    refine rn_icmp_ge 66 45 dX8_load_42 (by decide) rfl (fun _ => ?_) (fun c42 => absurd (by rw [f5, h53]; exact nI_le (by omega) (by omega)) c42)
    refine rn_aload_n 67 dX8_load_66 rfl rfl rfl ?_
    refine rn_get 70 (.ref 5) dX8_load_67 fl_X8_26 rfl rfl rfl rfl ?_
    refine rn_iconst (v := 0) 71 dX8_load_70 (by decide) rfl ?_
    refine rn_put 74 dX8_load_71 fp_X8_119 rfl rfl rfl rfl rfl ?_
    refine rn_aload_n 75 dX8_load_74 rfl rfl rfl ?_
    refine rn_get 78 (.ref 1) dX8_load_75 fl_X8_10 rfl rfl rfl rfl ?_
    refine rn_get 81 (.int (mu 1 1)) dX8_load_78 fl_X8_82 rfl rfl rfl rfl ?_
    exact rn_iret rfl dX8_load_81 (⟨by rw [hg.2.2.1, List.take_of_length_le (by omega)], by rw [List.take_of_length_le (by omega)] at hg; exact xg_of hg rfl rfl, h12, rfl, fun c c1 c2 c5 => by simp [mu_s, c5]; exact hfr c c1 c2⟩)
  | succ k ih =>
    intro e mu h hek hg h12 hfr
    have f5 := hfr 5 (by omega) (by omega)
    have f7 := hfr 7 (by omega) (by omega)
    have hlt : e < es.length := by omega
    obtain ⟨x, hx⟩ : ∃ x, es[e]? = some x := ⟨es[e], List.getElem?_eq_getElem hlt⟩
    have htk : (es.take e).length = e := by simp; omega
    have hcd := c_codeOf d (mu := mu) h (n := es.length) (e := e) (by rw [f5]; exact h53) hes hlt
    rw [show mu 7 e = pkx x by rw [f7]; exact hrow e x hx] at hcd
    have hap := c_append d h hg (by omega) (pkx x)
    have hgx := xg_app hg (by omega) (hok x (List.mem_of_getElem? hx)) (rfl : pk_ok x (pkx x))
    rw [htk] at hap hgx
    have hts : es.take e ++ [x] = es.take (e + 1) := by rw [List.take_succ, hx]; rfl
    rw [hts] at hgx
    refine rn_iload_n 35 dX8_load_34 rfl rfl rfl ?_
    refine rn_aload_n 36 dX8_load_35 rfl rfl rfl ?_
    refine rn_get 39 (.ref 5) dX8_load_36 fl_X8_26 rfl rfl rfl rfl ?_
    refine rn_get 42 (.int (mu 5 3)) dX8_load_39 fl_X8_124 rfl rfl rfl rfl ?_
    refine rn_icmp_ge 66 45 dX8_load_42 (by decide) rfl (fun c42 => absurd c42 (by rw [f5, h53]; exact nI_ge hlt (by omega))) (fun _ => ?_)
    refine rn_aload_n 46 dX8_load_45 rfl rfl rfl ?_
    refine rn_get 49 (.ref 1) dX8_load_46 fl_X8_10 rfl rfl rfl rfl ?_
    refine rn_aload_n 50 dX8_load_49 rfl rfl rfl ?_
    refine rn_get 53 (.ref 5) dX8_load_50 fl_X8_26 rfl rfl rfl rfl ?_
    refine rn_iload_n 54 dX8_load_53 rfl rfl rfl ?_
    refine rn_cvp mX6_codeOf [.int (nI e)] [.ref 1] 57 (.int (pkx x)) dX8_load_54 cv_X8_127 rfl rfl rfl (by simp [Value.category]) rfl (hcd) ?_
    refine rn_cvm mX2_append [.int (pkx x)] [] 60 (none) (mu_s (mu_s mu 2 e (pkx x)) 1 1 (nI (e + 1))) dX8_load_57 cv_X8_92 rfl rfl rfl (by simp [Value.category]) rfl (hap) ?_
    refine rn_iinc (v := (nI (e + 1))) 63 [some (.ref 0), some (.int (nI (e + 1)))] dX8_load_60 rfl (nI_1 _) rfl rfl ?_
    refine rn_goto 34 dX8_load_63 (by decide) ?_
    exact ih (e + 1) _ h (by omega) hgx h12 (fun c c1 c2 => by simp [mu_s, c1, c2]; exact hfr c c1 c2)

set_option maxRecDepth 100000 in
set_option maxHeartbeats 2000000 in
theorem x_load_t (d : Nat) {g : List Ed} {a : Nat} {hs : List Sg} {tx : List Nat} {f : Int32} (hq : (scT tx).1 = none) : XC mX8_load (d + 8) [] (g, a, hs, tx, f) ((scT tx).2, 0, hk hs (g, a), [], f) (.int (nI (scT tx).2.length)) := by
  intro mu h hs0
  obtain ⟨hg, ha, hh, ht, hf⟩ := id hs0
  simp only at hg ha hh ht hf
  refine gd_of rfl (Nat.le_of_ble_eq_true rfl) ?_
  show rn_R none mX8_load (d + 8) 0 [some (.ref 0), none] [] mu h (fun r mu' _ => r = some (.int (nI (scT tx).2.length)) ∧ xS ((scT tx).2, 0, hk hs (g, a), [], f) mu' ∧ ∀ c, 22 ≤ c → mu' c = mu c)
  have hso := scF_ok (tx := tx) 17 (sk tx 0) [] (sk_le (Nat.zero_le _)).2 (by simp) (by simp)
  refine rn_aload_n 1 dX8_load_0 rfl rfl rfl ?_
  refine rn_get 4 (.ref 5) dX8_load_1 fl_X8_26 rfl rfl rfl rfl ?_
  refine rn_callV mX6_scan [] [] dX8_load_4 cv_X8_120 rfl rfl rfl (by simp [Value.category]) (c_scan (d) h ht) (fun r0 m0 h0 q0 _ => ?_)
  obtain ⟨e0, fr0, s52, s53, srow⟩ := q0
  subst e0
  have hs0_ := xS_x hs0 fr0 s52
  show rn_R _ mX8_load _ 7 [some (.ref 0), none] [.int (oI (scT tx).1)] m0 h0 _
  refine rn_iconst (v := (-1)) 8 dX8_load_7 (by decide) rfl ?_
  refine rn_icmp_eq 14 11 dX8_load_8 (by decide) rfl (fun _ => ?_) (fun c8 => absurd (by rw [hq]; rfl) c8)
  refine rn_aload_n 15 dX8_load_14 rfl rfl rfl ?_
  refine rn_get 18 (.ref 3) dX8_load_15 fl_X8_19 rfl rfl rfl rfl ?_
  refine rn_aload_n 19 dX8_load_18 rfl rfl rfl ?_
  refine rn_get 22 (.ref 1) dX8_load_19 fl_X8_10 rfl rfl rfl rfl ?_
  obtain ⟨hg0, ha0, hh0, ht0, hf0⟩ := id hs0_
  simp only at hg0 ha0 hh0 ht0 hf0
  refine rn_callV mX4_keep [.ref 1] [] dX8_load_22 cv_X8_85 rfl rfl rfl (by simp [Value.category]) (c_keep (d + 5) h0 hg0 ha0 hh0) (fun r1 m1 h1 q1 _ => ?_)
  obtain ⟨e1, -, hh1, fr1⟩ := q1
  subst e1
  have hs1 := xS_kept hs0_ hh1 fr1
  obtain ⟨hg1, ha1, -, ht1, hf1⟩ := id hs1
  simp only at hg1 ha1 ht1 hf1
  show rn_R _ mX8_load _ 25 [some (.ref 0), none] [] m1 h1 _
  refine rn_aload_n 26 dX8_load_25 rfl rfl rfl ?_
  refine rn_get 29 (.ref 1) dX8_load_26 fl_X8_10 rfl rfl rfl rfl ?_
  refine rn_cvm mX2_empty [] [] 32 (none) (mu_s (mu_s m1 1 1 0) 1 2 0) dX8_load_29 cv_X8_114 rfl rfl rfl (by simp [Value.category]) rfl (c_empty (d + 7) m1 h1) ?_
  refine rn_iconst (v := 0) 33 dX8_load_32 (by decide) rfl ?_
  refine rn_istore_n 34 [some (.ref 0), some (.int 0)] dX8_load_33 rfl rfl (Nat.le_of_ble_eq_true rfl) rfl ?_
  refine rn_mono (lp_load (d + 7) (es := (scT tx).2) m1 hso.1 hso.2 (by rw [fr1 5 (by omega) (by omega)]; exact s53) (by rw [fr1 7 (by omega) (by omega)]; exact srow) (scT tx).2.length 0 (mu_s (mu_s m1 1 1 0) 1 2 0) h1 (by omega) ⟨by simp, by simp, rfl, by simp⟩ rfl (fun c c1 c2 => by simp [mu_s, c1])) ?_
  rintro r m2 h2 ⟨rfl, z1, z2, z3, z4⟩
  refine ⟨rfl, ⟨z1, ⟨z2, pw_pos _⟩, xh_of hh1 (z4 3 (by omega) (by omega) (by omega)) (z4 4 (by omega) (by omega) (by omega)), ⟨by simp, z3, by simp, by simp⟩, by rw [z4 0 (by omega) (by omega) (by omega)]; exact hf1⟩, fun c hc => ?_⟩
  rw [z4 c (by omega) (by omega) (by omega), fr1 c (by omega) (by omega), fr0 c (by omega) (by omega)]
