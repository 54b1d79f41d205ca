/-! THE TEXT: fault and load of the reference; both sides -/
theorem mS_x {s : Sx} {mu mu' : Nat → Nat → Int32} (h : mS s mu) (fr : ∀ c, c ≠ 22 → c ≠ 26 → mu' c = mu c) (fr2 : ∀ j, j ≠ 7 → j ≠ 8 → j ≠ 9 → mu' 22 j = mu 22 j) : mS s mu' := by
  obtain ⟨h1, h2, h3, h4, h5⟩ := h
  have e3 := fr 23 (by omega) (by omega)
  exact ⟨mg_of h1 e3, ⟨by rw [e3]; exact h2.1, h2.2⟩, mh_of h3 (fr2 2 (by omega) (by omega) (by omega)) (fr 24 (by omega) (by omega)), mt_of h4 (fr2 5 (by omega) (by omega) (by omega)) (fr 25 (by omega) (by omega)), by rw [fr2 3 (by omega) (by omega) (by omega)]; exact h5⟩

theorem gd_mono {y : ym_T} {d : Nat} {av : List Value} {mu : Nat → Nat → Int32} {h : Int64} {Q Q' : rn_Q} (k : gd_G y d av mu h Q) (hQ : ∀ r m2 h2, Q r m2 h2 → Q' r m2 h2) : gd_G y d av mu h Q' := by
  intro l dC dI ad ca sz
  have z := k l dC dI ad ca sz
  intro p e ha hc hk s m args below hf hsp hP hK
  obtain ⟨w, oc, h1, h2, h3, ⟨⟨r, m2, h4, q1, q2, q3, q4⟩, h5⟩, h6⟩ := z p e ha hc hk s m args below hf hsp hP hK
  exact ⟨w, oc, h1, h2, h3, ⟨⟨r, m2, h4, q1, hQ _ _ _ q2, q3, q4⟩, h5⟩, h6⟩

set_option maxRecDepth 100000 in
set_option maxHeartbeats 2000000 in
theorem c_mfault (d : Nat) {tx : List Nat} {mu : Nat → Nat → Int32} (h : Int64) (ht : mt tx mu) : gd_G mX9_fault (d + 5) [.ref 22] mu h (QM mu (scT tx)) := by
  refine gd_of rfl (Nat.le_of_ble_eq_true rfl) ?_
  show rn_R none mX9_fault (d + 5) 0 [some (.ref 22)] [] mu h (QM mu (scT tx))
  have F0 : FM tx mu (sk tx 0) 1 0 (mu_s (mu_s (mu_s (mu_s mu 22 8 0) 22 7 0) 22 9 1) 22 8 (nI (sk tx 0))) := ⟨mt_of (mu' := mu_s (mu_s (mu_s (mu_s mu 22 8 0) 22 7 0) 22 9 1) 22 8 (nI (sk tx 0))) ht rfl rfl, rfl, rfl, rfl, fun c c1 _ => by simp [mu_s, c1], fun j j7 j8 j9 => by simp [mu_s, upd, j7, j8, j9]⟩
  refine rn_aload_n 1 dX9_fault_0 rfl rfl rfl ?_
  refine rn_iconst (v := 0) 2 dX9_fault_1 (by decide) rfl ?_
  refine rn_put 5 dX9_fault_2 fp_X9_73 rfl rfl rfl rfl rfl ?_
  refine rn_aload_n 6 dX9_fault_5 rfl rfl rfl ?_
  refine rn_iconst (v := 0) 7 dX9_fault_6 (by decide) rfl ?_
  refine rn_put 10 dX9_fault_7 fp_X9_98 rfl rfl rfl rfl rfl ?_
  refine rn_aload_n 11 dX9_fault_10 rfl rfl rfl ?_
  refine rn_iconst (v := 1) 12 dX9_fault_11 (by decide) rfl ?_
  refine rn_put 15 dX9_fault_12 fp_X9_83 rfl rfl rfl rfl rfl ?_
  refine rn_aload_n 16 dX9_fault_15 rfl rfl rfl ?_
  refine rn_cvm mX9_blanks [] [] 19 (none) (mu_s (mu_s (mu_s (mu_s mu 22 8 0) 22 7 0) 22 9 1) 22 8 (nI (sk tx 0))) dX9_fault_16 cv_X9_76 rfl rfl rfl (by simp [Value.category]) rfl (c_blanks (d + 3) (mu := mu_s (mu_s (mu_s mu 22 8 0) 22 7 0) 22 9 1) h (mt_of (mu' := mu_s (mu_s (mu_s mu 22 8 0) 22 7 0) 22 9 1) ht rfl rfl) (p := 0) rfl (Nat.zero_le _)) ?_
  exact lp_mfault d mu 16 0 (sk tx 0) [] (mu_s (mu_s (mu_s (mu_s mu 22 8 0) 22 7 0) 22 9 1) 22 8 (nI (sk tx 0))) h (by omega) rfl (sk_le (Nat.zero_le _)).2 (sk_sk (Nat.zero_le _)) F0 (fun i x hx => by simp at hx)

set_option maxRecDepth 100000 in
theorem m_fault (d : Nat) {g : List Ed} {a : Nat} {hs : List Sg} {tx : List Nat} {f : Int32} : MC mX9_fault (d + 5) [] (g, a, hs, tx, f) (g, a, hs, tx, f) (.int (oI (scT tx).1)) := by
  intro mu h hs0
  have ht : mt tx mu := hs0.2.2.2.1
  refine gd_mono (c_mfault d h ht) ?_
  rintro r m2 h2 ⟨rfl, z1, z2, -⟩
  exact ⟨rfl, mS_x hs0 z1 z2, fun c hc => z1 c (by omega) (by omega)⟩

set_option maxRecDepth 100000 in
set_option maxHeartbeats 2000000 in
theorem m_load_b (d : Nat) {g : List Ed} {a : Nat} {hs : List Sg} {tx : List Nat} {f : Int32} {q : Nat} (hq : (scT tx).1 = some q) (hb : q < 2 ^ 31) : MC mX9_load (d + 6) [] (g, a, hs, tx, f) (g, a, hs, tx, f) (.int (-3)) := by
  intro mu h hs0
  obtain ⟨hg, ha, hh, ht, hf⟩ := id hs0
  simp only at hg ha hh ht hf
  refine gd_of rfl (Nat.le_of_ble_eq_true rfl) ?_
  show rn_R none mX9_load (d + 6) 0 [some (.ref 22), none] [] mu h (fun r mu' _ => r = some (.int (-3)) ∧ mS (g, a, hs, tx, f) mu' ∧ ∀ c, c < 22 → mu' c = mu c)
  refine rn_aload_n 1 dX9_load_0 rfl rfl rfl ?_
  refine rn_callV mX9_fault [] [] dX9_load_1 cv_X9_115 rfl rfl rfl (by simp [Value.category]) (c_mfault (d) h ht) (fun r0 m0 h0 q0 _ => ?_)
  obtain ⟨e0, fr0, fr0b, srow⟩ := q0
  subst e0
  have hs0_ := mS_x hs0 fr0 fr0b
  show rn_R _ mX9_load _ 4 [some (.ref 22), none] [.int (oI (scT tx).1)] m0 h0 _
  refine rn_iconst (v := (-1)) 5 dX9_load_4 (by decide) rfl ?_
  refine rn_icmp_eq 11 8 dX9_load_5 (by decide) rfl (fun c5 => absurd c5 (by rw [hq]; exact fun z => absurd (by rw [show nI q = -1 from z]; decide) (nI_pos hb))) (fun _ => ?_)
  refine rn_bipush (v := (-3)) 10 dX9_load_8 (by decide) rfl ?_
  exact rn_iret rfl dX9_load_10 (⟨rfl, hs0_, fun c hc => fr0 c (by omega) (by omega)⟩)

set_option maxRecDepth 100000 in
set_option maxHeartbeats 2000000 in
theorem lp_mload (d : Nat) {mu : Nat → Nat → Int32} (h : Int64) {n : Nat} (hn : n ≤ 16) (h7 : mu 22 7 = nI n) : ∀ (k e : Nat), e + k = 5 * n → rn_R none mX9_load d 17 [some (.ref 22), some (.int (nI e))] [] (mu_r mu 23 (cpm (mu 26) (mu 23) 0 0 e)) h (pq (some (.int (nI n))) (mu_s (mu_s (mu_s (mu_r mu 23 (cpm (mu 26) (mu 23) 0 0 (5 * n))) 23 80 (nI n)) 23 81 0) 22 5 0) h) := by
  intro k
  induction k with
  | zero =>
    intro e hek
    refine rn_iload_n 18 dX9_load_17 rfl rfl rfl ?_
    refine rn_iconst (v := 5) 19 dX9_load_18 (by decide) rfl ?_
    refine rn_aload_n 20 dX9_load_19 rfl rfl rfl ?_
    refine rn_get 23 (.int (mu 22 7)) dX9_load_20 fl_X9_98 rfl rfl rfl rfl ?_
    refine rn_imul 24 dX9_load_23 rfl ?_
    rw [show 5 * mu 22 7 = nI (5 * n) by rw [h7, show (5 : Int32) = nI 5 from rfl, pk_mul]]
    refine rn_icmp_ge 45 27 dX9_load_24 (by decide) rfl (fun _ => ?_) (fun c24 => absurd (nI_le (by omega) (by omega)) c24)
    refine rn_aload_n 46 dX9_load_45 rfl rfl rfl ?_
    refine rn_get 49 (.ref 23) dX9_load_46 fl_X9_7 rfl rfl rfl rfl ?_
    refine rn_bipush (v := 80) 51 dX9_load_49 (by decide) rfl ?_
    refine rn_aload_n 52 dX9_load_51 rfl rfl rfl ?_
    refine rn_get 55 (.int (mu 22 7)) dX9_load_52 fl_X9_98 rfl rfl rfl rfl ?_
    rw [h7]
    refine rn_iast 56 dX9_load_55 rfl (vp_in_nI (n := 80) (by decide) (by decide)) rfl ?_
    rw [show (80 : Int32).toNatClampNeg = 80 from rfl]
    refine rn_aload_n 57 dX9_load_56 rfl rfl rfl ?_
    refine rn_get 60 (.ref 23) dX9_load_57 fl_X9_7 rfl rfl rfl rfl ?_
    refine rn_bipush (v := 81) 62 dX9_load_60 (by decide) rfl ?_
    refine rn_iconst (v := 0) 63 dX9_load_62 (by decide) rfl ?_
    refine rn_iast 64 dX9_load_63 rfl (vp_in_nI (n := 81) (by decide) (by decide)) rfl ?_
    rw [show (81 : Int32).toNatClampNeg = 81 from rfl]
    refine rn_aload_n 65 dX9_load_64 rfl rfl rfl ?_
    refine rn_iconst (v := 0) 66 dX9_load_65 (by decide) rfl ?_
    refine rn_put 69 dX9_load_66 fp_X9_70 rfl rfl rfl rfl rfl ?_
    refine rn_aload_n 70 dX9_load_69 rfl rfl rfl ?_
    refine rn_get 73 (.int (mu 22 7)) dX9_load_70 fl_X9_98 rfl rfl rfl rfl ?_
    exact rn_iret rfl dX9_load_73 (⟨by rw [show mu 22 7 = nI n from h7], by rw [show e = 5 * n by omega], rfl⟩)
  | succ k ih =>
    intro e hek
    refine rn_iload_n 18 dX9_load_17 rfl rfl rfl ?_
    refine rn_iconst (v := 5) 19 dX9_load_18 (by decide) rfl ?_
    refine rn_aload_n 20 dX9_load_19 rfl rfl rfl ?_
    refine rn_get 23 (.int (mu 22 7)) dX9_load_20 fl_X9_98 rfl rfl rfl rfl ?_
    refine rn_imul 24 dX9_load_23 rfl ?_
    rw [show 5 * mu 22 7 = nI (5 * n) by rw [h7, show (5 : Int32) = nI 5 from rfl, pk_mul]]
    refine rn_icmp_ge 45 27 dX9_load_24 (by decide) rfl (fun c24 => absurd c24 (nI_ge (by omega) (by omega))) (fun _ => ?_)
    refine rn_aload_n 28 dX9_load_27 rfl rfl rfl ?_
    refine rn_get 31 (.ref 23) dX9_load_28 fl_X9_7 rfl rfl rfl rfl ?_
    refine rn_iload_n 32 dX9_load_31 rfl rfl rfl ?_
    refine rn_aload_n 33 dX9_load_32 rfl rfl rfl ?_
    refine rn_get 36 (.ref 26) dX9_load_33 fl_X9_23 rfl rfl rfl rfl ?_
    refine rn_iload_n 37 dX9_load_36 rfl rfl rfl ?_
    refine rn_iald 38 (mu 26 e) dX9_load_37 rfl (vp_in_nI (by omega) (by omega)) (congrArg (mu 26) (nI_clamp (by omega))) rfl ?_
    refine rn_iast 39 dX9_load_38 rfl (vp_in_nI (by omega) (by omega)) rfl ?_
    rw [nI_clamp (by omega), mu_rs]
    have ec := cpm_1 (mu 26) (mu 23) 0 0 e
    rw [Nat.zero_add] at ec
    rw [ec]
    refine rn_iinc (v := (nI (e + 1))) 42 [some (.ref 22), some (.int (nI (e + 1)))] dX9_load_39 rfl (nI_1 _) rfl rfl ?_
    refine rn_goto 17 dX9_load_42 (by decide) ?_
    exact ih (e + 1) (by omega)

set_option maxRecDepth 100000 in
set_option maxHeartbeats 2000000 in
theorem m_load_t (d : Nat) {g : List Ed} {a : Nat} {hs : List Sg} {tx : List Nat} {f : Int32} (hq : (scT tx).1 = none) : MC mX9_load (d + 6) [] (g, a, hs, tx, f) ((scT tx).2, 0, hk hs (g, a), [], f) (.int (nI (scT tx).2.length)) := by
  intro mu h hs0
  obtain ⟨hg, ha, hh, ht, hf⟩ := id hs0
  simp only at hg ha hh ht hf
  refine gd_of rfl (Nat.le_of_ble_eq_true rfl) ?_
  show rn_R none mX9_load (d + 6) 0 [some (.ref 22), none] [] mu h (fun r mu' _ => r = some (.int (nI (scT tx).2.length)) ∧ mS ((scT tx).2, 0, hk hs (g, a), [], f) mu' ∧ ∀ c, c < 22 → mu' c = mu c)
  have hso := scF_ok (tx := tx) 17 (sk tx 0) [] (sk_le (Nat.zero_le _)).2 (by simp) (by simp)
  refine rn_aload_n 1 dX9_load_0 rfl rfl rfl ?_
  refine rn_callV mX9_fault [] [] dX9_load_1 cv_X9_115 rfl rfl rfl (by simp [Value.category]) (c_mfault (d) h ht) (fun r0 m0 h0 q0 _ => ?_)
  obtain ⟨e0, fr0, fr0b, srow⟩ := q0
  subst e0
  have hs0_ := mS_x hs0 fr0 fr0b
  show rn_R _ mX9_load _ 4 [some (.ref 22), none] [.int (oI (scT tx).1)] m0 h0 _
  refine rn_iconst (v := (-1)) 5 dX9_load_4 (by decide) rfl ?_
  refine rn_icmp_eq 11 8 dX9_load_5 (by decide) rfl (fun _ => ?_) (fun c5 => absurd (by rw [hq]; rfl) c5)
  refine rn_aload_n 12 dX9_load_11 rfl rfl rfl ?_
  obtain ⟨hg0, ha0, hh0, ht0, hf0⟩ := id hs0_
  simp only at hg0 ha0 hh0 ht0 hf0
  have srow := srow hq
  refine rn_callV mX9_keeps [] [] dX9_load_12 cv_X9_59 rfl rfl rfl (by simp [Value.category]) (c_keeps (d + 5) h0 hg0 ha0 hh0) (fun r1 m1 h1 q1 _ => ?_)
  obtain ⟨e1, hh1, fr1, fr2⟩ := q1
  subst e1
  have hs1 := mS_kept hs0_ hh1 fr1 fr2
  obtain ⟨hg1, ha1, -, ht1, hf1⟩ := id hs1
  simp only at hg1 ha1 ht1 hf1
  show rn_R _ mX9_load _ 15 [some (.ref 22), none] [] m1 h1 _
  refine rn_iconst (v := 0) 16 dX9_load_15 (by decide) rfl ?_
  refine rn_istore_n 17 [some (.ref 22), some (.int 0)] dX9_load_16 rfl rfl (Nat.le_of_ble_eq_true rfl) rfl ?_
  have h7 : m1 22 7 = nI (scT tx).2.length := by rw [fr2 7 (by omega)]; exact srow.1
  have h26 : m1 26 = m0 26 := fr1 26 (by omega) (by omega)
  have z := lp_mload (d + 6) h1 (n := (scT tx).2.length) hso.1 h7 (5 * (scT tx).2.length) 0 (by omega)
  rw [cpm_0, mu_r_id] at z
  refine rn_mono z ?_
  rintro r m2 h2 ⟨rfl, rfl, rfl⟩
  have hmg : mg (scT tx).2 (mu_s (mu_s (mu_s (mu_r m1 23 (cpm (m1 26) (m1 23) 0 0 (5 * (scT tx).2.length))) 23 80 (nI (scT tx).2.length)) 23 81 0) 22 5 0) := by
    refine ⟨hso.1, hso.2, rfl, fun i x hx => ?_⟩
    have hi : i < (scT tx).2.length := (List.getElem?_eq_some_iff.mp hx).1
    have hl16 : (scT tx).2.length ≤ 16 := hso.1
    have key : ∀ j, j < 5 * (scT tx).2.length → (mu_s (mu_s (mu_s (mu_r m1 23 (cpm (m1 26) (m1 23) 0 0 (5 * (scT tx).2.length))) 23 80 (nI (scT tx).2.length)) 23 81 0) 22 5 0) 23 j = m0 26 j := by
      intro j hj
      show upd (upd (cpm (m1 26) (m1 23) 0 0 (5 * (scT tx).2.length)) 80 (nI (scT tx).2.length)) 81 0 j = _
      rw [pk_un (by omega), pk_un (by omega), h26]
      unfold cpm
      rw [if_pos (by omega)]
      congr 1; omega
    rw [key (5 * i) (by omega), key (5 * i + 1) (by omega), key (5 * i + 2) (by omega), key (5 * i + 3) (by omega), key (5 * i + 4) (by omega)]
    exact srow.2 i x hx
  refine ⟨rfl, ⟨hmg, ⟨rfl, pw_pos _⟩, mh_of hh1 rfl rfl, ⟨by simp, rfl, by simp, by simp⟩, hf1⟩, fun c hc => ?_⟩
  simp [mu_s, mu_r, show c ≠ 22 by omega, show c ≠ 23 by omega]
  rw [fr1 c (by omega) (by omega), fr0 c (by omega) (by omega)]

theorem scF_b {tx : List Nat} : ∀ (k p : Nat) (acc : List Ed), p ≤ tx.length → ∀ q, (scF tx k p acc).1 = some q → q ≤ tx.length := by
  intro k
  induction k with
  | zero => intro p acc hp q hq; cases hq; exact hp
  | succ k ih =>
    intro p acc hp q hq
    simp only [scF] at hq
    by_cases q1 : tx.length ≤ p
    · rw [if_pos q1] at hq; cases hq
    · rw [if_neg q1] at hq
      by_cases q2 : 16 ≤ acc.length
      · rw [if_pos q2] at hq; cases hq; exact hp
      · rw [if_neg q2] at hq
        have hf := fEdge_ok hp
        cases e : fEdge tx p with
        | mk oo r =>
          rw [e] at hf hq
          cases oo with
          | none => cases hq; exact hf.1
          | some x => exact ih _ _ (sk_le hf.1).2 q hq
theorem op_fault : OP mX8_fault mX9_fault [] := by
  rintro ⟨g, a, hs, tx, f⟩
  exact ⟨_, _, x_fault 92, m_fault 95⟩
theorem op_load : OP mX8_load mX9_load [] := by
  rintro ⟨g, a, hs, tx, f⟩
  by_cases hl : tx.length ≤ 110
  · cases hq : (scT tx).1 with
    | none => exact ⟨_, _, x_load_t 92 hq, m_load_t 94 hq⟩
    | some q =>
      have hb : q < 2 ^ 31 := by have := scF_b (tx := tx) 17 (sk tx 0) [] (sk_le (Nat.zero_le _)).2 q hq; omega
      exact ⟨_, _, x_load_b 92 hq hb, m_load_b 94 hq hb⟩
  · exact ⟨.null, (g, a, hs, tx, f), fun mu h hz => absurd hz.2.2.2.1.1 hl, fun mu h hz => absurd hz.2.2.2.1.1 hl⟩
