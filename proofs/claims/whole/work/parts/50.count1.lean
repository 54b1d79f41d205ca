/-! COUNTS -/
theorem rn_ldcw {X : Option (Nat × (Nat → Int32))} {y : ym_T} {d pc : Nat} {L : List (Option Value)} {S : List Value} {mu : Nat → Nat → Int32} {h : Int64} {Q : rn_Q} {idx : Nat} {v : Int32} (n : Nat) (hd : decode y.2.1 pc = .ok (.ldc_w idx, 3)) (hw : Cond.constant y.1.cls idx v ∈ ly_G) (hp : pc + 3 = n) (k : rn_R X y d n L (.int v :: S) mu h Q) : rn_R X y d pc L S mu h Q := by
  subst hp
  intro p l e R s m args below meth c cells slots dC dI ad ca A Qt E F H locs ls hst hl hlen
  exact lv_ldcw E.1 E.2.1 E.2.2.2.2.1 (E.2.2.2.2.2.1 _ hw) hd (k p l e R s m args below meth c cells slots dC dI ad ca A Qt E F H locs ls hst hl hlen)
theorem tb_n (n k : Nat) : (if n.testBit k then 1 else 0) = n / 2 ^ k % 2 := by
  rw [Nat.testBit_eq_decide_div_mod_eq]
  rcases Nat.mod_two_eq_zero_or_one (n / 2 ^ k) with q | q <;> rw [q] <;> rfl
theorem mnB_mny (n : Nat) : mnB n = mny n 16 := by
  unfold mnB
  simp only [mny, tb_n]
  simp only [show (2 : Nat) ^ 0 = 1 from rfl, show (2 : Nat) ^ 1 = 2 from rfl, show (2 : Nat) ^ 2 = 4 from rfl, show (2 : Nat) ^ 3 = 8 from rfl, show (2 : Nat) ^ 4 = 16 from rfl, show (2 : Nat) ^ 5 = 32 from rfl, show (2 : Nat) ^ 6 = 64 from rfl, show (2 : Nat) ^ 7 = 128 from rfl, show (2 : Nat) ^ 8 = 256 from rfl, show (2 : Nat) ^ 9 = 512 from rfl, show (2 : Nat) ^ 10 = 1024 from rfl, show (2 : Nat) ^ 11 = 2048 from rfl, show (2 : Nat) ^ 12 = 4096 from rfl, show (2 : Nat) ^ 13 = 8192 from rfl, show (2 : Nat) ^ 14 = 16384 from rfl, show (2 : Nat) ^ 15 = 32768 from rfl, Nat.div_one, Nat.zero_add, Nat.add_assoc]
theorem bcR_at {q : Nat} : ∀ k, bcR q k = true → ∀ j, j < k → bcN (256 * q + j) = mnB (256 * q + j) := by
  intro k
  induction k with
  | zero => intro _ j hj; omega
  | succ k ih =>
    intro h j hj
    have h2 : (Nat.beq (bcN (256 * q + k)) (mnB (256 * q + k)) && bcR q k) = true := h
    rw [Bool.and_eq_true] at h2
    by_cases e : j = k
    · subst e; exact Nat.eq_of_beq_eq_true h2.1
    · exact ih h2.2 j (by omega)
theorem bcA_at : ∀ k, bcA k = true → ∀ j, j < k → bcR j 256 = true := by
  intro k
  induction k with
  | zero => intro _ j hj; omega
  | succ k ih =>
    intro h j hj
    have h2 : (bcR k 256 && bcA k) = true := h
    rw [Bool.and_eq_true] at h2
    by_cases e : j = k
    · subst e; exact h2.1
    · exact ih h2.2 j (by omega)
theorem bcN_mny {n : Nat} (h : n < 65536) : bcN n = mny n 16 := by
  have a := bcR_at 256 (bcA_at 256 bcA_ok (n / 256) (by omega)) (n % 256) (by omega)
  rw [show 256 * (n / 256) + n % 256 = n by omega] at a
  rw [a, mnB_mny]
theorem mny_le (S : Nat) : ∀ k, mny S k ≤ k := by
  intro k
  induction k with
  | zero => exact Nat.le_refl _
  | succ k ih => show mny S k + (if S.testBit k then 1 else 0) ≤ k + 1; split <;> omega

set_option maxRecDepth 100000 in
set_option maxHeartbeats 2000000 in
theorem c_bitCount (d : Nat) (mu : Nat → Nat → Int32) (h : Int64) {S : Nat} (hS : S < 65536) : gd_G mJ6_bitCount_0f7a4 d [.int (nI S)] mu h (pq (some (.int (nI (mny S 16)))) mu h) := by
  refine gd_of rfl (Nat.le_of_ble_eq_true rfl) ?_
  show rn_R none mJ6_bitCount_0f7a4 d 0 [some (.int (nI S))] [] mu h (pq (some (.int (nI (mny S 16)))) mu h)
  have e1 : S / 2 ^ 1 &&& 1431655765 ≤ S := Nat.le_trans Nat.and_le_left (Nat.div_le_self _ _)
  obtain ⟨n1, en1⟩ : ∃ n, n = S - (S / 2 ^ 1 &&& 1431655765) := ⟨_, rfl⟩
  have b1 : n1 < 65536 := by omega
  obtain ⟨n2, en2⟩ : ∃ n, n = (n1 &&& 858993459) + (n1 / 2 ^ 2 &&& 858993459) := ⟨_, rfl⟩
  have b2 : n2 ≤ 2 * 65536 := by have p1 : n1 &&& 858993459 ≤ n1 := Nat.and_le_left; have p2 : n1 / 2 ^ 2 &&& 858993459 ≤ n1 := Nat.le_trans Nat.and_le_left (Nat.div_le_self _ _); omega
  obtain ⟨n3, en3⟩ : ∃ n, n = (n2 + n2 / 2 ^ 4) &&& 252645135 := ⟨_, rfl⟩
  have b3 : n3 ≤ 4 * 65536 := by have p1 : (n2 + n2 / 2 ^ 4) &&& 252645135 ≤ n2 + n2 / 2 ^ 4 := Nat.and_le_left; have p2 : n2 / 2 ^ 4 ≤ n2 := Nat.div_le_self _ _; omega
  obtain ⟨n4, en4⟩ : ∃ n, n = n3 + n3 / 2 ^ 8 := ⟨_, rfl⟩
  have b4 : n4 ≤ 8 * 65536 := by have p2 : n3 / 2 ^ 8 ≤ n3 := Nat.div_le_self _ _; omega
  obtain ⟨n5, en5⟩ : ∃ n, n = n4 + n4 / 2 ^ 16 := ⟨_, rfl⟩
  have b5 : n5 &&& 63 = mny S 16 := by rw [← bcN_mny hS]; unfold bcN; simp only [Nat.shiftRight_eq_div_pow]; rw [← en1, ← en2, ← en3, ← en4, ← en5]
  refine rn_iload_n 1 dJ6_bitCount_0f7a4_0 rfl rfl rfl ?_
  refine rn_iload_n 2 dJ6_bitCount_0f7a4_1 rfl rfl rfl ?_
  refine rn_iconst (v := 1) 3 dJ6_bitCount_0f7a4_2 (by decide) rfl ?_
  refine rn_iushr (v := nI (S / 2 ^ 1)) 4 dJ6_bitCount_0f7a4_3 (pk_ushrN (by omega) 1 1 (by decide)) rfl ?_
  refine rn_ldcw 7 dJ6_bitCount_0f7a4_4 kc_J6_265 rfl ?_
  refine rn_iand 8 dJ6_bitCount_0f7a4_7 rfl ?_
  rw [show (1431655765 : Int32) = nI 1431655765 from rfl, nb_and]
  refine rn_isub 9 dJ6_bitCount_0f7a4_8 rfl ?_
  rw [pk_sub e1, ← en1]
  refine rn_istore_n 10 [some (.int (nI n1))] dJ6_bitCount_0f7a4_9 rfl rfl (Nat.le_of_ble_eq_true rfl) rfl ?_
  refine rn_iload_n 11 dJ6_bitCount_0f7a4_10 rfl rfl rfl ?_
  refine rn_ldcw 14 dJ6_bitCount_0f7a4_11 kc_J6_266 rfl ?_
  refine rn_iand 15 dJ6_bitCount_0f7a4_14 rfl ?_
  rw [show (858993459 : Int32) = nI 858993459 from rfl, nb_and]
  refine rn_iload_n 16 dJ6_bitCount_0f7a4_15 rfl rfl rfl ?_
  refine rn_iconst (v := 2) 17 dJ6_bitCount_0f7a4_16 (by decide) rfl ?_
  refine rn_iushr (v := nI (n1 / 2 ^ 2)) 18 dJ6_bitCount_0f7a4_17 (pk_ushrN (by omega) 2 2 (by decide)) rfl ?_
  refine rn_ldcw 21 dJ6_bitCount_0f7a4_18 kc_J6_266 rfl ?_
  refine rn_iand 22 dJ6_bitCount_0f7a4_21 rfl ?_
  rw [show (858993459 : Int32) = nI 858993459 from rfl, nb_and]
  refine rn_iadd 23 dJ6_bitCount_0f7a4_22 rfl ?_
  rw [nI_add, ← en2]
  refine rn_istore_n 24 [some (.int (nI n2))] dJ6_bitCount_0f7a4_23 rfl rfl (Nat.le_of_ble_eq_true rfl) rfl ?_
  refine rn_iload_n 25 dJ6_bitCount_0f7a4_24 rfl rfl rfl ?_
  refine rn_iload_n 26 dJ6_bitCount_0f7a4_25 rfl rfl rfl ?_
  refine rn_iconst (v := 4) 27 dJ6_bitCount_0f7a4_26 (by decide) rfl ?_
  refine rn_iushr (v := nI (n2 / 2 ^ 4)) 28 dJ6_bitCount_0f7a4_27 (pk_ushrN (by omega) 4 4 (by decide)) rfl ?_
  refine rn_iadd 29 dJ6_bitCount_0f7a4_28 rfl ?_
  rw [nI_add]
  refine rn_ldcw 32 dJ6_bitCount_0f7a4_29 kc_J6_267 rfl ?_
  refine rn_iand 33 dJ6_bitCount_0f7a4_32 rfl ?_
  rw [show (252645135 : Int32) = nI 252645135 from rfl, nb_and, ← en3]
  refine rn_istore_n 34 [some (.int (nI n3))] dJ6_bitCount_0f7a4_33 rfl rfl (Nat.le_of_ble_eq_true rfl) rfl ?_
  refine rn_iload_n 35 dJ6_bitCount_0f7a4_34 rfl rfl rfl ?_
  refine rn_iload_n 36 dJ6_bitCount_0f7a4_35 rfl rfl rfl ?_
  refine rn_bipush (v := 8) 38 dJ6_bitCount_0f7a4_36 (by decide) rfl ?_
  refine rn_iushr (v := nI (n3 / 2 ^ 8)) 39 dJ6_bitCount_0f7a4_38 (pk_ushrN (by omega) 8 8 (by decide)) rfl ?_
  refine rn_iadd 40 dJ6_bitCount_0f7a4_39 rfl ?_
  rw [nI_add, ← en4]
  refine rn_istore_n 41 [some (.int (nI n4))] dJ6_bitCount_0f7a4_40 rfl rfl (Nat.le_of_ble_eq_true rfl) rfl ?_
  refine rn_iload_n 42 dJ6_bitCount_0f7a4_41 rfl rfl rfl ?_
  refine rn_iload_n 43 dJ6_bitCount_0f7a4_42 rfl rfl rfl ?_
  refine rn_bipush (v := 16) 45 dJ6_bitCount_0f7a4_43 (by decide) rfl ?_
  refine rn_iushr (v := nI (n4 / 2 ^ 16)) 46 dJ6_bitCount_0f7a4_45 (pk_ushrN (by omega) 16 16 (by decide)) rfl ?_
  refine rn_iadd 47 dJ6_bitCount_0f7a4_46 rfl ?_
  rw [nI_add, ← en5]
  refine rn_istore_n 48 [some (.int (nI n5))] dJ6_bitCount_0f7a4_47 rfl rfl (Nat.le_of_ble_eq_true rfl) rfl ?_
  refine rn_iload_n 49 dJ6_bitCount_0f7a4_48 rfl rfl rfl ?_
  refine rn_bipush (v := 63) 51 dJ6_bitCount_0f7a4_49 (by decide) rfl ?_
  refine rn_iand 52 dJ6_bitCount_0f7a4_51 rfl ?_
  rw [show (63 : Int32) = nI 63 from rfl, nb_and, b5]
  exact rn_iret rfl dJ6_bitCount_0f7a4_52 (⟨rfl, rfl, rfl⟩)

set_option maxRecDepth 100000 in
set_option maxHeartbeats 2000000 in
theorem lp_many (d : Nat) {mu : Nat → Nat → Int32} (h : Int64) {S : Nat} (hS : S < 2 ^ 31) : ∀ (k e : Nat), e + k = 16 → rn_R none mX9_many d 4 [some (.int (nI S)), some (.int (nI (mny S e))), some (.int (nI e))] [] mu h (pq (some (.int (nI (mny S 16)))) mu h) := by
  intro k
  induction k with
  | zero =>
    intro e hek
    refine rn_iload_n 5 dX9_many_4 rfl rfl rfl ?_
    refine rn_bipush (v := 16) 7 dX9_many_5 (by decide) rfl ?_
    refine rn_icmp_ge 24 10 dX9_many_7 (by decide) rfl (fun _ => ?_) (fun c7 => absurd (nI_le (a := 16) (by omega) (by omega)) c7)
    refine rn_iload_n 25 dX9_many_24 rfl rfl rfl ?_
    exact rn_iret rfl dX9_many_25 (⟨by rw [show e = 16 by omega], rfl, rfl⟩)
  | succ k ih =>
    intro e hek
    refine rn_iload_n 5 dX9_many_4 rfl rfl rfl ?_
    refine rn_bipush (v := 16) 7 dX9_many_5 (by decide) rfl ?_
    refine rn_icmp_ge 24 10 dX9_many_7 (by decide) rfl (fun c7 => absurd c7 (nI_ge (b := 16) (by omega) (by omega))) (fun _ => ?_)
    refine rn_iload_n 11 dX9_many_10 rfl rfl rfl ?_
    refine rn_iload_n 12 dX9_many_11 rfl rfl rfl ?_
    refine rn_iload_n 13 dX9_many_12 rfl rfl rfl ?_
    refine rn_ishr 14 dX9_many_13 rfl ?_
    refine rn_iconst (v := 1) 15 dX9_many_14 (by decide) rfl ?_
    refine rn_iand 16 dX9_many_15 rfl ?_
    refine rn_iadd 17 dX9_many_16 rfl ?_
    rw [nb_bit (by omega) (by omega), show (if S.testBit e = true then (1 : Int32) else 0) = nI (if S.testBit e then 1 else 0) by split <;> rfl, nI_add]
    show rn_R _ mX9_many _ 17 [some (.int (nI S)), some (.int (nI (mny S e))), some (.int (nI e))] [.int (nI (mny S (e + 1)))] mu h _
    refine rn_istore_n 18 [some (.int (nI S)), some (.int (nI (mny S (e + 1)))), some (.int (nI e))] dX9_many_17 rfl rfl (Nat.le_of_ble_eq_true rfl) rfl ?_
    refine rn_iinc (v := (nI (e + 1))) 21 [some (.int (nI S)), some (.int (nI (mny S (e + 1)))), some (.int (nI (e + 1)))] dX9_many_18 rfl (nI_1 _) rfl rfl ?_
    refine rn_goto 4 dX9_many_21 (by decide) ?_
    exact ih (e + 1) (by omega)

set_option maxRecDepth 100000 in
set_option maxHeartbeats 2000000 in
theorem c_many (d : Nat) (mu : Nat → Nat → Int32) (h : Int64) {S : Nat} (hS : S < 2 ^ 31) : gd_G mX9_many d [.int (nI S)] mu h (pq (some (.int (nI (mny S 16)))) mu h) := by
  refine gd_of rfl (Nat.le_of_ble_eq_true rfl) ?_
  show rn_R none mX9_many d 0 [some (.int (nI S)), none, none] [] mu h (pq (some (.int (nI (mny S 16)))) mu h)
  refine rn_iconst (v := 0) 1 dX9_many_0 (by decide) rfl ?_
  refine rn_istore_n 2 [some (.int (nI S)), some (.int 0), none] dX9_many_1 rfl rfl (Nat.le_of_ble_eq_true rfl) rfl ?_
  refine rn_iconst (v := 0) 3 dX9_many_2 (by decide) rfl ?_
  refine rn_istore_n 4 [some (.int (nI S)), some (.int 0), some (.int 0)] dX9_many_3 rfl rfl (Nat.le_of_ble_eq_true rfl) rfl ?_
  exact lp_many d h hS 16 0 (by omega)

def lnS (g : List Ed) : Nat → Nat
  | 0 => 0
  | k + 1 => lnS g k + eL g k

set_option maxRecDepth 100000 in
set_option maxHeartbeats 2000000 in
theorem lp_sumL (d : Nat) {g : List Ed} {mu : Nat → Nat → Int32} (h : Int64) (hg : xg g mu) : ∀ (k e : Nat), e + k = g.length → rn_R none mX2_sumOfLengths (d + 2) 4 [some (.ref 1), some (.int (nI (lnS g e))), some (.int (nI e))] [] mu h (pq (some (.int (nI (lnS g g.length)))) mu h) := by
  intro k
  induction k with
  | zero =>
    intro e hek
    refine rn_iload_n 5 dX2_sumOfLengths_4 rfl rfl rfl ?_
    refine rn_aload_n 6 dX2_sumOfLengths_5 rfl rfl rfl ?_
    refine rn_get 9 (.int (mu 1 1)) dX2_sumOfLengths_6 fl_X2_15 rfl rfl rfl rfl ?_
    refine rn_icmp_ge 26 12 dX2_sumOfLengths_9 (by decide) rfl (fun _ => ?_) (fun c9 => absurd (by rw [hg.2.2.1]; exact nI_le (by omega) (by have := hg.1; omega)) c9)
    refine rn_iload_n 27 dX2_sumOfLengths_26 rfl rfl rfl ?_
    exact rn_iret rfl dX2_sumOfLengths_27 (⟨by rw [show e = g.length by omega], rfl, rfl⟩)
  | succ k ih =>
    intro e hek
    have hlt : e < g.length := by omega
    have h16 := hg.1
    refine rn_iload_n 5 dX2_sumOfLengths_4 rfl rfl rfl ?_
    refine rn_aload_n 6 dX2_sumOfLengths_5 rfl rfl rfl ?_
    refine rn_get 9 (.int (mu 1 1)) dX2_sumOfLengths_6 fl_X2_15 rfl rfl rfl rfl ?_
    refine rn_icmp_ge 26 12 dX2_sumOfLengths_9 (by decide) rfl (fun c9 => absurd c9 (by rw [hg.2.2.1]; exact nI_ge hlt (by omega))) (fun _ => ?_)
    refine rn_iload_n 13 dX2_sumOfLengths_12 rfl rfl rfl ?_
    refine rn_aload_n 14 dX2_sumOfLengths_13 rfl rfl rfl ?_
    refine rn_iload_n 15 dX2_sumOfLengths_14 rfl rfl rfl ?_
    refine rn_cvp mX2_plainLength [.int (nI e)] [.int (nI (lnS g e))] 18 (.int (nI (eL g e))) dX2_sumOfLengths_15 cv_X2_44 rfl rfl rfl (by simp [Value.category]) rfl (c_plainLength d h hg hlt) ?_
    refine rn_iadd 19 dX2_sumOfLengths_18 rfl ?_
    rw [nI_add, show lnS g e + eL g e = lnS g (e + 1) from rfl]
    refine rn_istore_n 20 [some (.ref 1), some (.int (nI (lnS g (e + 1)))), some (.int (nI e))] dX2_sumOfLengths_19 rfl rfl (Nat.le_of_ble_eq_true rfl) rfl ?_
    refine rn_iinc (v := (nI (e + 1))) 23 [some (.ref 1), some (.int (nI (lnS g (e + 1)))), some (.int (nI (e + 1)))] dX2_sumOfLengths_20 rfl (nI_1 _) rfl rfl ?_
    refine rn_goto 4 dX2_sumOfLengths_23 (by decide) ?_
    exact ih (e + 1) (by omega)

set_option maxRecDepth 100000 in
set_option maxHeartbeats 2000000 in
theorem c_sumL (d : Nat) {g : List Ed} {mu : Nat → Nat → Int32} (h : Int64) (hg : xg g mu) : gd_G mX2_sumOfLengths (d + 2) [.ref 1] mu h (pq (some (.int (nI (lnS g g.length)))) mu h) := by
  refine gd_of rfl (Nat.le_of_ble_eq_true rfl) ?_
  show rn_R none mX2_sumOfLengths (d + 2) 0 [some (.ref 1), none, none] [] mu h (pq (some (.int (nI (lnS g g.length)))) mu h)
  refine rn_iconst (v := 0) 1 dX2_sumOfLengths_0 (by decide) rfl ?_
  refine rn_istore_n 2 [some (.ref 1), some (.int 0), none] dX2_sumOfLengths_1 rfl rfl (Nat.le_of_ble_eq_true rfl) rfl ?_
  refine rn_iconst (v := 0) 3 dX2_sumOfLengths_2 (by decide) rfl ?_
  refine rn_istore_n 4 [some (.ref 1), some (.int 0), some (.int 0)] dX2_sumOfLengths_3 rfl rfl (Nat.le_of_ble_eq_true rfl) rfl ?_
  exact lp_sumL d h hg g.length 0 (by omega)

set_option maxRecDepth 100000 in
set_option maxHeartbeats 2000000 in
theorem lp_msumL (d : Nat) {g : List Ed} {mu : Nat → Nat → Int32} (h : Int64) (hg : mg g mu) : ∀ (k e : Nat), e + k = g.length → rn_R none mX9_lengths (d + 1) 4 [some (.ref 22), some (.int (nI (lnS g e))), some (.int (nI e))] [] mu h (pq (some (.int (nI (lnS g g.length)))) mu h) := by
  intro k
  induction k with
  | zero =>
    intro e hek
    refine rn_iload_n 5 dX9_lengths_4 rfl rfl rfl ?_
    refine rn_aload_n 6 dX9_lengths_5 rfl rfl rfl ?_
    refine rn_get 9 (.ref 23) dX9_lengths_6 fl_X9_7 rfl rfl rfl rfl ?_
    refine rn_bipush (v := 80) 11 dX9_lengths_9 (by decide) rfl ?_
    refine rn_iald 12 (mu 23 80) dX9_lengths_11 rfl (vp_in_nI (n := 80) (by decide) (by decide)) rfl rfl ?_
    refine rn_icmp_ge 30 15 dX9_lengths_12 (by decide) rfl (fun _ => ?_) (fun c12 => absurd (by rw [hg.2.2.1]; exact nI_le (by omega) (by have := hg.1; omega)) c12)
    refine rn_iload_n 31 dX9_lengths_30 rfl rfl rfl ?_
    exact rn_iret rfl dX9_lengths_31 (⟨by rw [show e = g.length by omega], rfl, rfl⟩)
  | succ k ih =>
    intro e hek
    have hlt : e < g.length := by omega
    have h16 := hg.1
    refine rn_iload_n 5 dX9_lengths_4 rfl rfl rfl ?_
    refine rn_aload_n 6 dX9_lengths_5 rfl rfl rfl ?_
    refine rn_get 9 (.ref 23) dX9_lengths_6 fl_X9_7 rfl rfl rfl rfl ?_
    refine rn_bipush (v := 80) 11 dX9_lengths_9 (by decide) rfl ?_
    refine rn_iald 12 (mu 23 80) dX9_lengths_11 rfl (vp_in_nI (n := 80) (by decide) (by decide)) rfl rfl ?_
    refine rn_icmp_ge 30 15 dX9_lengths_12 (by decide) rfl (fun c12 => absurd c12 (by rw [hg.2.2.1]; exact nI_ge hlt (by omega))) (fun _ => ?_)
    refine rn_iload_n 16 dX9_lengths_15 rfl rfl rfl ?_
    refine rn_aload_n 17 dX9_lengths_16 rfl rfl rfl ?_
    refine rn_iload_n 18 dX9_lengths_17 rfl rfl rfl ?_
    refine rn_iconst (v := 2) 19 dX9_lengths_18 (by decide) rfl ?_
    refine rn_cvp mX9_of [.int (nI e), .int 2] [.int (nI (lnS g e))] 22 (.int (nI (eL g e))) dX9_lengths_19 cv_X9_46 rfl rfl rfl (by simp [Value.category]) rfl (c_ofe d h hg (w := 2) hlt (by omega)) ?_
    refine rn_iadd 23 dX9_lengths_22 rfl ?_
    rw [nI_add, show lnS g e + eL g e = lnS g (e + 1) from rfl]
    refine rn_istore_n 24 [some (.ref 22), some (.int (nI (lnS g (e + 1)))), some (.int (nI e))] dX9_lengths_23 rfl rfl (Nat.le_of_ble_eq_true rfl) rfl ?_
    refine rn_iinc (v := (nI (e + 1))) 27 [some (.ref 22), some (.int (nI (lnS g (e + 1)))), some (.int (nI (e + 1)))] dX9_lengths_24 rfl (nI_1 _) rfl rfl ?_
    refine rn_goto 4 dX9_lengths_27 (by decide) ?_
    exact ih (e + 1) (by omega)

set_option maxRecDepth 100000 in
set_option maxHeartbeats 2000000 in
theorem c_msumL (d : Nat) {g : List Ed} {mu : Nat → Nat → Int32} (h : Int64) (hg : mg g mu) : gd_G mX9_lengths (d + 1) [.ref 22] mu h (pq (some (.int (nI (lnS g g.length)))) mu h) := by
  refine gd_of rfl (Nat.le_of_ble_eq_true rfl) ?_
  show rn_R none mX9_lengths (d + 1) 0 [some (.ref 22), none, none] [] mu h (pq (some (.int (nI (lnS g g.length)))) mu h)
  refine rn_iconst (v := 0) 1 dX9_lengths_0 (by decide) rfl ?_
  refine rn_istore_n 2 [some (.ref 22), some (.int 0), none] dX9_lengths_1 rfl rfl (Nat.le_of_ble_eq_true rfl) rfl ?_
  refine rn_iconst (v := 0) 3 dX9_lengths_2 (by decide) rfl ?_
  refine rn_istore_n 4 [some (.ref 22), some (.int 0), some (.int 0)] dX9_lengths_3 rfl rfl (Nat.le_of_ble_eq_true rfl) rfl ?_
  exact lp_msumL d h hg g.length 0 (by omega)
