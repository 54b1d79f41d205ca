/-! BOTH SIDES: expected, lost -/
def pwL (b : Int64) : Nat → Int64
  | 0 => 1
  | n + 1 => pwL b n * b
/-- how many sets below n lie in E -/
def cnE (E : Nat) : Nat → Nat
  | 0 => 0
  | n + 1 => cnE E n + (if n &&& E = n then 1 else 0)
def smE (E : Nat) (F : Nat → Int64) : Nat → Int64
  | 0 => 0
  | n + 1 => if n &&& E = n then smE E F n + F n else smE E F n
theorem sb_le {T E : Nat} (h : T &&& E = T) : T ≤ E := by
  have := @Nat.and_le_right T E
  omega
theorem sb_2 (m E : Nat) : ((2 * m) &&& E = 2 * m ↔ m &&& (E / 2) = m) ∧ ((2 * m + 1) &&& E = 2 * m + 1 ↔ m &&& (E / 2) = m ∧ E % 2 = 1) := by
  have a1 : ((2 * m) &&& E) / 2 = m &&& (E / 2) := by rw [Nat.and_div_two, show 2 * m / 2 = m by omega]
  have a2 : ((2 * m + 1) &&& E) / 2 = m &&& (E / 2) := by rw [Nat.and_div_two, show (2 * m + 1) / 2 = m by omega]
  have b1 : ((2 * m) &&& E) % 2 = 1 ↔ (2 * m) % 2 = 1 ∧ E % 2 = 1 := Nat.and_mod_two_eq_one
  have b2 : ((2 * m + 1) &&& E) % 2 = 1 ↔ (2 * m + 1) % 2 = 1 ∧ E % 2 = 1 := Nat.and_mod_two_eq_one
  generalize (2 * m) &&& E = x at a1 b1
  generalize (2 * m + 1) &&& E = y at a2 b2
  generalize m &&& (E / 2) = z at a1 a2
  refine ⟨⟨fun q => by omega, fun q => by omega⟩, fun q => ⟨by omega, by omega⟩, fun q => ?_⟩
  have := b2.mpr ⟨by omega, q.2⟩
  omega
theorem cn_2 (E : Nat) : ∀ m, cnE E (2 * m) = (1 + E % 2) * cnE (E / 2) m := by
  intro m
  induction m with
  | zero => rfl
  | succ m ih =>
    have e1 : cnE E (2 * (m + 1)) = cnE E (2 * m) + (if (2 * m) &&& E = 2 * m then 1 else 0) + (if (2 * m + 1) &&& E = 2 * m + 1 then 1 else 0) := rfl
    have e2 : cnE (E / 2) (m + 1) = cnE (E / 2) m + (if m &&& (E / 2) = m then 1 else 0) := rfl
    obtain ⟨s1, s2⟩ := sb_2 m E
    rw [e1, e2, ih, Nat.mul_add]
    by_cases q : m &&& (E / 2) = m
    · rw [if_pos (s1.mpr q), if_pos q]
      by_cases w : E % 2 = 1
      · rw [if_pos (s2.mpr ⟨q, w⟩), w]
      · rw [if_neg (fun z => w (s2.mp z).2)]; omega
    · rw [if_neg (fun z => q (s1.mp z)), if_neg (fun z => q (s2.mp z).1), if_neg q]
      rfl
theorem mny_2 (E : Nat) : ∀ k, mny E (k + 1) = E % 2 + mny (E / 2) k := by
  intro k
  induction k with
  | zero =>
    show 0 + (if E.testBit 0 then 1 else 0) = E % 2 + 0
    rw [Nat.testBit_zero]
    by_cases q : E % 2 = 1
    · rw [if_pos (by simpa using q)]; omega
    · rw [if_neg (by simpa using q)]; omega
  | succ k ih =>
    show mny E (k + 1) + (if E.testBit (k + 1) then 1 else 0) = E % 2 + (mny (E / 2) k + (if (E / 2).testBit k then 1 else 0))
    rw [ih, Nat.testBit_succ]
    omega
theorem cn_pow : ∀ (k E : Nat), cnE E (2 ^ k) = 2 ^ mny E k := by
  intro k
  induction k with
  | zero =>
    intro E
    show 0 + (if 0 &&& E = 0 then 1 else 0) = 1
    rw [if_pos (Nat.zero_and E)]
  | succ k ih =>
    intro E
    rw [Nat.pow_succ, Nat.mul_comm, cn_2, ih, mny_2]
    rcases Nat.mod_two_eq_zero_or_one E with q | q
    · rw [q, Nat.zero_add]; omega
    · rw [q, Nat.add_comm 1 (mny _ _), Nat.pow_succ]; omega
theorem cn_gap {E a : Nat} : ∀ k, (∀ x, a ≤ x → x < a + k → ¬ x &&& E = x) → cnE E (a + k) = cnE E a := by
  intro k
  induction k with
  | zero => intro _; rfl
  | succ k ih =>
    intro h
    show cnE E (a + k) + (if (a + k) &&& E = a + k then 1 else 0) = _
    rw [if_neg (h (a + k) (by omega) (by omega)), ih (fun x h1 h2 => h x h1 (by omega))]
    rfl
theorem sm_gap {E a : Nat} {F : Nat → Int64} : ∀ k, (∀ x, a ≤ x → x < a + k → ¬ x &&& E = x) → smE E F (a + k) = smE E F a := by
  intro k
  induction k with
  | zero => intro _; rfl
  | succ k ih =>
    intro h
    show (if (a + k) &&& E = a + k then _ else smE E F (a + k)) = _
    rw [if_neg (h (a + k) (by omega) (by omega)), ih (fun x h1 h2 => h x h1 (by omega))]
theorem cn_top {E : Nat} (hE : E < 2 ^ 16) : cnE E (E + 1) = 2 ^ mny E 16 := by
  rw [← cn_pow 16 E]
  have h := @cn_gap E (E + 1) (2 ^ 16 - (E + 1)) (fun x h1 _ q => by have := sb_le q; omega)
  rw [show E + 1 + (2 ^ 16 - (E + 1)) = 2 ^ 16 by omega] at h
  exact h.symm
/-- the greatest set in E below T -/
theorem sb_pred : ∀ (n T E X : Nat), T ≤ n → 0 < T → T &&& E = T → X &&& E = X → X < T → X ≤ (T - 1) &&& E := by
  intro n
  induction n with
  | zero => intro T E X h1 h2; omega
  | succ n ih =>
    intro T E X h1 h2 h3 h4 h5
    have a0 : (T &&& E) / 2 = T / 2 &&& E / 2 := Nat.and_div_two
    have x0 : (X &&& E) / 2 = X / 2 &&& E / 2 := Nat.and_div_two
    have p0 : ((T - 1) &&& E) / 2 = (T - 1) / 2 &&& E / 2 := Nat.and_div_two
    have t1 : (T &&& E) % 2 = 1 ↔ T % 2 = 1 ∧ E % 2 = 1 := Nat.and_mod_two_eq_one
    have x1 : (X &&& E) % 2 = 1 ↔ X % 2 = 1 ∧ E % 2 = 1 := Nat.and_mod_two_eq_one
    have p1 : ((T - 1) &&& E) % 2 = 1 ↔ (T - 1) % 2 = 1 ∧ E % 2 = 1 := Nat.and_mod_two_eq_one
    rw [h3] at a0 t1
    rw [h4] at x0 x1
    rcases Nat.mod_two_eq_zero_or_one T with q | q
    · rw [show (T - 1) / 2 = T / 2 - 1 by omega] at p0
      have := ih (T / 2) (E / 2) (X / 2) (by omega) (by omega) a0.symm x0.symm (by omega)
      rw [← p0] at this
      rcases Nat.mod_two_eq_zero_or_one X with w | w
      · omega
      · have := p1.mpr ⟨by omega, (x1.mp w).2⟩
        omega
    · rw [show (T - 1) / 2 = T / 2 by omega, ← a0] at p0
      omega
theorem sb_and (T E : Nat) : (T &&& E) &&& E = T &&& E := by rw [Nat.and_assoc, Nat.and_self]
theorem cn_pred {E T : Nat} (h0 : 0 < T) (hT : T &&& E = T) : cnE E T = cnE E (((T - 1) &&& E) + 1) := by
  have hl : (T - 1) &&& E ≤ T - 1 := Nat.and_le_left
  have h := @cn_gap E (((T - 1) &&& E) + 1) (T - (((T - 1) &&& E) + 1)) (fun x h1 h2 q => by have := sb_pred T T E x (Nat.le_refl _) h0 hT q (by omega); omega)
  rw [show ((T - 1) &&& E) + 1 + (T - (((T - 1) &&& E) + 1)) = T by omega] at h
  exact h
theorem sm_pred {E T : Nat} {F : Nat → Int64} (h0 : 0 < T) (hT : T &&& E = T) : smE E F T = smE E F (((T - 1) &&& E) + 1) := by
  have hl : (T - 1) &&& E ≤ T - 1 := Nat.and_le_left
  have h := @sm_gap E (((T - 1) &&& E) + 1) F (T - (((T - 1) &&& E) + 1)) (fun x h1 h2 q => by have := sb_pred T T E x (Nat.le_refl _) h0 hT q (by omega); omega)
  rw [show ((T - 1) &&& E) + 1 + (T - (((T - 1) &&& E) + 1)) = T by omega] at h
  exact h
theorem sb_bit {T E : Nat} (h : T &&& E = T) {i : Nat} (hi : T.testBit i = true) : E.testBit i = true := by
  have : (T &&& E).testBit i = true := by rw [h]; exact hi
  rw [Nat.testBit_and] at this
  simp at this
  exact this.2
theorem mny_sb {T E : Nat} (h : T &&& E = T) : ∀ k, mny T k ≤ mny E k := by
  intro k
  induction k with
  | zero => exact Nat.le_refl _
  | succ k ih =>
    show mny T k + (if T.testBit k then 1 else 0) ≤ mny E k + (if E.testBit k then 1 else 0)
    by_cases q : T.testBit k = true
    · rw [if_pos q, if_pos (sb_bit h q)]; omega
    · rw [if_neg q]; omega
theorem nd_0 {T E : Nat} : nd T E = 0 ↔ T &&& E = T := by
  constructor
  · intro h
    refine tb_ext (fun i => ?_)
    have := congrArg (fun n => n.testBit i) h
    simp only [nd_bit, Nat.zero_testBit] at this
    rw [Nat.testBit_and]
    cases h1 : T.testBit i <;> cases h2 : E.testBit i <;> simp [h1, h2] at this ⊢
  · intro h
    refine tb_ext (fun i => ?_)
    rw [nd_bit, Nat.zero_testBit]
    cases h1 : T.testBit i
    · rfl
    · rw [sb_bit h h1]; rfl
/-- the weight of a subset, and what it adds -/
def wtT (E q T : Nat) : Int64 := pwL (nI q).toInt64 (mny T 16) * pwL (12 - nI q).toInt64 (mny E 16 - mny T 16)
def exT (g : List Ed) (s t E q : Nat) (b : Bool) (T : Nat) : Int64 := if xD g T s t 0 = 9999 then (if b then wtT E q T else 0) else (if b then 0 else wtT E q T * (nI (xD g T s t 0)).toInt64)

set_option maxRecDepth 100000 in
set_option maxHeartbeats 2000000 in
theorem lp_xpow (d : Nat) {mu : Nat → Nat → Int32} (h : Int64) {b : Int64} {n : Nat} (hn : n < 2 ^ 31) : ∀ (k e : Nat), e + k = n → rn_R none mX8_power d 5 [some (.long b), none, some (.int (nI n)), some (.long (pwL b e)), none, some (.int (nI e))] [] mu h (pq (some (.long (pwL b n))) mu h) := by
  intro k
  induction k with
  | zero =>
    intro e hek
    refine rn_iload 7 dX8_power_5 rfl rfl ?_
    refine rn_iload_n 8 dX8_power_7 rfl rfl rfl ?_
    refine rn_icmp_ge 21 11 dX8_power_8 (by decide) rfl (fun _ => ?_) (fun c8 => absurd (nI_le (by omega) (by omega)) c8)
    refine rn_lload_n 22 dX8_power_21 rfl rfl rfl ?_
    exact rn_lret rfl dX8_power_22 (⟨by rw [show e = n by omega], rfl, rfl⟩)
  | succ k ih =>
    intro e hek
    refine rn_iload 7 dX8_power_5 rfl rfl ?_
    refine rn_iload_n 8 dX8_power_7 rfl rfl rfl ?_
    refine rn_icmp_ge 21 11 dX8_power_8 (by decide) rfl (fun c8 => absurd c8 (nI_ge (by omega) (by omega))) (fun _ => ?_)
    refine rn_lload_n 12 dX8_power_11 rfl rfl rfl ?_
    refine rn_lload_n 13 dX8_power_12 rfl rfl rfl ?_
    refine rn_lmul 14 dX8_power_13 rfl ?_
    refine rn_lstore_n 15 [some (.long b), none, some (.int (nI n)), some (.long ((pwL b e) * b)), none, some (.int (nI e))] dX8_power_14 rfl rfl (Nat.le_of_ble_eq_true rfl) rfl ?_
    refine rn_iinc (v := (nI (e + 1))) 18 [some (.long b), none, some (.int (nI n)), some (.long ((pwL b e) * b)), none, some (.int (nI (e + 1)))] dX8_power_15 rfl (nI_1 _) rfl rfl ?_
    refine rn_goto 5 dX8_power_18 (by decide) ?_
    exact ih (e + 1) (by omega)

set_option maxRecDepth 100000 in
set_option maxHeartbeats 2000000 in
theorem c_xpower (d : Nat) (mu : Nat → Nat → Int32) (h : Int64) {b : Int64} {n : Nat} (hn : n < 2 ^ 31) : gd_G mX8_power d [.long b, .int (nI n)] mu h (pq (some (.long (pwL b n))) mu h) := by
  refine gd_of rfl (Nat.le_of_ble_eq_true rfl) ?_
  show rn_R none mX8_power d 0 [some (.long b), none, some (.int (nI n)), none, none, none] [] mu h (pq (some (.long (pwL b n))) mu h)
  refine rn_lconst (v := 1) 1 dX8_power_0 (by decide) rfl ?_
  refine rn_lstore_n 2 [some (.long b), none, some (.int (nI n)), some (.long 1), none, none] dX8_power_1 rfl rfl (Nat.le_of_ble_eq_true rfl) rfl ?_
  refine rn_iconst (v := 0) 3 dX8_power_2 (by decide) rfl ?_
  refine rn_istore 5 [some (.long b), none, some (.int (nI n)), some (.long 1), none, some (.int 0)] dX8_power_3 rfl (Nat.le_of_ble_eq_true rfl) rfl ?_
  exact lp_xpow d h hn n 0 (by omega)

set_option maxRecDepth 100000 in
set_option maxHeartbeats 2000000 in
theorem lp_mpow (d : Nat) {mu : Nat → Nat → Int32} (h : Int64) {q : Int32} {n : Nat} (hn : n < 2 ^ 31) : ∀ (k e : Nat), e + k = n → rn_R none mX9_power d 5 [some (.int q), some (.int (nI n)), some (.long (pwL q.toInt64 e)), none, some (.int (nI e))] [] mu h (pq (some (.long (pwL q.toInt64 n))) mu h) := by
  intro k
  induction k with
  | zero =>
    intro e hek
    refine rn_iload 7 dX9_power_5 rfl rfl ?_
    refine rn_iload_n 8 dX9_power_7 rfl rfl rfl ?_
    refine rn_icmp_ge 22 11 dX9_power_8 (by decide) rfl (fun _ => ?_) (fun c8 => absurd (nI_le (by omega) (by omega)) c8)
    refine rn_lload_n 23 dX9_power_22 rfl rfl rfl ?_
    exact rn_lret rfl dX9_power_23 (⟨by rw [show e = n by omega], rfl, rfl⟩)
  | succ k ih =>
    intro e hek
    refine rn_iload 7 dX9_power_5 rfl rfl ?_
    refine rn_iload_n 8 dX9_power_7 rfl rfl rfl ?_
    refine rn_icmp_ge 22 11 dX9_power_8 (by decide) rfl (fun c8 => absurd c8 (nI_ge (by omega) (by omega))) (fun _ => ?_)
    refine rn_lload_n 12 dX9_power_11 rfl rfl rfl ?_
    refine rn_iload_n 13 dX9_power_12 rfl rfl rfl ?_
    refine rn_i2l 14 dX9_power_13 rfl ?_
    refine rn_lmul 15 dX9_power_14 rfl ?_
    refine rn_lstore_n 16 [some (.int q), some (.int (nI n)), some (.long ((pwL q.toInt64 e) * ((q).toInt64))), none, some (.int (nI e))] dX9_power_15 rfl rfl (Nat.le_of_ble_eq_true rfl) rfl ?_
    refine rn_iinc (v := (nI (e + 1))) 19 [some (.int q), some (.int (nI n)), some (.long ((pwL q.toInt64 e) * ((q).toInt64))), none, some (.int (nI (e + 1)))] dX9_power_16 rfl (nI_1 _) rfl rfl ?_
    refine rn_goto 5 dX9_power_19 (by decide) ?_
    exact ih (e + 1) (by omega)

set_option maxRecDepth 100000 in
set_option maxHeartbeats 2000000 in
theorem c_mpower (d : Nat) (mu : Nat → Nat → Int32) (h : Int64) (q : Int32) {n : Nat} (hn : n < 2 ^ 31) : gd_G mX9_power d [.int q, .int (nI n)] mu h (pq (some (.long (pwL q.toInt64 n))) mu h) := by
  refine gd_of rfl (Nat.le_of_ble_eq_true rfl) ?_
  show rn_R none mX9_power d 0 [some (.int q), some (.int (nI n)), none, none, none] [] mu h (pq (some (.long (pwL q.toInt64 n))) mu h)
  refine rn_lconst (v := 1) 1 dX9_power_0 (by decide) rfl ?_
  refine rn_lstore_n 2 [some (.int q), some (.int (nI n)), some (.long 1), none, none] dX9_power_1 rfl rfl (Nat.le_of_ble_eq_true rfl) rfl ?_
  refine rn_iconst (v := 0) 3 dX9_power_2 (by decide) rfl ?_
  refine rn_istore 5 [some (.int q), some (.int (nI n)), some (.long 1), none, some (.int 0)] dX9_power_3 rfl (Nat.le_of_ble_eq_true rfl) rfl ?_
  exact lp_mpow d h hn n 0 (by omega)

set_option maxRecDepth 100000 in
set_option maxHeartbeats 2000000 in
theorem lp_ss (d : Nat) {g : List Ed} {s t E q : Nat} {b : Bool} {V : Int64} (hs : s < 8) (ht : t < 8) (hE : E < 2 ^ 16) {mu0 : Nat → Nat → Int32} : ∀ (k i : Nat) (sub : Int32) (sm : Int64) (mu : Nat → Nat → Int32) (h : Int64), i + k = 2 ^ mny E 16 → (xg g mu) → (∀ c, (c < 9 ∨ 13 < c) → mu c = mu0 c) → ((k = 0 ∧ sm = V) ∨ ∃ T, sub = nI T ∧ T &&& E = T ∧ cnE E (T + 1) = k ∧ V = sm + smE E (exT g s t E q b) (T + 1)) → rn_R none mX8_sumOfSubsets (d + 3) 15 [some (.ref 0), some (.int (nI s)), some (.int (nI t)), some (.int (nI E)), some (.int (nI q)), some (.int (if b then 1 else 0)), some (.int (nI (mny E 16))), some (.long (sm)), none, some (.int (sub)), some (.int (nI i)), none, none, none, none] [] mu h (fun r mu' _ => r = some (.long V) ∧ ∀ c, (c < 9 ∨ 13 < c) → mu' c = mu0 c) := by
  intro k
  induction k with
  | zero =>
    intro i sub sm mu h hek hg hfr inv
    have hV : sm = V := by
      rcases inv with q | ⟨T, -, q2, q3, -⟩
      · exact q.2
      · have e1 : cnE E (T + 1) = cnE E T + (if T &&& E = T then 1 else 0) := rfl
        rw [if_pos q2] at e1; omega
    refine rn_iload 17 dX8_sumOfSubsets_15 rfl rfl ?_
    refine rn_iconst (v := 1) 18 dX8_sumOfSubsets_17 (by decide) rfl ?_
    refine rn_iload 20 dX8_sumOfSubsets_18 rfl rfl ?_
    refine rn_ishl 21 dX8_sumOfSubsets_20 rfl ?_
    rw [nb_1 (by have := mny_le E 16; omega)]
    refine rn_icmp_ge 123 24 dX8_sumOfSubsets_21 (by decide) rfl (fun _ => ?_) (fun c21 => absurd (nI_le (by omega) (by have := hE; have := pw_le (mny_le E 16); omega)) c21)
    refine rn_lload 125 dX8_sumOfSubsets_123 rfl rfl ?_
    exact rn_lret rfl dX8_sumOfSubsets_125 (⟨by rw [hV], hfr⟩)
  | succ k ih =>
    intro i sub sm mu h hek hg hfr inv
    obtain ⟨T, rfl, hT, hc, hV⟩ : ∃ T, sub = nI T ∧ T &&& E = T ∧ cnE E (T + 1) = k + 1 ∧ V = sm + smE E (exT g s t E q b) (T + 1) := by
      rcases inv with z | z
      · omega
      · exact z
    have hTE := sb_le hT
    have ho := hg.2.1
    have bx := xD_le (S := T) (s := s) (rep := 0) ho ht
    have my1 := mny_sb hT 16
    have my2 := mny_le E 16
    have my3 := pw_le (mny_le E 16)
    have es : smE E (exT g s t E q b) (T + 1) = smE E (exT g s t E q b) T + exT g s t E q b T := if_pos hT
    have ec : cnE E (T + 1) = cnE E T + 1 := by show cnE E T + (if T &&& E = T then 1 else 0) = _; rw [if_pos hT]
    have nx : ∀ sm2 : Int64, sm2 = sm + exT g s t E q b T → (k = 0 ∧ sm2 = V) ∨ ∃ T2, (nI T - 1) &&& nI E = nI T2 ∧ T2 &&& E = T2 ∧ cnE E (T2 + 1) = k ∧ V = sm2 + smE E (exT g s t E q b) (T2 + 1) := by
      intro sm2 e2
      rcases Nat.eq_zero_or_pos T with z | z
      · subst z
        left
        have c0 : cnE E 0 = 0 := rfl
        have s0 : smE E (exT g s t E q b) 0 = 0 := rfl
        refine ⟨by omega, ?_⟩
        rw [hV, es, s0, Int64.zero_add, e2]
      · right
        refine ⟨(T - 1) &&& E, by rw [nI_sub1 z, nb_and], sb_and _ _, ?_, ?_⟩
        · rw [← cn_pred z hT]; omega
        · rw [hV, es, ← sm_pred z hT, e2, Int64.add_assoc, Int64.add_comm (smE E _ T)]
    refine rn_iload 17 dX8_sumOfSubsets_15 rfl rfl ?_
    refine rn_iconst (v := 1) 18 dX8_sumOfSubsets_17 (by decide) rfl ?_
    refine rn_iload 20 dX8_sumOfSubsets_18 rfl rfl ?_
    refine rn_ishl 21 dX8_sumOfSubsets_20 rfl ?_
    rw [nb_1 (by have := mny_le E 16; omega)]
    refine rn_icmp_ge 123 24 dX8_sumOfSubsets_21 (by decide) rfl (fun c21 => absurd c21 (nI_ge (by omega) (by omega))) (fun _ => ?_)
    refine rn_aload_n 25 dX8_sumOfSubsets_24 rfl rfl rfl ?_
    refine rn_get 28 (.ref 8) dX8_sumOfSubsets_25 fl_X8_35 rfl rfl rfl rfl ?_
    refine rn_iload_n 29 dX8_sumOfSubsets_28 rfl rfl rfl ?_
    refine rn_iload_n 30 dX8_sumOfSubsets_29 rfl rfl rfl ?_
    refine rn_iload 32 dX8_sumOfSubsets_30 rfl rfl ?_
    refine rn_iconst (v := 0) 33 dX8_sumOfSubsets_32 (by decide) rfl ?_
    refine rn_callV mX5_measure [.int (nI s), .int (nI t), .int (nI T), .int 0] [] dX8_sumOfSubsets_33 cv_X8_137 rfl rfl rfl (by simp [Value.category]) (c_measure (d) (S := T) (s := s) (t := t) (rep := 0) (by omega) hs ht (by omega) h hg) (fun r1 m1 h1 q1 _ => ?_)
    obtain ⟨e1, R1, W1, f1⟩ := q1
    subst e1
    have hg1 : xg g m1 := xg_fr hg f1
    show rn_R _ mX8_sumOfSubsets _ 36 [some (.ref 0), some (.int (nI s)), some (.int (nI t)), some (.int (nI E)), some (.int (nI q)), some (.int (if b then 1 else 0)), some (.int (nI (mny E 16))), some (.long (sm)), none, some (.int (nI T)), some (.int (nI i)), none, none, none, none] [.int (nI (xD g T s t 0))] m1 h1 _
    refine rn_istore 38 [some (.ref 0), some (.int (nI s)), some (.int (nI t)), some (.int (nI E)), some (.int (nI q)), some (.int (if b then 1 else 0)), some (.int (nI (mny E 16))), some (.long (sm)), none, some (.int (nI T)), some (.int (nI i)), some (.int (nI (xD g T s t 0))), none, none, none] dX8_sumOfSubsets_36 rfl (Nat.le_of_ble_eq_true rfl) rfl ?_
    cases b with
    | true =>
      by_cases q9 : xD g T s t 0 = 9999
      · skip
        refine rn_iload 40 dX8_sumOfSubsets_38 rfl rfl ?_
        refine rn_iload 42 dX8_sumOfSubsets_40 rfl rfl ?_
        refine rn_sipush (v := 9999) 45 dX8_sumOfSubsets_42 (by decide) rfl ?_
        refine rn_icmp_ne 52 48 dX8_sumOfSubsets_45 (by decide) rfl (fun c45 => absurd (by rw [q9]; rfl) c45) (fun _ => ?_)
        refine rn_iconst (v := 1) 49 dX8_sumOfSubsets_48 (by decide) rfl ?_
        refine rn_goto 53 dX8_sumOfSubsets_49 (by decide) ?_
        refine rn_icmp_ne 109 56 dX8_sumOfSubsets_53 (by decide) rfl (fun c53 => absurd (rfl) c53) (fun _ => ?_)
        refine rn_iload 58 dX8_sumOfSubsets_56 rfl rfl ?_
        refine rn_csp mJ6_bitCount_0f7a4 [.int (nI T)] [] 61 (.int (nI (mny T 16))) dX8_sumOfSubsets_58 cs_X8_216 rfl rfl (by simp [Value.category]) rfl (c_bitCount (d + 2) m1 h1 (S := T) (by omega)) ?_
        refine rn_istore 63 [some (.ref 0), some (.int (nI s)), some (.int (nI t)), some (.int (nI E)), some (.int (nI q)), some (.int 1), some (.int (nI (mny E 16))), some (.long (sm)), none, some (.int (nI T)), some (.int (nI i)), some (.int (nI (xD g T s t 0))), some (.int (nI (mny T 16))), none, none] dX8_sumOfSubsets_61 rfl (Nat.le_of_ble_eq_true rfl) rfl ?_
        refine rn_iload 65 dX8_sumOfSubsets_63 rfl rfl ?_
        refine rn_i2l 66 dX8_sumOfSubsets_65 rfl ?_
        refine rn_iload 68 dX8_sumOfSubsets_66 rfl rfl ?_
        refine rn_csp mX8_power [.long (nI q).toInt64, .int (nI (mny T 16))] [] 71 (.long (pwL (nI q).toInt64 (mny T 16))) dX8_sumOfSubsets_68 cs_X8_246 rfl rfl (by simp [Value.category]) rfl (c_xpower (d + 2) m1 h1 (by omega)) ?_
        refine rn_bipush (v := 12) 73 dX8_sumOfSubsets_71 (by decide) rfl ?_
        refine rn_iload 75 dX8_sumOfSubsets_73 rfl rfl ?_
        refine rn_isub 76 dX8_sumOfSubsets_75 rfl ?_
        refine rn_i2l 77 dX8_sumOfSubsets_76 rfl ?_
        refine rn_iload 79 dX8_sumOfSubsets_77 rfl rfl ?_
        refine rn_iload 81 dX8_sumOfSubsets_79 rfl rfl ?_
        refine rn_isub 82 dX8_sumOfSubsets_81 rfl ?_
        rw [pk_sub my1]
        refine rn_csp mX8_power [.long (12 - (nI q)).toInt64, .int (nI (mny E 16 - mny T 16))] [.long (pwL (nI q).toInt64 (mny T 16))] 85 (.long (pwL (12 - nI q).toInt64 (mny E 16 - mny T 16))) dX8_sumOfSubsets_82 cs_X8_246 rfl rfl (by simp [Value.category]) rfl (c_xpower (d + 2) m1 h1 (by omega)) ?_
        refine rn_lmul 86 dX8_sumOfSubsets_85 rfl ?_
        refine rn_lstore 88 [some (.ref 0), some (.int (nI s)), some (.int (nI t)), some (.int (nI E)), some (.int (nI q)), some (.int 1), some (.int (nI (mny E 16))), some (.long (sm)), none, some (.int (nI T)), some (.int (nI i)), some (.int (nI (xD g T s t 0))), some (.int (nI (mny T 16))), some (.long ((pwL (nI q).toInt64 (mny T 16)) * (pwL (12 - nI q).toInt64 (mny E 16 - mny T 16)))), none] dX8_sumOfSubsets_86 rfl (Nat.le_of_ble_eq_true rfl) rfl ?_
        refine rn_lload 90 dX8_sumOfSubsets_88 rfl rfl ?_
        refine rn_iload 92 dX8_sumOfSubsets_90 rfl rfl ?_
        refine rn_if_eq 100 95 dX8_sumOfSubsets_92 (by decide) rfl (fun c92 => absurd c92 (by decide)) (fun _ => ?_)
        refine rn_lload 97 dX8_sumOfSubsets_95 rfl rfl ?_
        refine rn_goto 106 dX8_sumOfSubsets_97 (by decide) ?_
        refine rn_ladd 107 dX8_sumOfSubsets_106 rfl ?_
        refine rn_lstore 109 [some (.ref 0), some (.int (nI s)), some (.int (nI t)), some (.int (nI E)), some (.int (nI q)), some (.int 1), some (.int (nI (mny E 16))), some (.long (sm + ((pwL (nI q).toInt64 (mny T 16)) * (pwL (12 - nI q).toInt64 (mny E 16 - mny T 16))))), none, some (.int (nI T)), some (.int (nI i)), some (.int (nI (xD g T s t 0))), some (.int (nI (mny T 16))), some (.long ((pwL (nI q).toInt64 (mny T 16)) * (pwL (12 - nI q).toInt64 (mny E 16 - mny T 16)))), none] dX8_sumOfSubsets_107 rfl (Nat.le_of_ble_eq_true rfl) rfl ?_
        refine rn_iload 111 dX8_sumOfSubsets_109 rfl rfl ?_
        refine rn_iconst (v := 1) 112 dX8_sumOfSubsets_111 (by decide) rfl ?_
        refine rn_isub 113 dX8_sumOfSubsets_112 rfl ?_
        refine rn_iload_n 114 dX8_sumOfSubsets_113 rfl rfl rfl ?_
        refine rn_iand 115 dX8_sumOfSubsets_114 rfl ?_
        refine rn_istore 117 [some (.ref 0), some (.int (nI s)), some (.int (nI t)), some (.int (nI E)), some (.int (nI q)), some (.int 1), some (.int (nI (mny E 16))), some (.long (sm + ((pwL (nI q).toInt64 (mny T 16)) * (pwL (12 - nI q).toInt64 (mny E 16 - mny T 16))))), none, some (.int (((nI T) - 1) &&& (nI E))), some (.int (nI i)), some (.int (nI (xD g T s t 0))), some (.int (nI (mny T 16))), some (.long ((pwL (nI q).toInt64 (mny T 16)) * (pwL (12 - nI q).toInt64 (mny E 16 - mny T 16)))), none] dX8_sumOfSubsets_115 rfl (Nat.le_of_ble_eq_true rfl) rfl ?_
        refine rn_iinc (v := (nI (i + 1))) 120 [some (.ref 0), some (.int (nI s)), some (.int (nI t)), some (.int (nI E)), some (.int (nI q)), some (.int 1), some (.int (nI (mny E 16))), some (.long (sm + ((pwL (nI q).toInt64 (mny T 16)) * (pwL (12 - nI q).toInt64 (mny E 16 - mny T 16))))), none, some (.int (((nI T) - 1) &&& (nI E))), some (.int (nI (i + 1))), some (.int (nI (xD g T s t 0))), some (.int (nI (mny T 16))), some (.long ((pwL (nI q).toInt64 (mny T 16)) * (pwL (12 - nI q).toInt64 (mny E 16 - mny T 16)))), none] dX8_sumOfSubsets_117 rfl (nI_1 _) rfl rfl ?_
        refine rn_goto 15 dX8_sumOfSubsets_120 (by decide) ?_
        refine rn_drop 11 [some (.ref 0), some (.int (nI s)), some (.int (nI t)), some (.int (nI E)), some (.int (nI q)), some (.int 1), some (.int (nI (mny E 16))), some (.long (sm + ((pwL (nI q).toInt64 (mny T 16)) * (pwL (12 - nI q).toInt64 (mny E 16 - mny T 16))))), none, some (.int (((nI T) - 1) &&& (nI E))), some (.int (nI (i + 1))), none, some (.int (nI (mny T 16))), some (.long ((pwL (nI q).toInt64 (mny T 16)) * (pwL (12 - nI q).toInt64 (mny E 16 - mny T 16)))), none] rfl ?_
        refine rn_drop 12 [some (.ref 0), some (.int (nI s)), some (.int (nI t)), some (.int (nI E)), some (.int (nI q)), some (.int 1), some (.int (nI (mny E 16))), some (.long (sm + ((pwL (nI q).toInt64 (mny T 16)) * (pwL (12 - nI q).toInt64 (mny E 16 - mny T 16))))), none, some (.int (((nI T) - 1) &&& (nI E))), some (.int (nI (i + 1))), none, none, some (.long ((pwL (nI q).toInt64 (mny T 16)) * (pwL (12 - nI q).toInt64 (mny E 16 - mny T 16)))), none] rfl ?_
        refine rn_drop 13 [some (.ref 0), some (.int (nI s)), some (.int (nI t)), some (.int (nI E)), some (.int (nI q)), some (.int 1), some (.int (nI (mny E 16))), some (.long (sm + ((pwL (nI q).toInt64 (mny T 16)) * (pwL (12 - nI q).toInt64 (mny E 16 - mny T 16))))), none, some (.int (((nI T) - 1) &&& (nI E))), some (.int (nI (i + 1))), none, none, none, none] rfl ?_
        exact ih (i + 1) _ _ m1 h1 (by omega) hg1 (fun c hc => by rw [f1 c hc]; exact hfr c hc) (nx _ (by show _ = sm + (if xD g T s t 0 = 9999 then _ else _); rw [if_pos q9]; rfl))
      · skip
        refine rn_iload 40 dX8_sumOfSubsets_38 rfl rfl ?_
        refine rn_iload 42 dX8_sumOfSubsets_40 rfl rfl ?_
        refine rn_sipush (v := 9999) 45 dX8_sumOfSubsets_42 (by decide) rfl ?_
        refine rn_icmp_ne 52 48 dX8_sumOfSubsets_45 (by decide) rfl (fun _ => ?_) (fun c45 => absurd c45 (fun z => q9 ((nI_eq (b := 9999) (by omega) (by omega)).mp z)))
        refine rn_iconst (v := 0) 53 dX8_sumOfSubsets_52 (by decide) rfl ?_
        refine rn_icmp_ne 109 56 dX8_sumOfSubsets_53 (by decide) rfl (fun _ => ?_) (fun c53 => absurd c53 (by decide))
        refine rn_iload 111 dX8_sumOfSubsets_109 rfl rfl ?_
        refine rn_iconst (v := 1) 112 dX8_sumOfSubsets_111 (by decide) rfl ?_
        refine rn_isub 113 dX8_sumOfSubsets_112 rfl ?_
        refine rn_iload_n 114 dX8_sumOfSubsets_113 rfl rfl rfl ?_
        refine rn_iand 115 dX8_sumOfSubsets_114 rfl ?_
        refine rn_istore 117 [some (.ref 0), some (.int (nI s)), some (.int (nI t)), some (.int (nI E)), some (.int (nI q)), some (.int 1), some (.int (nI (mny E 16))), some (.long (sm)), none, some (.int (((nI T) - 1) &&& (nI E))), some (.int (nI i)), some (.int (nI (xD g T s t 0))), none, none, none] dX8_sumOfSubsets_115 rfl (Nat.le_of_ble_eq_true rfl) rfl ?_
        refine rn_iinc (v := (nI (i + 1))) 120 [some (.ref 0), some (.int (nI s)), some (.int (nI t)), some (.int (nI E)), some (.int (nI q)), some (.int 1), some (.int (nI (mny E 16))), some (.long (sm)), none, some (.int (((nI T) - 1) &&& (nI E))), some (.int (nI (i + 1))), some (.int (nI (xD g T s t 0))), none, none, none] dX8_sumOfSubsets_117 rfl (nI_1 _) rfl rfl ?_
        refine rn_goto 15 dX8_sumOfSubsets_120 (by decide) ?_
        refine rn_drop 11 [some (.ref 0), some (.int (nI s)), some (.int (nI t)), some (.int (nI E)), some (.int (nI q)), some (.int 1), some (.int (nI (mny E 16))), some (.long (sm)), none, some (.int (((nI T) - 1) &&& (nI E))), some (.int (nI (i + 1))), none, none, none, none] rfl ?_
        exact ih (i + 1) _ _ m1 h1 (by omega) hg1 (fun c hc => by rw [f1 c hc]; exact hfr c hc) (nx _ (by show _ = sm + (if xD g T s t 0 = 9999 then _ else _); rw [if_neg q9]; exact (Int64.add_zero _).symm))
    | false =>
      by_cases q9 : xD g T s t 0 = 9999
      · skip
        refine rn_iload 40 dX8_sumOfSubsets_38 rfl rfl ?_
        refine rn_iload 42 dX8_sumOfSubsets_40 rfl rfl ?_
        refine rn_sipush (v := 9999) 45 dX8_sumOfSubsets_42 (by decide) rfl ?_
        refine rn_icmp_ne 52 48 dX8_sumOfSubsets_45 (by decide) rfl (fun c45 => absurd (by rw [q9]; rfl) c45) (fun _ => ?_)
        refine rn_iconst (v := 1) 49 dX8_sumOfSubsets_48 (by decide) rfl ?_
        refine rn_goto 53 dX8_sumOfSubsets_49 (by decide) ?_
        refine rn_icmp_ne 109 56 dX8_sumOfSubsets_53 (by decide) rfl (fun _ => ?_) (fun c53 => absurd c53 (by decide))
        refine rn_iload 111 dX8_sumOfSubsets_109 rfl rfl ?_
        refine rn_iconst (v := 1) 112 dX8_sumOfSubsets_111 (by decide) rfl ?_
        refine rn_isub 113 dX8_sumOfSubsets_112 rfl ?_
        refine rn_iload_n 114 dX8_sumOfSubsets_113 rfl rfl rfl ?_
        refine rn_iand 115 dX8_sumOfSubsets_114 rfl ?_
        refine rn_istore 117 [some (.ref 0), some (.int (nI s)), some (.int (nI t)), some (.int (nI E)), some (.int (nI q)), some (.int 0), some (.int (nI (mny E 16))), some (.long (sm)), none, some (.int (((nI T) - 1) &&& (nI E))), some (.int (nI i)), some (.int (nI (xD g T s t 0))), none, none, none] dX8_sumOfSubsets_115 rfl (Nat.le_of_ble_eq_true rfl) rfl ?_
        refine rn_iinc (v := (nI (i + 1))) 120 [some (.ref 0), some (.int (nI s)), some (.int (nI t)), some (.int (nI E)), some (.int (nI q)), some (.int 0), some (.int (nI (mny E 16))), some (.long (sm)), none, some (.int (((nI T) - 1) &&& (nI E))), some (.int (nI (i + 1))), some (.int (nI (xD g T s t 0))), none, none, none] dX8_sumOfSubsets_117 rfl (nI_1 _) rfl rfl ?_
        refine rn_goto 15 dX8_sumOfSubsets_120 (by decide) ?_
        refine rn_drop 11 [some (.ref 0), some (.int (nI s)), some (.int (nI t)), some (.int (nI E)), some (.int (nI q)), some (.int 0), some (.int (nI (mny E 16))), some (.long (sm)), none, some (.int (((nI T) - 1) &&& (nI E))), some (.int (nI (i + 1))), none, none, none, none] rfl ?_
        exact ih (i + 1) _ _ m1 h1 (by omega) hg1 (fun c hc => by rw [f1 c hc]; exact hfr c hc) (nx _ (by show _ = sm + (if xD g T s t 0 = 9999 then _ else _); rw [if_pos q9]; exact (Int64.add_zero _).symm))
      · skip
        refine rn_iload 40 dX8_sumOfSubsets_38 rfl rfl ?_
        refine rn_iload 42 dX8_sumOfSubsets_40 rfl rfl ?_
        refine rn_sipush (v := 9999) 45 dX8_sumOfSubsets_42 (by decide) rfl ?_
        refine rn_icmp_ne 52 48 dX8_sumOfSubsets_45 (by decide) rfl (fun _ => ?_) (fun c45 => absurd c45 (fun z => q9 ((nI_eq (b := 9999) (by omega) (by omega)).mp z)))
        refine rn_iconst (v := 0) 53 dX8_sumOfSubsets_52 (by decide) rfl ?_
        refine rn_icmp_ne 109 56 dX8_sumOfSubsets_53 (by decide) rfl (fun c53 => absurd (rfl) c53) (fun _ => ?_)
        refine rn_iload 58 dX8_sumOfSubsets_56 rfl rfl ?_
        refine rn_csp mJ6_bitCount_0f7a4 [.int (nI T)] [] 61 (.int (nI (mny T 16))) dX8_sumOfSubsets_58 cs_X8_216 rfl rfl (by simp [Value.category]) rfl (c_bitCount (d + 2) m1 h1 (S := T) (by omega)) ?_
        refine rn_istore 63 [some (.ref 0), some (.int (nI s)), some (.int (nI t)), some (.int (nI E)), some (.int (nI q)), some (.int 0), some (.int (nI (mny E 16))), some (.long (sm)), none, some (.int (nI T)), some (.int (nI i)), some (.int (nI (xD g T s t 0))), some (.int (nI (mny T 16))), none, none] dX8_sumOfSubsets_61 rfl (Nat.le_of_ble_eq_true rfl) rfl ?_
        refine rn_iload 65 dX8_sumOfSubsets_63 rfl rfl ?_
        refine rn_i2l 66 dX8_sumOfSubsets_65 rfl ?_
        refine rn_iload 68 dX8_sumOfSubsets_66 rfl rfl ?_
        refine rn_csp mX8_power [.long (nI q).toInt64, .int (nI (mny T 16))] [] 71 (.long (pwL (nI q).toInt64 (mny T 16))) dX8_sumOfSubsets_68 cs_X8_246 rfl rfl (by simp [Value.category]) rfl (c_xpower (d + 2) m1 h1 (by omega)) ?_
        refine rn_bipush (v := 12) 73 dX8_sumOfSubsets_71 (by decide) rfl ?_
        refine rn_iload 75 dX8_sumOfSubsets_73 rfl rfl ?_
        refine rn_isub 76 dX8_sumOfSubsets_75 rfl ?_
        refine rn_i2l 77 dX8_sumOfSubsets_76 rfl ?_
        refine rn_iload 79 dX8_sumOfSubsets_77 rfl rfl ?_
        refine rn_iload 81 dX8_sumOfSubsets_79 rfl rfl ?_
        refine rn_isub 82 dX8_sumOfSubsets_81 rfl ?_
        rw [pk_sub my1]
        refine rn_csp mX8_power [.long (12 - (nI q)).toInt64, .int (nI (mny E 16 - mny T 16))] [.long (pwL (nI q).toInt64 (mny T 16))] 85 (.long (pwL (12 - nI q).toInt64 (mny E 16 - mny T 16))) dX8_sumOfSubsets_82 cs_X8_246 rfl rfl (by simp [Value.category]) rfl (c_xpower (d + 2) m1 h1 (by omega)) ?_
        refine rn_lmul 86 dX8_sumOfSubsets_85 rfl ?_
        refine rn_lstore 88 [some (.ref 0), some (.int (nI s)), some (.int (nI t)), some (.int (nI E)), some (.int (nI q)), some (.int 0), some (.int (nI (mny E 16))), some (.long (sm)), none, some (.int (nI T)), some (.int (nI i)), some (.int (nI (xD g T s t 0))), some (.int (nI (mny T 16))), some (.long ((pwL (nI q).toInt64 (mny T 16)) * (pwL (12 - nI q).toInt64 (mny E 16 - mny T 16)))), none] dX8_sumOfSubsets_86 rfl (Nat.le_of_ble_eq_true rfl) rfl ?_
        refine rn_lload 90 dX8_sumOfSubsets_88 rfl rfl ?_
        refine rn_iload 92 dX8_sumOfSubsets_90 rfl rfl ?_
        refine rn_if_eq 100 95 dX8_sumOfSubsets_92 (by decide) rfl (fun _ => ?_) (fun c92 => absurd (by decide) c92)
        refine rn_lload 102 dX8_sumOfSubsets_100 rfl rfl ?_
        refine rn_iload 104 dX8_sumOfSubsets_102 rfl rfl ?_
        refine rn_i2l 105 dX8_sumOfSubsets_104 rfl ?_
        refine rn_lmul 106 dX8_sumOfSubsets_105 rfl ?_
        refine rn_ladd 107 dX8_sumOfSubsets_106 rfl ?_
        refine rn_lstore 109 [some (.ref 0), some (.int (nI s)), some (.int (nI t)), some (.int (nI E)), some (.int (nI q)), some (.int 0), some (.int (nI (mny E 16))), some (.long (sm + (((pwL (nI q).toInt64 (mny T 16)) * (pwL (12 - nI q).toInt64 (mny E 16 - mny T 16))) * ((nI (xD g T s t 0)).toInt64)))), none, some (.int (nI T)), some (.int (nI i)), some (.int (nI (xD g T s t 0))), some (.int (nI (mny T 16))), some (.long ((pwL (nI q).toInt64 (mny T 16)) * (pwL (12 - nI q).toInt64 (mny E 16 - mny T 16)))), none] dX8_sumOfSubsets_107 rfl (Nat.le_of_ble_eq_true rfl) rfl ?_
        refine rn_iload 111 dX8_sumOfSubsets_109 rfl rfl ?_
        refine rn_iconst (v := 1) 112 dX8_sumOfSubsets_111 (by decide) rfl ?_
        refine rn_isub 113 dX8_sumOfSubsets_112 rfl ?_
        refine rn_iload_n 114 dX8_sumOfSubsets_113 rfl rfl rfl ?_
        refine rn_iand 115 dX8_sumOfSubsets_114 rfl ?_
        refine rn_istore 117 [some (.ref 0), some (.int (nI s)), some (.int (nI t)), some (.int (nI E)), some (.int (nI q)), some (.int 0), some (.int (nI (mny E 16))), some (.long (sm + (((pwL (nI q).toInt64 (mny T 16)) * (pwL (12 - nI q).toInt64 (mny E 16 - mny T 16))) * ((nI (xD g T s t 0)).toInt64)))), none, some (.int (((nI T) - 1) &&& (nI E))), some (.int (nI i)), some (.int (nI (xD g T s t 0))), some (.int (nI (mny T 16))), some (.long ((pwL (nI q).toInt64 (mny T 16)) * (pwL (12 - nI q).toInt64 (mny E 16 - mny T 16)))), none] dX8_sumOfSubsets_115 rfl (Nat.le_of_ble_eq_true rfl) rfl ?_
        refine rn_iinc (v := (nI (i + 1))) 120 [some (.ref 0), some (.int (nI s)), some (.int (nI t)), some (.int (nI E)), some (.int (nI q)), some (.int 0), some (.int (nI (mny E 16))), some (.long (sm + (((pwL (nI q).toInt64 (mny T 16)) * (pwL (12 - nI q).toInt64 (mny E 16 - mny T 16))) * ((nI (xD g T s t 0)).toInt64)))), none, some (.int (((nI T) - 1) &&& (nI E))), some (.int (nI (i + 1))), some (.int (nI (xD g T s t 0))), some (.int (nI (mny T 16))), some (.long ((pwL (nI q).toInt64 (mny T 16)) * (pwL (12 - nI q).toInt64 (mny E 16 - mny T 16)))), none] dX8_sumOfSubsets_117 rfl (nI_1 _) rfl rfl ?_
        refine rn_goto 15 dX8_sumOfSubsets_120 (by decide) ?_
        refine rn_drop 11 [some (.ref 0), some (.int (nI s)), some (.int (nI t)), some (.int (nI E)), some (.int (nI q)), some (.int 0), some (.int (nI (mny E 16))), some (.long (sm + (((pwL (nI q).toInt64 (mny T 16)) * (pwL (12 - nI q).toInt64 (mny E 16 - mny T 16))) * ((nI (xD g T s t 0)).toInt64)))), none, some (.int (((nI T) - 1) &&& (nI E))), some (.int (nI (i + 1))), none, some (.int (nI (mny T 16))), some (.long ((pwL (nI q).toInt64 (mny T 16)) * (pwL (12 - nI q).toInt64 (mny E 16 - mny T 16)))), none] rfl ?_
        refine rn_drop 12 [some (.ref 0), some (.int (nI s)), some (.int (nI t)), some (.int (nI E)), some (.int (nI q)), some (.int 0), some (.int (nI (mny E 16))), some (.long (sm + (((pwL (nI q).toInt64 (mny T 16)) * (pwL (12 - nI q).toInt64 (mny E 16 - mny T 16))) * ((nI (xD g T s t 0)).toInt64)))), none, some (.int (((nI T) - 1) &&& (nI E))), some (.int (nI (i + 1))), none, none, some (.long ((pwL (nI q).toInt64 (mny T 16)) * (pwL (12 - nI q).toInt64 (mny E 16 - mny T 16)))), none] rfl ?_
        refine rn_drop 13 [some (.ref 0), some (.int (nI s)), some (.int (nI t)), some (.int (nI E)), some (.int (nI q)), some (.int 0), some (.int (nI (mny E 16))), some (.long (sm + (((pwL (nI q).toInt64 (mny T 16)) * (pwL (12 - nI q).toInt64 (mny E 16 - mny T 16))) * ((nI (xD g T s t 0)).toInt64)))), none, some (.int (((nI T) - 1) &&& (nI E))), some (.int (nI (i + 1))), none, none, none, none] rfl ?_
        exact ih (i + 1) _ _ m1 h1 (by omega) hg1 (fun c hc => by rw [f1 c hc]; exact hfr c hc) (nx _ (by show _ = sm + (if xD g T s t 0 = 9999 then _ else _); rw [if_neg q9]; rfl))

set_option maxRecDepth 100000 in
set_option maxHeartbeats 2000000 in
theorem c_sumSub (d : Nat) {g : List Ed} {s t E q : Nat} {b : Bool} (hs : s < 8) (ht : t < 8) (hE : E < 2 ^ 16) {mu : Nat → Nat → Int32} (h : Int64) (hg : xg g mu) : gd_G mX8_sumOfSubsets (d + 3) [.ref 0, .int (nI s), .int (nI t), .int (nI E), .int (nI q), .int (if b then 1 else 0)] mu h (fun r mu' _ => r = some (.long (smE E (exT g s t E q b) (E + 1))) ∧ ∀ c, (c < 9 ∨ 13 < c) → mu' c = mu c) := by
  refine gd_of rfl (Nat.le_of_ble_eq_true rfl) ?_
  show rn_R none mX8_sumOfSubsets (d + 3) 0 [some (.ref 0), some (.int (nI s)), some (.int (nI t)), some (.int (nI E)), some (.int (nI q)), some (.int (if b then 1 else 0)), none, none, none, none, none, none, none, none, none] [] mu h (fun r mu' _ => r = some (.long (smE E (exT g s t E q b) (E + 1))) ∧ ∀ c, (c < 9 ∨ 13 < c) → mu' c = mu c)
  refine rn_iload_n 1 dX8_sumOfSubsets_0 rfl rfl rfl ?_
  refine rn_csp mJ6_bitCount_0f7a4 [.int (nI E)] [] 4 (.int (nI (mny E 16))) dX8_sumOfSubsets_1 cs_X8_216 rfl rfl (by simp [Value.category]) rfl (c_bitCount (d + 2) mu h (S := E) (by omega)) ?_
  refine rn_istore 6 [some (.ref 0), some (.int (nI s)), some (.int (nI t)), some (.int (nI E)), some (.int (nI q)), some (.int (if b then 1 else 0)), some (.int (nI (mny E 16))), none, none, none, none, none, none, none, none] dX8_sumOfSubsets_4 rfl (Nat.le_of_ble_eq_true rfl) rfl ?_
  refine rn_lconst (v := 0) 7 dX8_sumOfSubsets_6 (by decide) rfl ?_
  refine rn_lstore 9 [some (.ref 0), some (.int (nI s)), some (.int (nI t)), some (.int (nI E)), some (.int (nI q)), some (.int (if b then 1 else 0)), some (.int (nI (mny E 16))), some (.long 0), none, none, none, none, none, none, none] dX8_sumOfSubsets_7 rfl (Nat.le_of_ble_eq_true rfl) rfl ?_
  refine rn_iload_n 10 dX8_sumOfSubsets_9 rfl rfl rfl ?_
  refine rn_istore 12 [some (.ref 0), some (.int (nI s)), some (.int (nI t)), some (.int (nI E)), some (.int (nI q)), some (.int (if b then 1 else 0)), some (.int (nI (mny E 16))), some (.long 0), none, some (.int (nI E)), none, none, none, none, none] dX8_sumOfSubsets_10 rfl (Nat.le_of_ble_eq_true rfl) rfl ?_
  refine rn_iconst (v := 0) 13 dX8_sumOfSubsets_12 (by decide) rfl ?_
  refine rn_istore 15 [some (.ref 0), some (.int (nI s)), some (.int (nI t)), some (.int (nI E)), some (.int (nI q)), some (.int (if b then 1 else 0)), some (.int (nI (mny E 16))), some (.long 0), none, some (.int (nI E)), some (.int 0), none, none, none, none] dX8_sumOfSubsets_13 rfl (Nat.le_of_ble_eq_true rfl) rfl ?_
  refine lp_ss d (V := smE E (exT g s t E q b) (E + 1)) hs ht hE (2 ^ mny E 16) 0 (nI E) 0 mu h (by omega) hg (fun _ _ => rfl) (Or.inr ⟨E, rfl, Nat.and_self E, cn_top hE, (Int64.zero_add _).symm⟩)
