/-! BITS: sets of edges as numbers -/
theorem nb_and (a b : Nat) : nI a &&& nI b = nI (a &&& b) := by
  apply Int32.toBitVec_inj.1
  show BitVec.ofNat 32 a &&& BitVec.ofNat 32 b = BitVec.ofNat 32 (a &&& b)
  apply BitVec.eq_of_getLsbD_eq
  intro i hi
  simp [hi]
theorem nb_or (a b : Nat) : nI a ||| nI b = nI (a ||| b) := by
  apply Int32.toBitVec_inj.1
  show BitVec.ofNat 32 a ||| BitVec.ofNat 32 b = BitVec.ofNat 32 (a ||| b)
  apply BitVec.eq_of_getLsbD_eq
  intro i hi
  simp [hi]
theorem nb_xor (a b : Nat) : nI a ^^^ nI b = nI (a ^^^ b) := by
  apply Int32.toBitVec_inj.1
  show BitVec.ofNat 32 a ^^^ BitVec.ofNat 32 b = BitVec.ofNat 32 (a ^^^ b)
  apply BitVec.eq_of_getLsbD_eq
  intro i hi
  simp [hi]
/-- a without b -/
def nd (a b : Nat) : Nat := a ^^^ (a &&& b)
theorem nd_bit (a b i : Nat) : (nd a b).testBit i = (a.testBit i && !b.testBit i) := by
  unfold nd
  rw [Nat.testBit_xor, Nat.testBit_and]
  cases a.testBit i <;> cases b.testBit i <;> rfl
theorem nb_andn (a b : Nat) : nI a &&& (nI b ^^^ (-1)) = nI (nd a b) := by
  apply Int32.toBitVec_inj.1
  show BitVec.ofNat 32 a &&& (BitVec.ofNat 32 b ^^^ BitVec.allOnes 32) = BitVec.ofNat 32 (nd a b)
  apply BitVec.eq_of_getLsbD_eq
  intro i hi
  simp only [BitVec.getLsbD_and, BitVec.getLsbD_xor, BitVec.getLsbD_ofNat, BitVec.getLsbD_allOnes, hi, decide_true, Bool.true_and, nd_bit]
  cases a.testBit i <;> cases b.testBit i <;> rfl
theorem sh_k : ∀ n, n < 32 → ((nI n &&& 31).toBitVec.smod 32).toNat = n := by decide +kernel
theorem nb_shl {n : Nat} {e : Nat} (he : e < 32) (hn : n * 2 ^ e < 2 ^ 32) : nI n <<< (nI e &&& 31) = nI (n * 2 ^ e) := pk_shlN _ e (sh_k e he) hn
theorem nb_1 {e : Nat} (he : e < 31) : (1 : Int32) <<< (nI e &&& 31) = nI (2 ^ e) := by
  have h1 : 2 ^ e ≤ 2 ^ 30 := Nat.pow_le_pow_right (by omega) (by omega)
  have := nb_shl (n := 1) (e := e) (by omega) (by rw [Nat.one_mul]; exact Nat.lt_of_le_of_lt h1 (by decide))
  rw [Nat.one_mul] at this
  exact this
theorem nb_shr {n e : Nat} (hn : n < 2 ^ 31) (he : e < 32) : nI n >>> (nI e &&& 31) = nI (n / 2 ^ e) := pk_shrN hn _ e (sh_k e he)
/-- the bit e of a set -/
theorem nb_bit {n e : Nat} (hn : n < 2 ^ 31) (he : e < 32) : (nI n >>> (nI e &&& 31)) &&& 1 = (if n.testBit e then 1 else 0) := by
  rw [nb_shr hn he]
  show nI (n / 2 ^ e) &&& nI 1 = _
  rw [nb_and, Nat.and_one_is_mod, Nat.testBit_eq_decide_div_mod_eq]
  have h2 : n / 2 ^ e % 2 < 2 := Nat.mod_lt _ (by omega)
  rcases (show n / 2 ^ e % 2 = 0 ∨ n / 2 ^ e % 2 = 1 by omega) with h | h
  · rw [h]; rfl
  · rw [h]; rfl
theorem bt_0 {b : Bool} : (if b = true then (1 : Int32) else 0) = 0 ↔ b = false := by cases b <;> decide
theorem bt_1 {b : Bool} : (if b = true then (1 : Int32) else 0) = 1 ↔ b = true := by cases b <;> decide
theorem pw_le {n : Nat} (h : n ≤ 16) : 2 ^ n ≤ 65536 := Nat.pow_le_pow_right (n := 2) (by omega) h
theorem pw_pos (n : Nat) : 0 < 2 ^ n := Nat.two_pow_pos n
theorem tb_lt {a n i : Nat} (h : a < 2 ^ n) (hb : a.testBit i = true) : i < n := by
  rcases Nat.lt_or_ge i n with q | q
  · exact q
  · rw [Nat.testBit_lt_two_pow (Nat.lt_of_lt_of_le h (Nat.pow_le_pow_right (by omega) q))] at hb
    cases hb
theorem tb_ext {a b : Nat} (h : ∀ i, a.testBit i = b.testBit i) : a = b := Nat.eq_of_testBit_eq h
theorem tb_pow (n i : Nat) : (2 ^ n).testBit i = decide (n = i) := Nat.testBit_two_pow
theorem tb_or_lt {a b n : Nat} (ha : a < 2 ^ n) (hb : b < 2 ^ n) : a ||| b < 2 ^ n := Nat.or_lt_two_pow ha hb
theorem tb_add_lt {a n e : Nat} (ha : a < 2 ^ n) (he : e < n) : a ||| 2 ^ e < 2 ^ n := Nat.or_lt_two_pow ha (Nat.pow_lt_pow_right (by omega) he)
theorem nd_lt {a b n : Nat} (ha : a < 2 ^ n) : nd a b < 2 ^ n := Nat.xor_lt_two_pow ha (Nat.lt_of_le_of_lt Nat.and_le_left ha)
/-- a number that is no set below 2^n has a bit beyond -/
theorem nb_in {v : Int32} {n : Nat} (hn : n ≤ 16) (h : v &&& (nI (2 ^ n - 1) ^^^ (-1)) = 0) : isin v (2 ^ n) := by
  have hp := pw_le hn
  have hpos := pw_pos n
  have e1 : v &&& nI (2 ^ n - 1) = v := by
    apply Int32.toBitVec_inj.1
    have h1 : v.toBitVec &&& (BitVec.ofNat 32 (2 ^ n - 1) ^^^ BitVec.allOnes 32) = 0#32 := congrArg Int32.toBitVec h
    show v.toBitVec &&& BitVec.ofNat 32 (2 ^ n - 1) = v.toBitVec
    apply BitVec.eq_of_getLsbD_eq
    intro i hi
    have h2 := congrArg (fun z : BitVec 32 => z.getLsbD i) h1
    simp only [BitVec.getLsbD_and, BitVec.getLsbD_xor, BitVec.getLsbD_allOnes, hi, decide_true, BitVec.getLsbD_zero] at h2
    rw [BitVec.getLsbD_and]
    revert h2
    cases v.toBitVec.getLsbD i <;> cases (BitVec.ofNat 32 (2 ^ n - 1)).getLsbD i <;> decide
  have hm : (nI (2 ^ n - 1)).toBitVec.toNat = 2 ^ n - 1 := pk_tn (by omega)
  have e2 := pk_and v (m := nI (2 ^ n - 1)) n hm
  rw [e1] at e2
  exact ⟨_, Nat.mod_lt _ hpos, e2⟩
theorem nb_out {S n : Nat} (hS : S < 2 ^ n) : nI S &&& (nI (2 ^ n - 1) ^^^ (-1)) = 0 := by
  rw [nb_andn]
  have : nd S (2 ^ n - 1) = 0 := by
    apply tb_ext
    intro i
    rw [nd_bit, Nat.zero_testBit, Nat.testBit_two_pow_sub_one]
    cases hb : S.testBit i with
    | false => rfl
    | true => simp [tb_lt hS hb]
  rw [this]
  rfl
def pkv (a b l y c : Nat) : Int32 := nI (a + 8 * b + 64 * l + 8192 * y + 1048576 * c)
theorem pk_or {a b k : Nat} (ha : a < 2 ^ k) : nI a ||| nI (b * 2 ^ k) = nI (a + b * 2 ^ k) := by
  rw [nb_or, Nat.or_comm, Nat.mul_comm b, Nat.add_comm, Nat.two_pow_add_eq_or_of_lt ha]
theorem pkv_of {a b l y c : Nat} (ha : a < 8) (hb : b < 8) (hl : l < 128) (hy : y < 128) (hc : c < 16) : (((nI a ||| nI b <<< ((3 : Int32) &&& 31)) ||| nI l <<< ((6 : Int32) &&& 31)) ||| nI y <<< ((13 : Int32) &&& 31)) ||| nI c <<< ((20 : Int32) &&& 31) = pkv a b l y c := by
  have s3 : nI b <<< ((3 : Int32) &&& 31) = nI (b * 2 ^ 3) := nb_shl (e := 3) (by omega) (by omega)
  have s6 : nI l <<< ((6 : Int32) &&& 31) = nI (l * 2 ^ 6) := nb_shl (e := 6) (by omega) (by omega)
  have s13 : nI y <<< ((13 : Int32) &&& 31) = nI (y * 2 ^ 13) := nb_shl (e := 13) (by omega) (by omega)
  have s20 : nI c <<< ((20 : Int32) &&& 31) = nI (c * 2 ^ 20) := nb_shl (e := 20) (by omega) (by omega)
  rw [s3, s6, s13, s20, pk_or (by omega), pk_or (by omega), pk_or (by omega), pk_or (by omega)]
  unfold pkv
  congr 1
  omega
theorem ex_k {n k m : Nat} (hn : n < 2 ^ 31) (hk : k < 32) (hm : m ≤ 30) : (nI n >>> (nI k &&& 31)) &&& nI (2 ^ m - 1) = nI (n / 2 ^ k % 2 ^ m) := by
  rw [nb_shr hn hk, nb_and, Nat.and_two_pow_sub_one_eq_mod]
theorem pkv_5 {a b l y c : Nat} (h1 : a < 8) (h2 : b < 8) (h3 : l < 128) (h5 : y < 128) (h7 : c < 16) : pkv a b l y c &&& 7 = nI a ∧ (pkv a b l y c >>> (3 &&& 31)) &&& 7 = nI b ∧ (pkv a b l y c >>> (6 &&& 31)) &&& 127 = nI l ∧ (pkv a b l y c >>> (13 &&& 31)) &&& 127 = nI y ∧ (pkv a b l y c >>> (20 &&& 31)) &&& 15 = nI c := by
  have hn : a + 8 * b + 64 * l + 8192 * y + 1048576 * c < 2 ^ 31 := by omega
  refine ⟨?_, ?_, ?_, ?_, ?_⟩
  · show nI _ &&& nI (2 ^ 3 - 1) = nI a
    rw [nb_and, Nat.and_two_pow_sub_one_eq_mod]
    congr 1; omega
  · show (nI _ >>> (nI 3 &&& 31)) &&& nI (2 ^ 3 - 1) = nI b
    rw [ex_k hn (by omega) (by omega)]
    congr 1; omega
  · show (nI _ >>> (nI 6 &&& 31)) &&& nI (2 ^ 7 - 1) = nI l
    rw [ex_k hn (by omega) (by omega)]
    congr 1; omega
  · show (nI _ >>> (nI 13 &&& 31)) &&& nI (2 ^ 7 - 1) = nI y
    rw [ex_k hn (by omega) (by omega)]
    congr 1; omega
  · show (nI _ >>> (nI 20 &&& 31)) &&& nI (2 ^ 4 - 1) = nI c
    rw [ex_k hn (by omega) (by omega)]
    congr 1; omega
/-- one part of a number set anew -/
theorem st_bits {lo u v hi s m : Nat} (hl : lo < 2 ^ s) (hu : u < 2 ^ m) (hv : v < 2 ^ m) : nd (2 ^ s * (2 ^ m * hi + u) + lo) (2 ^ s * (2 ^ m - 1)) ||| 2 ^ s * v = 2 ^ s * (2 ^ m * hi + v) + lo := by
  apply tb_ext
  intro i
  have e1 : (2 ^ s * (2 ^ m - 1)).testBit i = (decide (s ≤ i) && decide (i - s < m)) := by
    rw [Nat.testBit_two_pow_mul, Nat.testBit_two_pow_sub_one]
  have e2 : (2 ^ s * v).testBit i = (decide (s ≤ i) && v.testBit (i - s)) := Nat.testBit_two_pow_mul
  rw [Nat.testBit_or, nd_bit, Nat.testBit_two_pow_mul_add _ hl, Nat.testBit_two_pow_mul_add _ hl, e1, e2, Nat.testBit_two_pow_mul_add _ hu, Nat.testBit_two_pow_mul_add _ hv]
  by_cases h1 : i < s
  · simp [h1, show ¬ s ≤ i by omega]
  · by_cases h2 : i - s < m
    · simp [h1, h2, show s ≤ i by omega]
    · have h3 : v.testBit (i - s) = false := Nat.testBit_lt_two_pow (Nat.lt_of_lt_of_le hv (Nat.pow_le_pow_right (by omega) (by omega)))
      simp [h1, h2, show s ≤ i by omega, h3]
