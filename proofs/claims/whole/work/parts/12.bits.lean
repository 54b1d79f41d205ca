/-! BITS: sets of edges as numbers -/
theorem nb_and (a b : Nat) : nI a &&& nI b = nI (a &&& b) := by
  apply Int32.toBitVec_inj.1
  show BitVec.ofNat 32 a &&& BitVec.ofNat 32 b = BitVec.ofNat 32 (a &&& b)
  apply BitVec.eq_of_getLsbD_eq
  intro i hi
  simp [hi]
theorem nb_or (a b : Nat) : nI a ||| nI b = nI (a ||| b) := by
  apply Int32.toBitVec_inj.1
  show BitVec.ofNat 32 a ||| BitVec.ofNat 32 b = BitVec.ofNat 32 (a ||| b)
  apply BitVec.eq_of_getLsbD_eq
  intro i hi
  simp [hi]
theorem nb_xor (a b : Nat) : nI a ^^^ nI b = nI (a ^^^ b) := by
  apply Int32.toBitVec_inj.1
  show BitVec.ofNat 32 a ^^^ BitVec.ofNat 32 b = BitVec.ofNat 32 (a ^^^ b)
  apply BitVec.eq_of_getLsbD_eq
  intro i hi
  simp [hi]
/-- a without b -/
def nd (a b : Nat) : Nat := a ^^^ (a &&& b)
theorem nd_bit (a b i : Nat) : (nd a b).testBit i = (a.testBit i && !b.testBit i) := by
  unfold nd
  rw [Nat.testBit_xor, Nat.testBit_and]
  cases a.testBit i <;> cases b.testBit i <;> rfl
theorem nb_andn (a b : Nat) : nI a &&& (nI b ^^^ (-1)) = nI (nd a b) := by
  apply Int32.toBitVec_inj.1
  show BitVec.ofNat 32 a &&& (BitVec.ofNat 32 b ^^^ BitVec.allOnes 32) = BitVec.ofNat 32 (nd a b)
  apply BitVec.eq_of_getLsbD_eq
  intro i hi
  simp only [BitVec.getLsbD_and, BitVec.getLsbD_xor, BitVec.getLsbD_ofNat, BitVec.getLsbD_allOnes, hi, decide_true, Bool.true_and, nd_bit]
  cases a.testBit i <;> cases b.testBit i <;> rfl
theorem sh_k : ∀ n, n < 32 → ((nI n &&& 31).toBitVec.smod 32).toNat = n := by decide +kernel
theorem nb_shl {n : Nat} {e : Nat} (he : e < 32) (hn : n * 2 ^ e < 2 ^ 32) : nI n <<< (nI e &&& 31) = nI (n * 2 ^ e) := pk_shlN _ e (sh_k e he) hn
theorem nb_1 {e : Nat} (he : e < 31) : (1 : Int32) <<< (nI e &&& 31) = nI (2 ^ e) := by
  have h1 : 2 ^ e ≤ 2 ^ 30 := Nat.pow_le_pow_right (by omega) (by omega)
  have := nb_shl (n := 1) (e := e) (by omega) (by rw [Nat.one_mul]; exact Nat.lt_of_le_of_lt h1 (by decide))
  rw [Nat.one_mul] at this
  exact this
theorem nb_shr {n e : Nat} (hn : n < 2 ^ 31) (he : e < 32) : nI n >>> (nI e &&& 31) = nI (n / 2 ^ e) := pk_shrN hn _ e (sh_k e he)
/-- the bit e of a set -/
theorem nb_bit {n e : Nat} (hn : n < 2 ^ 31) (he : e < 32) : (nI n >>> (nI e &&& 31)) &&& 1 = (if n.testBit e then 1 else 0) := by
  rw [nb_shr hn he]
  show nI (n / 2 ^ e) &&& nI 1 = _
  rw [nb_and, Nat.and_one_is_mod, Nat.testBit_eq_decide_div_mod_eq]
  have h2 : n / 2 ^ e % 2 < 2 := Nat.mod_lt _ (by omega)
  rcases (show n / 2 ^ e % 2 = 0 ∨ n / 2 ^ e % 2 = 1 by omega) with h | h
  · rw [h]; rfl
  · rw [h]; rfl
theorem bt_0 {b : Bool} : (if b = true then (1 : Int32) else 0) = 0 ↔ b = false := by cases b <;> decide
theorem bt_1 {b : Bool} : (if b = true then (1 : Int32) else 0) = 1 ↔ b = true := by cases b <;> decide
theorem pw_le {n : Nat} (h : n ≤ 16) : 2 ^ n ≤ 65536 := Nat.pow_le_pow_right (n := 2) (by omega) h
theorem pw_pos (n : Nat) : 0 < 2 ^ n := Nat.two_pow_pos n
theorem tb_lt {a n i : Nat} (h : a < 2 ^ n) (hb : a.testBit i = true) : i < n := by
  rcases Nat.lt_or_ge i n with q | q
  · exact q
  · rw [Nat.testBit_lt_two_pow (Nat.lt_of_lt_of_le h (Nat.pow_le_pow_right (by omega) q))] at hb
    cases hb
theorem tb_ext {a b : Nat} (h : ∀ i, a.testBit i = b.testBit i) : a = b := Nat.eq_of_testBit_eq h
theorem tb_pow (n i : Nat) : (2 ^ n).testBit i = decide (n = i) := Nat.testBit_two_pow
theorem tb_or_lt {a b n : Nat} (ha : a < 2 ^ n) (hb : b < 2 ^ n) : a ||| b < 2 ^ n := Nat.or_lt_two_pow ha hb
theorem tb_add_lt {a n e : Nat} (ha : a < 2 ^ n) (he : e < n) : a ||| 2 ^ e < 2 ^ n := Nat.or_lt_two_pow ha (Nat.pow_lt_pow_right (by omega) he)
theorem nd_lt {a b n : Nat} (ha : a < 2 ^ n) : nd a b < 2 ^ n := Nat.xor_lt_two_pow ha (Nat.lt_of_le_of_lt Nat.and_le_left ha)
/-- a number that is no set below 2^n has a bit beyond -/
theorem nb_in {v : Int32} {n : Nat} (hn : n ≤ 16) (h : v &&& (nI (2 ^ n - 1) ^^^ (-1)) = 0) : isin v (2 ^ n) := by
  have hp := pw_le hn
  have hpos := pw_pos n
  have e1 : v &&& nI (2 ^ n - 1) = v := by
    apply Int32.toBitVec_inj.1
    have h1 : v.toBitVec &&& (BitVec.ofNat 32 (2 ^ n - 1) ^^^ BitVec.allOnes 32) = 0#32 := congrArg Int32.toBitVec h
    show v.toBitVec &&& BitVec.ofNat 32 (2 ^ n - 1) = v.toBitVec
    apply BitVec.eq_of_getLsbD_eq
    intro i hi
    have h2 := congrArg (fun z : BitVec 32 => z.getLsbD i) h1
    simp only [BitVec.getLsbD_and, BitVec.getLsbD_xor, BitVec.getLsbD_allOnes, hi, decide_true, BitVec.getLsbD_zero] at h2
    rw [BitVec.getLsbD_and]
    revert h2
    cases v.toBitVec.getLsbD i <;> cases (BitVec.ofNat 32 (2 ^ n - 1)).getLsbD i <;> decide
  have hm : (nI (2 ^ n - 1)).toBitVec.toNat = 2 ^ n - 1 := pk_tn (by omega)
  have e2 := pk_and v (m := nI (2 ^ n - 1)) n hm
  rw [e1] at e2
  exact ⟨_, Nat.mod_lt _ hpos, e2⟩
theorem nb_out {S n : Nat} (hS : S < 2 ^ n) : nI S &&& (nI (2 ^ n - 1) ^^^ (-1)) = 0 := by
  rw [nb_andn]
  have : nd S (2 ^ n - 1) = 0 := by
    apply tb_ext
    intro i
    rw [nd_bit, Nat.zero_testBit, Nat.testBit_two_pow_sub_one]
    cases hb : S.testBit i with
    | false => rfl
    | true => simp [tb_lt hS hb]
  rw [this]
  rfl
