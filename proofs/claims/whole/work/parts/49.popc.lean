/-! COUNTING EDGES OF A SET -/
def bcN (n : Nat) : Nat :=
  let a := n - (n >>> 1 &&& 1431655765)
  let b := (a &&& 858993459) + (a >>> 2 &&& 858993459)
  let c := (b + (b >>> 4)) &&& 252645135
  let e := c + (c >>> 8)
  let f := e + (e >>> 16)
  f &&& 63
def mny (S : Nat) : Nat → Nat
  | 0 => 0
  | k + 1 => mny S k + (if S.testBit k then 1 else 0)
def mnB (n : Nat) : Nat := n % 2 + (n / 2 % 2 + (n / 4 % 2 + (n / 8 % 2 + (n / 16 % 2 + (n / 32 % 2 + (n / 64 % 2 + (n / 128 % 2 + (n / 256 % 2 + (n / 512 % 2 + (n / 1024 % 2 + (n / 2048 % 2 + (n / 4096 % 2 + (n / 8192 % 2 + (n / 16384 % 2 + n / 32768 % 2))))))))))))))
def bcR (q : Nat) : Nat → Bool
  | 0 => true
  | k + 1 => Nat.beq (bcN (256 * q + k)) (mnB (256 * q + k)) && bcR q k
def bcA : Nat → Bool
  | 0 => true
  | k + 1 => bcR k 256 && bcA k
set_option maxRecDepth 100000 in
theorem bcA_ok : bcA 256 = true := by decide +kernel
