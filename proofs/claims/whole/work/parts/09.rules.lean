/-! A RULE AN INSTRUCTION, over rn_R (written by wip/whole/gen_rules.py) -/
theorem lc_1_len (L : List (Option Value)) (i : Nat) (v : Value) : (lc_1 L i v).length = L.length := by simp [lc_1, lc_k_len]
theorem lc_2_len (L : List (Option Value)) (i : Nat) (v : Value) : (lc_2 L i v).length = L.length := by simp [lc_2, lc_k_len]
theorem rn_iconst {X : Option (Nat × (Nat → Int32))} {y : ym_T} {d pc : Nat} {L : List (Option Value)} {S : List Value} {mu : Nat → Nat → Int32} {h : Int64} {Q : rn_Q} {z : Int} {v : Int32} (n : Nat) (hd : decode y.2.1 pc = .ok (.iconst z, 1)) (hv : Int32.ofInt z = v) (hp : pc + 1 = n) (k : rn_R X y d n L (.int v :: S) mu h Q) : rn_R X y d pc L (S) mu h Q := by
  subst hp
  intro p l e R s m args below meth c cells slots dC dI ad ca A Qt E F H locs ls hst hl hlen
  exact lv_iconst E.1 E.2.1 hd hv (k p l e R s m args below meth c cells slots dC dI ad ca A Qt E F H locs ls hst hl hlen)
theorem rn_bipush {X : Option (Nat × (Nat → Int32))} {y : ym_T} {d pc : Nat} {L : List (Option Value)} {S : List Value} {mu : Nat → Nat → Int32} {h : Int64} {Q : rn_Q} {z : Int} {v : Int32} (n : Nat) (hd : decode y.2.1 pc = .ok (.bipush z, 2)) (hv : (Int8.ofInt z).toInt32 = v) (hp : pc + 2 = n) (k : rn_R X y d n L (.int v :: S) mu h Q) : rn_R X y d pc L (S) mu h Q := by
  subst hp
  intro p l e R s m args below meth c cells slots dC dI ad ca A Qt E F H locs ls hst hl hlen
  exact lv_bipush E.1 E.2.1 hd hv (k p l e R s m args below meth c cells slots dC dI ad ca A Qt E F H locs ls hst hl hlen)
theorem rn_sipush {X : Option (Nat × (Nat → Int32))} {y : ym_T} {d pc : Nat} {L : List (Option Value)} {S : List Value} {mu : Nat → Nat → Int32} {h : Int64} {Q : rn_Q} {z : Int} {v : Int32} (n : Nat) (hd : decode y.2.1 pc = .ok (.sipush z, 3)) (hv : (Int16.ofInt z).toInt32 = v) (hp : pc + 3 = n) (k : rn_R X y d n L (.int v :: S) mu h Q) : rn_R X y d pc L (S) mu h Q := by
  subst hp
  intro p l e R s m args below meth c cells slots dC dI ad ca A Qt E F H locs ls hst hl hlen
  exact lv_sipush E.1 E.2.1 hd hv (k p l e R s m args below meth c cells slots dC dI ad ca A Qt E F H locs ls hst hl hlen)
theorem rn_lconst {X : Option (Nat × (Nat → Int32))} {y : ym_T} {d pc : Nat} {L : List (Option Value)} {S : List Value} {mu : Nat → Nat → Int32} {h : Int64} {Q : rn_Q} {z : Fin 2} {v : Int64} (n : Nat) (hd : decode y.2.1 pc = .ok (.lconst z, 1)) (hv : Int64.ofNat (z : Nat) = v) (hp : pc + 1 = n) (k : rn_R X y d n L (.long v :: S) mu h Q) : rn_R X y d pc L (S) mu h Q := by
  subst hp
  intro p l e R s m args below meth c cells slots dC dI ad ca A Qt E F H locs ls hst hl hlen
  exact lv_lconst E.1 E.2.1 hd hv (k p l e R s m args below meth c cells slots dC dI ad ca A Qt E F H locs ls hst hl hlen)
theorem rn_iadd {X : Option (Nat × (Nat → Int32))} {y : ym_T} {d pc : Nat} {L : List (Option Value)} {S : List Value} {mu : Nat → Nat → Int32} {h : Int64} {Q : rn_Q} {a b : Int32} (n : Nat) (hd : decode y.2.1 pc = .ok (.iadd, 1))  (hp : pc + 1 = n) (k : rn_R X y d n L (.int (a + b) :: S) mu h Q) : rn_R X y d pc L (.int b :: .int a :: S) mu h Q := by
  subst hp
  intro p l e R s m args below meth c cells slots dC dI ad ca A Qt E F H locs ls hst hl hlen
  exact lv_iadd E.1 E.2.1 hd (k p l e R s m args below meth c cells slots dC dI ad ca A Qt E F H locs ls hst hl hlen)
theorem rn_isub {X : Option (Nat × (Nat → Int32))} {y : ym_T} {d pc : Nat} {L : List (Option Value)} {S : List Value} {mu : Nat → Nat → Int32} {h : Int64} {Q : rn_Q} {a b : Int32} (n : Nat) (hd : decode y.2.1 pc = .ok (.isub, 1))  (hp : pc + 1 = n) (k : rn_R X y d n L (.int (a - b) :: S) mu h Q) : rn_R X y d pc L (.int b :: .int a :: S) mu h Q := by
  subst hp
  intro p l e R s m args below meth c cells slots dC dI ad ca A Qt E F H locs ls hst hl hlen
  exact lv_isub E.1 E.2.1 hd (k p l e R s m args below meth c cells slots dC dI ad ca A Qt E F H locs ls hst hl hlen)
theorem rn_imul {X : Option (Nat × (Nat → Int32))} {y : ym_T} {d pc : Nat} {L : List (Option Value)} {S : List Value} {mu : Nat → Nat → Int32} {h : Int64} {Q : rn_Q} {a b : Int32} (n : Nat) (hd : decode y.2.1 pc = .ok (.imul, 1))  (hp : pc + 1 = n) (k : rn_R X y d n L (.int (a * b) :: S) mu h Q) : rn_R X y d pc L (.int b :: .int a :: S) mu h Q := by
  subst hp
  intro p l e R s m args below meth c cells slots dC dI ad ca A Qt E F H locs ls hst hl hlen
  exact lv_imul E.1 E.2.1 hd (k p l e R s m args below meth c cells slots dC dI ad ca A Qt E F H locs ls hst hl hlen)
theorem rn_iand {X : Option (Nat × (Nat → Int32))} {y : ym_T} {d pc : Nat} {L : List (Option Value)} {S : List Value} {mu : Nat → Nat → Int32} {h : Int64} {Q : rn_Q} {a b : Int32} (n : Nat) (hd : decode y.2.1 pc = .ok (.iand, 1))  (hp : pc + 1 = n) (k : rn_R X y d n L (.int (a &&& b) :: S) mu h Q) : rn_R X y d pc L (.int b :: .int a :: S) mu h Q := by
  subst hp
  intro p l e R s m args below meth c cells slots dC dI ad ca A Qt E F H locs ls hst hl hlen
  exact lv_iand E.1 E.2.1 hd (k p l e R s m args below meth c cells slots dC dI ad ca A Qt E F H locs ls hst hl hlen)
theorem rn_ior {X : Option (Nat × (Nat → Int32))} {y : ym_T} {d pc : Nat} {L : List (Option Value)} {S : List Value} {mu : Nat → Nat → Int32} {h : Int64} {Q : rn_Q} {a b : Int32} (n : Nat) (hd : decode y.2.1 pc = .ok (.ior, 1))  (hp : pc + 1 = n) (k : rn_R X y d n L (.int (a ||| b) :: S) mu h Q) : rn_R X y d pc L (.int b :: .int a :: S) mu h Q := by
  subst hp
  intro p l e R s m args below meth c cells slots dC dI ad ca A Qt E F H locs ls hst hl hlen
  exact lv_ior E.1 E.2.1 hd (k p l e R s m args below meth c cells slots dC dI ad ca A Qt E F H locs ls hst hl hlen)
theorem rn_ixor {X : Option (Nat × (Nat → Int32))} {y : ym_T} {d pc : Nat} {L : List (Option Value)} {S : List Value} {mu : Nat → Nat → Int32} {h : Int64} {Q : rn_Q} {a b : Int32} (n : Nat) (hd : decode y.2.1 pc = .ok (.ixor, 1))  (hp : pc + 1 = n) (k : rn_R X y d n L (.int (a ^^^ b) :: S) mu h Q) : rn_R X y d pc L (.int b :: .int a :: S) mu h Q := by
  subst hp
  intro p l e R s m args below meth c cells slots dC dI ad ca A Qt E F H locs ls hst hl hlen
  exact lv_ixor E.1 E.2.1 hd (k p l e R s m args below meth c cells slots dC dI ad ca A Qt E F H locs ls hst hl hlen)
theorem rn_ladd {X : Option (Nat × (Nat → Int32))} {y : ym_T} {d pc : Nat} {L : List (Option Value)} {S : List Value} {mu : Nat → Nat → Int32} {h : Int64} {Q : rn_Q} {a b : Int64} (n : Nat) (hd : decode y.2.1 pc = .ok (.ladd, 1))  (hp : pc + 1 = n) (k : rn_R X y d n L (.long (a + b) :: S) mu h Q) : rn_R X y d pc L (.long b :: .long a :: S) mu h Q := by
  subst hp
  intro p l e R s m args below meth c cells slots dC dI ad ca A Qt E F H locs ls hst hl hlen
  exact lv_ladd E.1 E.2.1 hd (k p l e R s m args below meth c cells slots dC dI ad ca A Qt E F H locs ls hst hl hlen)
theorem rn_lsub {X : Option (Nat × (Nat → Int32))} {y : ym_T} {d pc : Nat} {L : List (Option Value)} {S : List Value} {mu : Nat → Nat → Int32} {h : Int64} {Q : rn_Q} {a b : Int64} (n : Nat) (hd : decode y.2.1 pc = .ok (.lsub, 1))  (hp : pc + 1 = n) (k : rn_R X y d n L (.long (a - b) :: S) mu h Q) : rn_R X y d pc L (.long b :: .long a :: S) mu h Q := by
  subst hp
  intro p l e R s m args below meth c cells slots dC dI ad ca A Qt E F H locs ls hst hl hlen
  exact lv_lsub E.1 E.2.1 hd (k p l e R s m args below meth c cells slots dC dI ad ca A Qt E F H locs ls hst hl hlen)
theorem rn_lmul {X : Option (Nat × (Nat → Int32))} {y : ym_T} {d pc : Nat} {L : List (Option Value)} {S : List Value} {mu : Nat → Nat → Int32} {h : Int64} {Q : rn_Q} {a b : Int64} (n : Nat) (hd : decode y.2.1 pc = .ok (.lmul, 1))  (hp : pc + 1 = n) (k : rn_R X y d n L (.long (a * b) :: S) mu h Q) : rn_R X y d pc L (.long b :: .long a :: S) mu h Q := by
  subst hp
  intro p l e R s m args below meth c cells slots dC dI ad ca A Qt E F H locs ls hst hl hlen
  exact lv_lmul E.1 E.2.1 hd (k p l e R s m args below meth c cells slots dC dI ad ca A Qt E F H locs ls hst hl hlen)
theorem rn_land {X : Option (Nat × (Nat → Int32))} {y : ym_T} {d pc : Nat} {L : List (Option Value)} {S : List Value} {mu : Nat → Nat → Int32} {h : Int64} {Q : rn_Q} {a b : Int64} (n : Nat) (hd : decode y.2.1 pc = .ok (.land, 1))  (hp : pc + 1 = n) (k : rn_R X y d n L (.long (a &&& b) :: S) mu h Q) : rn_R X y d pc L (.long b :: .long a :: S) mu h Q := by
  subst hp
  intro p l e R s m args below meth c cells slots dC dI ad ca A Qt E F H locs ls hst hl hlen
  exact lv_land E.1 E.2.1 hd (k p l e R s m args below meth c cells slots dC dI ad ca A Qt E F H locs ls hst hl hlen)
theorem rn_lor {X : Option (Nat × (Nat → Int32))} {y : ym_T} {d pc : Nat} {L : List (Option Value)} {S : List Value} {mu : Nat → Nat → Int32} {h : Int64} {Q : rn_Q} {a b : Int64} (n : Nat) (hd : decode y.2.1 pc = .ok (.lor, 1))  (hp : pc + 1 = n) (k : rn_R X y d n L (.long (a ||| b) :: S) mu h Q) : rn_R X y d pc L (.long b :: .long a :: S) mu h Q := by
  subst hp
  intro p l e R s m args below meth c cells slots dC dI ad ca A Qt E F H locs ls hst hl hlen
  exact lv_lor E.1 E.2.1 hd (k p l e R s m args below meth c cells slots dC dI ad ca A Qt E F H locs ls hst hl hlen)
theorem rn_lxor {X : Option (Nat × (Nat → Int32))} {y : ym_T} {d pc : Nat} {L : List (Option Value)} {S : List Value} {mu : Nat → Nat → Int32} {h : Int64} {Q : rn_Q} {a b : Int64} (n : Nat) (hd : decode y.2.1 pc = .ok (.lxor, 1))  (hp : pc + 1 = n) (k : rn_R X y d n L (.long (a ^^^ b) :: S) mu h Q) : rn_R X y d pc L (.long b :: .long a :: S) mu h Q := by
  subst hp
  intro p l e R s m args below meth c cells slots dC dI ad ca A Qt E F H locs ls hst hl hlen
  exact lv_lxor E.1 E.2.1 hd (k p l e R s m args below meth c cells slots dC dI ad ca A Qt E F H locs ls hst hl hlen)
theorem rn_idiv {X : Option (Nat × (Nat → Int32))} {y : ym_T} {d pc : Nat} {L : List (Option Value)} {S : List Value} {mu : Nat → Nat → Int32} {h : Int64} {Q : rn_Q} {a b : Int32} (n : Nat) (hd : decode y.2.1 pc = .ok (.idiv, 1)) (hne : ¬ b = 0) (hp : pc + 1 = n) (k : rn_R X y d n L (.int (a / b) :: S) mu h Q) : rn_R X y d pc L (.int b :: .int a :: S) mu h Q := by
  subst hp
  intro p l e R s m args below meth c cells slots dC dI ad ca A Qt E F H locs ls hst hl hlen
  exact lv_idiv E.1 E.2.1 hd hne (k p l e R s m args below meth c cells slots dC dI ad ca A Qt E F H locs ls hst hl hlen)
theorem rn_irem {X : Option (Nat × (Nat → Int32))} {y : ym_T} {d pc : Nat} {L : List (Option Value)} {S : List Value} {mu : Nat → Nat → Int32} {h : Int64} {Q : rn_Q} {a b : Int32} (n : Nat) (hd : decode y.2.1 pc = .ok (.irem, 1)) (hne : ¬ b = 0) (hp : pc + 1 = n) (k : rn_R X y d n L (.int (a - a / b * b) :: S) mu h Q) : rn_R X y d pc L (.int b :: .int a :: S) mu h Q := by
  subst hp
  intro p l e R s m args below meth c cells slots dC dI ad ca A Qt E F H locs ls hst hl hlen
  exact lv_irem E.1 E.2.1 hd hne (k p l e R s m args below meth c cells slots dC dI ad ca A Qt E F H locs ls hst hl hlen)
theorem rn_ineg {X : Option (Nat × (Nat → Int32))} {y : ym_T} {d pc : Nat} {L : List (Option Value)} {S : List Value} {mu : Nat → Nat → Int32} {h : Int64} {Q : rn_Q} {a : Int32} (n : Nat) (hd : decode y.2.1 pc = .ok (.ineg, 1))  (hp : pc + 1 = n) (k : rn_R X y d n L (.int (-a) :: S) mu h Q) : rn_R X y d pc L (.int a :: S) mu h Q := by
  subst hp
  intro p l e R s m args below meth c cells slots dC dI ad ca A Qt E F H locs ls hst hl hlen
  exact lv_ineg E.1 E.2.1 hd (k p l e R s m args below meth c cells slots dC dI ad ca A Qt E F H locs ls hst hl hlen)
theorem rn_ishl {X : Option (Nat × (Nat → Int32))} {y : ym_T} {d pc : Nat} {L : List (Option Value)} {S : List Value} {mu : Nat → Nat → Int32} {h : Int64} {Q : rn_Q} {a b : Int32} (n : Nat) (hd : decode y.2.1 pc = .ok (.ishl, 1))  (hp : pc + 1 = n) (k : rn_R X y d n L (.int (a <<< (b &&& 31)) :: S) mu h Q) : rn_R X y d pc L (.int b :: .int a :: S) mu h Q := by
  subst hp
  intro p l e R s m args below meth c cells slots dC dI ad ca A Qt E F H locs ls hst hl hlen
  exact lv_ishl E.1 E.2.1 hd (k p l e R s m args below meth c cells slots dC dI ad ca A Qt E F H locs ls hst hl hlen)
theorem rn_ishr {X : Option (Nat × (Nat → Int32))} {y : ym_T} {d pc : Nat} {L : List (Option Value)} {S : List Value} {mu : Nat → Nat → Int32} {h : Int64} {Q : rn_Q} {a b : Int32} (n : Nat) (hd : decode y.2.1 pc = .ok (.ishr, 1))  (hp : pc + 1 = n) (k : rn_R X y d n L (.int (a >>> (b &&& 31)) :: S) mu h Q) : rn_R X y d pc L (.int b :: .int a :: S) mu h Q := by
  subst hp
  intro p l e R s m args below meth c cells slots dC dI ad ca A Qt E F H locs ls hst hl hlen
  exact lv_ishr E.1 E.2.1 hd (k p l e R s m args below meth c cells slots dC dI ad ca A Qt E F H locs ls hst hl hlen)
theorem rn_iushr {X : Option (Nat × (Nat → Int32))} {y : ym_T} {d pc : Nat} {L : List (Option Value)} {S : List Value} {mu : Nat → Nat → Int32} {h : Int64} {Q : rn_Q} {a b v : Int32} (n : Nat) (hd : decode y.2.1 pc = .ok (.iushr, 1)) (hv : (a.toUInt32 >>> (b.toUInt32 &&& Int32.toUInt32 31)).toInt32 = v) (hp : pc + 1 = n) (k : rn_R X y d n L (.int v :: S) mu h Q) : rn_R X y d pc L (.int b :: .int a :: S) mu h Q := by
  subst hp
  intro p l e R s m args below meth c cells slots dC dI ad ca A Qt E F H locs ls hst hl hlen
  exact lv_iushr E.1 E.2.1 hd hv (k p l e R s m args below meth c cells slots dC dI ad ca A Qt E F H locs ls hst hl hlen)
theorem rn_i2l {X : Option (Nat × (Nat → Int32))} {y : ym_T} {d pc : Nat} {L : List (Option Value)} {S : List Value} {mu : Nat → Nat → Int32} {h : Int64} {Q : rn_Q} {a : Int32} (n : Nat) (hd : decode y.2.1 pc = .ok (.i2l, 1))  (hp : pc + 1 = n) (k : rn_R X y d n L (.long a.toInt64 :: S) mu h Q) : rn_R X y d pc L (.int a :: S) mu h Q := by
  subst hp
  intro p l e R s m args below meth c cells slots dC dI ad ca A Qt E F H locs ls hst hl hlen
  exact lv_i2l E.1 E.2.1 hd rfl (k p l e R s m args below meth c cells slots dC dI ad ca A Qt E F H locs ls hst hl hlen)
theorem rn_i2b {X : Option (Nat × (Nat → Int32))} {y : ym_T} {d pc : Nat} {L : List (Option Value)} {S : List Value} {mu : Nat → Nat → Int32} {h : Int64} {Q : rn_Q} {a : Int32} (n : Nat) (hd : decode y.2.1 pc = .ok (.i2b, 1))  (hp : pc + 1 = n) (k : rn_R X y d n L (.int a.toInt8.toInt32 :: S) mu h Q) : rn_R X y d pc L (.int a :: S) mu h Q := by
  subst hp
  intro p l e R s m args below meth c cells slots dC dI ad ca A Qt E F H locs ls hst hl hlen
  exact lv_i2b E.1 E.2.1 hd rfl (k p l e R s m args below meth c cells slots dC dI ad ca A Qt E F H locs ls hst hl hlen)
theorem rn_iload_n {X : Option (Nat × (Nat → Int32))} {y : ym_T} {d pc : Nat} {L : List (Option Value)} {S : List Value} {mu : Nat → Nat → Int32} {h : Int64} {Q : rn_Q} {kk : Fin 4} {i : Nat} {x : Int32} (n : Nat) (hd : decode y.2.1 pc = .ok (.iload_n kk, 1)) (hi : (kk : Nat) = i) (hx : L[i]? = some (some (.int x))) (hp : pc + 1 = n) (k : rn_R X y d n L (.int x :: S) mu h Q) : rn_R X y d pc L S mu h Q := by
  subst hp
  intro p l e R s m args below meth c cells slots dC dI ad ca A Qt E F H locs ls hst hl hlen
  exact lv_iload_n E.1 E.2.1 hd hi (lc_at hl hx) (k p l e R s m args below meth c cells slots dC dI ad ca A Qt E F H locs ls hst hl hlen)
theorem rn_iload {X : Option (Nat × (Nat → Int32))} {y : ym_T} {d pc : Nat} {L : List (Option Value)} {S : List Value} {mu : Nat → Nat → Int32} {h : Int64} {Q : rn_Q} {i : Nat} {x : Int32} (n : Nat) (hd : decode y.2.1 pc = .ok (.iload i, 2)) (hx : L[i]? = some (some (.int x))) (hp : pc + 2 = n) (k : rn_R X y d n L (.int x :: S) mu h Q) : rn_R X y d pc L S mu h Q := by
  subst hp
  intro p l e R s m args below meth c cells slots dC dI ad ca A Qt E F H locs ls hst hl hlen
  exact lv_iload E.1 E.2.1 hd (lc_at hl hx) (k p l e R s m args below meth c cells slots dC dI ad ca A Qt E F H locs ls hst hl hlen)
theorem rn_lload_n {X : Option (Nat × (Nat → Int32))} {y : ym_T} {d pc : Nat} {L : List (Option Value)} {S : List Value} {mu : Nat → Nat → Int32} {h : Int64} {Q : rn_Q} {kk : Fin 4} {i : Nat} {x : Int64} (n : Nat) (hd : decode y.2.1 pc = .ok (.lload_n kk, 1)) (hi : (kk : Nat) = i) (hx : L[i]? = some (some (.long x))) (hp : pc + 1 = n) (k : rn_R X y d n L (.long x :: S) mu h Q) : rn_R X y d pc L S mu h Q := by
  subst hp
  intro p l e R s m args below meth c cells slots dC dI ad ca A Qt E F H locs ls hst hl hlen
  exact lv_lload_n E.1 E.2.1 hd hi (lc_at hl hx) (k p l e R s m args below meth c cells slots dC dI ad ca A Qt E F H locs ls hst hl hlen)
theorem rn_lload {X : Option (Nat × (Nat → Int32))} {y : ym_T} {d pc : Nat} {L : List (Option Value)} {S : List Value} {mu : Nat → Nat → Int32} {h : Int64} {Q : rn_Q} {i : Nat} {x : Int64} (n : Nat) (hd : decode y.2.1 pc = .ok (.lload i, 2)) (hx : L[i]? = some (some (.long x))) (hp : pc + 2 = n) (k : rn_R X y d n L (.long x :: S) mu h Q) : rn_R X y d pc L S mu h Q := by
  subst hp
  intro p l e R s m args below meth c cells slots dC dI ad ca A Qt E F H locs ls hst hl hlen
  exact lv_lload E.1 E.2.1 hd (lc_at hl hx) (k p l e R s m args below meth c cells slots dC dI ad ca A Qt E F H locs ls hst hl hlen)
theorem rn_aload_n {X : Option (Nat × (Nat → Int32))} {y : ym_T} {d pc : Nat} {L : List (Option Value)} {S : List Value} {mu : Nat → Nat → Int32} {h : Int64} {Q : rn_Q} {kk : Fin 4} {i : Nat} {x : Nat} (n : Nat) (hd : decode y.2.1 pc = .ok (.aload_n kk, 1)) (hi : (kk : Nat) = i) (hx : L[i]? = some (some (.ref x))) (hp : pc + 1 = n) (k : rn_R X y d n L (.ref x :: S) mu h Q) : rn_R X y d pc L S mu h Q := by
  subst hp
  intro p l e R s m args below meth c cells slots dC dI ad ca A Qt E F H locs ls hst hl hlen
  exact lv_aload_n E.1 E.2.1 hd hi (lc_at hl hx) (k p l e R s m args below meth c cells slots dC dI ad ca A Qt E F H locs ls hst hl hlen)
theorem rn_aload {X : Option (Nat × (Nat → Int32))} {y : ym_T} {d pc : Nat} {L : List (Option Value)} {S : List Value} {mu : Nat → Nat → Int32} {h : Int64} {Q : rn_Q} {i : Nat} {x : Nat} (n : Nat) (hd : decode y.2.1 pc = .ok (.aload i, 2)) (hx : L[i]? = some (some (.ref x))) (hp : pc + 2 = n) (k : rn_R X y d n L (.ref x :: S) mu h Q) : rn_R X y d pc L S mu h Q := by
  subst hp
  intro p l e R s m args below meth c cells slots dC dI ad ca A Qt E F H locs ls hst hl hlen
  exact lv_aload E.1 E.2.1 hd (lc_at hl hx) (k p l e R s m args below meth c cells slots dC dI ad ca A Qt E F H locs ls hst hl hlen)
theorem rn_istore_n {X : Option (Nat × (Nat → Int32))} {y : ym_T} {d pc : Nat} {L : List (Option Value)} {S : List Value} {mu : Nat → Nat → Int32} {h : Int64} {Q : rn_Q} {kk : Fin 4} {i : Nat} {x : Int32} (n : Nat) (L' : List (Option Value)) (hd : decode y.2.1 pc = .ok (.istore_n kk, 1)) (hi : (kk : Nat) = i) (hL : lc_1 L i (.int x) = L') (hlt : i < L.length) (hp : pc + 1 = n) (k : rn_R X y d n L' S mu h Q) : rn_R X y d pc L (.int x :: S) mu h Q := by
  subst hp; subst hL
  intro p l e R s m args below meth c cells slots dC dI ad ca A Qt E F H locs ls hst hl hlen
  exact lv_istore_n E.1 E.2.1 hd hi hl hlt rfl (fun ls' h' => k p l e R s m args below meth c cells slots dC dI ad ca A Qt E F H locs ls' hst (lc_st1 (v := .int x) hlt h') (by rw [lc_1_len]; exact hlen))
theorem rn_istore {X : Option (Nat × (Nat → Int32))} {y : ym_T} {d pc : Nat} {L : List (Option Value)} {S : List Value} {mu : Nat → Nat → Int32} {h : Int64} {Q : rn_Q} {i : Nat} {x : Int32} (n : Nat) (L' : List (Option Value)) (hd : decode y.2.1 pc = .ok (.istore i, 2)) (hL : lc_1 L i (.int x) = L') (hlt : i < L.length) (hp : pc + 2 = n) (k : rn_R X y d n L' S mu h Q) : rn_R X y d pc L (.int x :: S) mu h Q := by
  subst hp; subst hL
  intro p l e R s m args below meth c cells slots dC dI ad ca A Qt E F H locs ls hst hl hlen
  exact lv_istore E.1 E.2.1 hd hl hlt rfl (fun ls' h' => k p l e R s m args below meth c cells slots dC dI ad ca A Qt E F H locs ls' hst (lc_st1 (v := .int x) hlt h') (by rw [lc_1_len]; exact hlen))
theorem rn_lstore_n {X : Option (Nat × (Nat → Int32))} {y : ym_T} {d pc : Nat} {L : List (Option Value)} {S : List Value} {mu : Nat → Nat → Int32} {h : Int64} {Q : rn_Q} {kk : Fin 4} {i : Nat} {x : Int64} (n : Nat) (L' : List (Option Value)) (hd : decode y.2.1 pc = .ok (.lstore_n kk, 1)) (hi : (kk : Nat) = i) (hL : lc_2 L i (.long x) = L') (hlt : i + 1 < L.length) (hp : pc + 1 = n) (k : rn_R X y d n L' S mu h Q) : rn_R X y d pc L (.long x :: S) mu h Q := by
  subst hp; subst hL
  intro p l e R s m args below meth c cells slots dC dI ad ca A Qt E F H locs ls hst hl hlen
  exact lv_lstore_n E.1 E.2.1 hd hi hl hlt rfl (fun ls' h' => k p l e R s m args below meth c cells slots dC dI ad ca A Qt E F H locs ls' hst (lc_st2 (v := .long x) hlt h') (by rw [lc_2_len]; exact hlen))
theorem rn_lstore {X : Option (Nat × (Nat → Int32))} {y : ym_T} {d pc : Nat} {L : List (Option Value)} {S : List Value} {mu : Nat → Nat → Int32} {h : Int64} {Q : rn_Q} {i : Nat} {x : Int64} (n : Nat) (L' : List (Option Value)) (hd : decode y.2.1 pc = .ok (.lstore i, 2)) (hL : lc_2 L i (.long x) = L') (hlt : i + 1 < L.length) (hp : pc + 2 = n) (k : rn_R X y d n L' S mu h Q) : rn_R X y d pc L (.long x :: S) mu h Q := by
  subst hp; subst hL
  intro p l e R s m args below meth c cells slots dC dI ad ca A Qt E F H locs ls hst hl hlen
  exact lv_lstore E.1 E.2.1 hd hl hlt rfl (fun ls' h' => k p l e R s m args below meth c cells slots dC dI ad ca A Qt E F H locs ls' hst (lc_st2 (v := .long x) hlt h') (by rw [lc_2_len]; exact hlen))
theorem rn_astore_n {X : Option (Nat × (Nat → Int32))} {y : ym_T} {d pc : Nat} {L : List (Option Value)} {S : List Value} {mu : Nat → Nat → Int32} {h : Int64} {Q : rn_Q} {kk : Fin 4} {i : Nat} {x : Nat} (n : Nat) (L' : List (Option Value)) (hd : decode y.2.1 pc = .ok (.astore_n kk, 1)) (hi : (kk : Nat) = i) (hL : lc_1 L i (.ref x) = L') (hlt : i < L.length) (hp : pc + 1 = n) (k : rn_R X y d n L' S mu h Q) : rn_R X y d pc L (.ref x :: S) mu h Q := by
  subst hp; subst hL
  intro p l e R s m args below meth c cells slots dC dI ad ca A Qt E F H locs ls hst hl hlen
  exact lv_astore_n E.1 E.2.1 hd hi hl hlt rfl (fun ls' h' => k p l e R s m args below meth c cells slots dC dI ad ca A Qt E F H locs ls' hst (lc_st1 (v := .ref x) hlt h') (by rw [lc_1_len]; exact hlen))
theorem rn_astore {X : Option (Nat × (Nat → Int32))} {y : ym_T} {d pc : Nat} {L : List (Option Value)} {S : List Value} {mu : Nat → Nat → Int32} {h : Int64} {Q : rn_Q} {i : Nat} {x : Nat} (n : Nat) (L' : List (Option Value)) (hd : decode y.2.1 pc = .ok (.astore i, 2)) (hL : lc_1 L i (.ref x) = L') (hlt : i < L.length) (hp : pc + 2 = n) (k : rn_R X y d n L' S mu h Q) : rn_R X y d pc L (.ref x :: S) mu h Q := by
  subst hp; subst hL
  intro p l e R s m args below meth c cells slots dC dI ad ca A Qt E F H locs ls hst hl hlen
  exact lv_astore E.1 E.2.1 hd hl hlt rfl (fun ls' h' => k p l e R s m args below meth c cells slots dC dI ad ca A Qt E F H locs ls' hst (lc_st1 (v := .ref x) hlt h') (by rw [lc_1_len]; exact hlen))
theorem rn_iinc {X : Option (Nat × (Nat → Int32))} {y : ym_T} {d pc : Nat} {L : List (Option Value)} {S : List Value} {mu : Nat → Nat → Int32} {h : Int64} {Q : rn_Q} {i : Nat} {z : Int} {x v : Int32} (n : Nat) (L' : List (Option Value)) (hd : decode y.2.1 pc = .ok (.iinc i z, 3)) (hx : L[i]? = some (some (.int x))) (hv : x + Int32.ofInt z = v) (hL : lc_1 L i (.int v) = L') (hp : pc + 3 = n) (k : rn_R X y d n L' S mu h Q) : rn_R X y d pc L S mu h Q := by
  subst hp; subst hL
  intro p l e R s m args below meth c cells slots dC dI ad ca A Qt E F H locs ls hst hl hlen
  obtain ⟨kx, hkx⟩ := List.getElem?_of_mem (lc_p_mem (ad := ad).mpr ⟨_, hx, rfl⟩)
  have hlt : i < L.length := (List.getElem?_eq_some_iff.mp hx).1
  exact lv_iinc (k := kx) E.1 E.2.1 hd hl hkx hv hlt rfl (fun ls' h' => k p l e R s m args below meth c cells slots dC dI ad ca A Qt E F H locs ls' hst (lc_st1 (v := .int v) hlt h') (by rw [lc_1_len]; exact hlen))
theorem rn_dup {X : Option (Nat × (Nat → Int32))} {y : ym_T} {d pc : Nat} {L : List (Option Value)} {S : List Value} {mu : Nat → Nat → Int32} {h : Int64} {Q : rn_Q} {v : Value} (n : Nat) (hd : decode y.2.1 pc = .ok (.dup, 1)) (hc : v.category = 1) (hp : pc + 1 = n) (k : rn_R X y d n L (v :: v :: S) mu h Q) : rn_R X y d pc L (v :: S) mu h Q := by
  subst hp
  intro p l e R s m args below meth c cells slots dC dI ad ca A Qt E F H locs ls hst hl hlen
  exact lv_dup E.1 E.2.1 hd ((tv_cat _ _).trans hc) (k p l e R s m args below meth c cells slots dC dI ad ca A Qt E F H locs ls hst hl hlen)
theorem rn_pop {X : Option (Nat × (Nat → Int32))} {y : ym_T} {d pc : Nat} {L : List (Option Value)} {S : List Value} {mu : Nat → Nat → Int32} {h : Int64} {Q : rn_Q} {v : Value} (n : Nat) (hd : decode y.2.1 pc = .ok (.pop, 1)) (hc : v.category = 1) (hp : pc + 1 = n) (k : rn_R X y d n L (S) mu h Q) : rn_R X y d pc L (v :: S) mu h Q := by
  subst hp
  intro p l e R s m args below meth c cells slots dC dI ad ca A Qt E F H locs ls hst hl hlen
  exact lv_pop E.1 E.2.1 hd ((tv_cat _ _).trans hc) (k p l e R s m args below meth c cells slots dC dI ad ca A Qt E F H locs ls hst hl hlen)
theorem rn_dup_x1 {X : Option (Nat × (Nat → Int32))} {y : ym_T} {d pc : Nat} {L : List (Option Value)} {S : List Value} {mu : Nat → Nat → Int32} {h : Int64} {Q : rn_Q} {v w : Value} (n : Nat) (hd : decode y.2.1 pc = .ok (.dup_x1, 1)) (hc : v.category = 1) (hc2 : w.category = 1) (hp : pc + 1 = n) (k : rn_R X y d n L (v :: w :: v :: S) mu h Q) : rn_R X y d pc L (v :: w :: S) mu h Q := by
  subst hp
  intro p l e R s m args below meth c cells slots dC dI ad ca A Qt E F H locs ls hst hl hlen
  exact lv_dup_x1 E.1 E.2.1 hd ((tv_cat _ _).trans hc) ((tv_cat _ _).trans hc2) (k p l e R s m args below meth c cells slots dC dI ad ca A Qt E F H locs ls hst hl hlen)
theorem rn_dup_x2 {X : Option (Nat × (Nat → Int32))} {y : ym_T} {d pc : Nat} {L : List (Option Value)} {S : List Value} {mu : Nat → Nat → Int32} {h : Int64} {Q : rn_Q} {v w u : Value} (n : Nat) (hd : decode y.2.1 pc = .ok (.dup_x2, 1)) (hc : v.category = 1) (hc2 : w.category = 1) (hc3 : u.category = 1) (hp : pc + 1 = n) (k : rn_R X y d n L (v :: w :: u :: v :: S) mu h Q) : rn_R X y d pc L (v :: w :: u :: S) mu h Q := by
  subst hp
  intro p l e R s m args below meth c cells slots dC dI ad ca A Qt E F H locs ls hst hl hlen
  exact lv_dup_x2 E.1 E.2.1 hd ((tv_cat _ _).trans hc) ((tv_cat _ _).trans hc2) ((tv_cat _ _).trans hc3) (k p l e R s m args below meth c cells slots dC dI ad ca A Qt E F H locs ls hst hl hlen)
theorem rn_dup2_11 {X : Option (Nat × (Nat → Int32))} {y : ym_T} {d pc : Nat} {L : List (Option Value)} {S : List Value} {mu : Nat → Nat → Int32} {h : Int64} {Q : rn_Q} {v w : Value} (n : Nat) (hd : decode y.2.1 pc = .ok (.dup2, 1)) (hc : v.category = 1) (hc2 : w.category = 1) (hp : pc + 1 = n) (k : rn_R X y d n L (v :: w :: v :: w :: S) mu h Q) : rn_R X y d pc L (v :: w :: S) mu h Q := by
  subst hp
  intro p l e R s m args below meth c cells slots dC dI ad ca A Qt E F H locs ls hst hl hlen
  exact lv_dup2_11 E.1 E.2.1 hd ((tv_cat _ _).trans hc) ((tv_cat _ _).trans hc2) (k p l e R s m args below meth c cells slots dC dI ad ca A Qt E F H locs ls hst hl hlen)
theorem rn_if_eq {X : Option (Nat × (Nat → Int32))} {y : ym_T} {d pc : Nat} {L : List (Option Value)} {S : List Value} {mu : Nat → Nat → Int32} {h : Int64} {Q : rn_Q} {a : Int32} {off : Int} (tg n : Nat) (hd : decode y.2.1 pc = .ok (.ifCond .eq off, 3)) (ht : (pc : Int) + off = (tg : Int)) (hp : pc + 3 = n) (kt : a = 0 → rn_R X y d tg L S mu h Q) (kf : ¬ a = 0 → rn_R X y d n L S mu h Q) : rn_R X y d pc L (.int a :: S) mu h Q := by
  subst hp
  intro p l e R s m args below meth c cells slots dC dI ad ca A Qt E F H locs ls hst hl hlen
  exact lv_if_eq E.1 E.2.1 hd ht (fun q => kt q p l e R s m args below meth c cells slots dC dI ad ca A Qt E F H locs ls hst hl hlen) (fun q => kf q p l e R s m args below meth c cells slots dC dI ad ca A Qt E F H locs ls hst hl hlen)
theorem rn_icmp_eq {X : Option (Nat × (Nat → Int32))} {y : ym_T} {d pc : Nat} {L : List (Option Value)} {S : List Value} {mu : Nat → Nat → Int32} {h : Int64} {Q : rn_Q} {a b : Int32} {off : Int} (tg n : Nat) (hd : decode y.2.1 pc = .ok (.if_icmp .eq off, 3)) (ht : (pc : Int) + off = (tg : Int)) (hp : pc + 3 = n) (kt : a = b → rn_R X y d tg L S mu h Q) (kf : ¬ a = b → rn_R X y d n L S mu h Q) : rn_R X y d pc L (.int b :: .int a :: S) mu h Q := by
  subst hp
  intro p l e R s m args below meth c cells slots dC dI ad ca A Qt E F H locs ls hst hl hlen
  exact lv_icmp_eq E.1 E.2.1 hd ht (fun q => kt q p l e R s m args below meth c cells slots dC dI ad ca A Qt E F H locs ls hst hl hlen) (fun q => kf q p l e R s m args below meth c cells slots dC dI ad ca A Qt E F H locs ls hst hl hlen)
theorem rn_if_ne {X : Option (Nat × (Nat → Int32))} {y : ym_T} {d pc : Nat} {L : List (Option Value)} {S : List Value} {mu : Nat → Nat → Int32} {h : Int64} {Q : rn_Q} {a : Int32} {off : Int} (tg n : Nat) (hd : decode y.2.1 pc = .ok (.ifCond .ne off, 3)) (ht : (pc : Int) + off = (tg : Int)) (hp : pc + 3 = n) (kt : ¬ a = 0 → rn_R X y d tg L S mu h Q) (kf : a = 0 → rn_R X y d n L S mu h Q) : rn_R X y d pc L (.int a :: S) mu h Q := by
  subst hp
  intro p l e R s m args below meth c cells slots dC dI ad ca A Qt E F H locs ls hst hl hlen
  exact lv_if_ne E.1 E.2.1 hd ht (fun q => kt q p l e R s m args below meth c cells slots dC dI ad ca A Qt E F H locs ls hst hl hlen) (fun q => kf q p l e R s m args below meth c cells slots dC dI ad ca A Qt E F H locs ls hst hl hlen)
theorem rn_icmp_ne {X : Option (Nat × (Nat → Int32))} {y : ym_T} {d pc : Nat} {L : List (Option Value)} {S : List Value} {mu : Nat → Nat → Int32} {h : Int64} {Q : rn_Q} {a b : Int32} {off : Int} (tg n : Nat) (hd : decode y.2.1 pc = .ok (.if_icmp .ne off, 3)) (ht : (pc : Int) + off = (tg : Int)) (hp : pc + 3 = n) (kt : ¬ a = b → rn_R X y d tg L S mu h Q) (kf : a = b → rn_R X y d n L S mu h Q) : rn_R X y d pc L (.int b :: .int a :: S) mu h Q := by
  subst hp
  intro p l e R s m args below meth c cells slots dC dI ad ca A Qt E F H locs ls hst hl hlen
  exact lv_icmp_ne E.1 E.2.1 hd ht (fun q => kt q p l e R s m args below meth c cells slots dC dI ad ca A Qt E F H locs ls hst hl hlen) (fun q => kf q p l e R s m args below meth c cells slots dC dI ad ca A Qt E F H locs ls hst hl hlen)
theorem rn_if_lt {X : Option (Nat × (Nat → Int32))} {y : ym_T} {d pc : Nat} {L : List (Option Value)} {S : List Value} {mu : Nat → Nat → Int32} {h : Int64} {Q : rn_Q} {a : Int32} {off : Int} (tg n : Nat) (hd : decode y.2.1 pc = .ok (.ifCond .lt off, 3)) (ht : (pc : Int) + off = (tg : Int)) (hp : pc + 3 = n) (kt : a < 0 → rn_R X y d tg L S mu h Q) (kf : ¬ a < 0 → rn_R X y d n L S mu h Q) : rn_R X y d pc L (.int a :: S) mu h Q := by
  subst hp
  intro p l e R s m args below meth c cells slots dC dI ad ca A Qt E F H locs ls hst hl hlen
  exact lv_if_lt E.1 E.2.1 hd ht (fun q => kt q p l e R s m args below meth c cells slots dC dI ad ca A Qt E F H locs ls hst hl hlen) (fun q => kf q p l e R s m args below meth c cells slots dC dI ad ca A Qt E F H locs ls hst hl hlen)
theorem rn_icmp_lt {X : Option (Nat × (Nat → Int32))} {y : ym_T} {d pc : Nat} {L : List (Option Value)} {S : List Value} {mu : Nat → Nat → Int32} {h : Int64} {Q : rn_Q} {a b : Int32} {off : Int} (tg n : Nat) (hd : decode y.2.1 pc = .ok (.if_icmp .lt off, 3)) (ht : (pc : Int) + off = (tg : Int)) (hp : pc + 3 = n) (kt : a < b → rn_R X y d tg L S mu h Q) (kf : ¬ a < b → rn_R X y d n L S mu h Q) : rn_R X y d pc L (.int b :: .int a :: S) mu h Q := by
  subst hp
  intro p l e R s m args below meth c cells slots dC dI ad ca A Qt E F H locs ls hst hl hlen
  exact lv_icmp_lt E.1 E.2.1 hd ht (fun q => kt q p l e R s m args below meth c cells slots dC dI ad ca A Qt E F H locs ls hst hl hlen) (fun q => kf q p l e R s m args below meth c cells slots dC dI ad ca A Qt E F H locs ls hst hl hlen)
theorem rn_if_ge {X : Option (Nat × (Nat → Int32))} {y : ym_T} {d pc : Nat} {L : List (Option Value)} {S : List Value} {mu : Nat → Nat → Int32} {h : Int64} {Q : rn_Q} {a : Int32} {off : Int} (tg n : Nat) (hd : decode y.2.1 pc = .ok (.ifCond .ge off, 3)) (ht : (pc : Int) + off = (tg : Int)) (hp : pc + 3 = n) (kt : 0 ≤ a → rn_R X y d tg L S mu h Q) (kf : ¬ 0 ≤ a → rn_R X y d n L S mu h Q) : rn_R X y d pc L (.int a :: S) mu h Q := by
  subst hp
  intro p l e R s m args below meth c cells slots dC dI ad ca A Qt E F H locs ls hst hl hlen
  exact lv_if_ge E.1 E.2.1 hd ht (fun q => kt q p l e R s m args below meth c cells slots dC dI ad ca A Qt E F H locs ls hst hl hlen) (fun q => kf q p l e R s m args below meth c cells slots dC dI ad ca A Qt E F H locs ls hst hl hlen)
theorem rn_icmp_ge {X : Option (Nat × (Nat → Int32))} {y : ym_T} {d pc : Nat} {L : List (Option Value)} {S : List Value} {mu : Nat → Nat → Int32} {h : Int64} {Q : rn_Q} {a b : Int32} {off : Int} (tg n : Nat) (hd : decode y.2.1 pc = .ok (.if_icmp .ge off, 3)) (ht : (pc : Int) + off = (tg : Int)) (hp : pc + 3 = n) (kt : b ≤ a → rn_R X y d tg L S mu h Q) (kf : ¬ b ≤ a → rn_R X y d n L S mu h Q) : rn_R X y d pc L (.int b :: .int a :: S) mu h Q := by
  subst hp
  intro p l e R s m args below meth c cells slots dC dI ad ca A Qt E F H locs ls hst hl hlen
  exact lv_icmp_ge E.1 E.2.1 hd ht (fun q => kt q p l e R s m args below meth c cells slots dC dI ad ca A Qt E F H locs ls hst hl hlen) (fun q => kf q p l e R s m args below meth c cells slots dC dI ad ca A Qt E F H locs ls hst hl hlen)
theorem rn_if_gt {X : Option (Nat × (Nat → Int32))} {y : ym_T} {d pc : Nat} {L : List (Option Value)} {S : List Value} {mu : Nat → Nat → Int32} {h : Int64} {Q : rn_Q} {a : Int32} {off : Int} (tg n : Nat) (hd : decode y.2.1 pc = .ok (.ifCond .gt off, 3)) (ht : (pc : Int) + off = (tg : Int)) (hp : pc + 3 = n) (kt : 0 < a → rn_R X y d tg L S mu h Q) (kf : ¬ 0 < a → rn_R X y d n L S mu h Q) : rn_R X y d pc L (.int a :: S) mu h Q := by
  subst hp
  intro p l e R s m args below meth c cells slots dC dI ad ca A Qt E F H locs ls hst hl hlen
  exact lv_if_gt E.1 E.2.1 hd ht (fun q => kt q p l e R s m args below meth c cells slots dC dI ad ca A Qt E F H locs ls hst hl hlen) (fun q => kf q p l e R s m args below meth c cells slots dC dI ad ca A Qt E F H locs ls hst hl hlen)
theorem rn_icmp_gt {X : Option (Nat × (Nat → Int32))} {y : ym_T} {d pc : Nat} {L : List (Option Value)} {S : List Value} {mu : Nat → Nat → Int32} {h : Int64} {Q : rn_Q} {a b : Int32} {off : Int} (tg n : Nat) (hd : decode y.2.1 pc = .ok (.if_icmp .gt off, 3)) (ht : (pc : Int) + off = (tg : Int)) (hp : pc + 3 = n) (kt : b < a → rn_R X y d tg L S mu h Q) (kf : ¬ b < a → rn_R X y d n L S mu h Q) : rn_R X y d pc L (.int b :: .int a :: S) mu h Q := by
  subst hp
  intro p l e R s m args below meth c cells slots dC dI ad ca A Qt E F H locs ls hst hl hlen
  exact lv_icmp_gt E.1 E.2.1 hd ht (fun q => kt q p l e R s m args below meth c cells slots dC dI ad ca A Qt E F H locs ls hst hl hlen) (fun q => kf q p l e R s m args below meth c cells slots dC dI ad ca A Qt E F H locs ls hst hl hlen)
theorem rn_if_le {X : Option (Nat × (Nat → Int32))} {y : ym_T} {d pc : Nat} {L : List (Option Value)} {S : List Value} {mu : Nat → Nat → Int32} {h : Int64} {Q : rn_Q} {a : Int32} {off : Int} (tg n : Nat) (hd : decode y.2.1 pc = .ok (.ifCond .le off, 3)) (ht : (pc : Int) + off = (tg : Int)) (hp : pc + 3 = n) (kt : a ≤ 0 → rn_R X y d tg L S mu h Q) (kf : ¬ a ≤ 0 → rn_R X y d n L S mu h Q) : rn_R X y d pc L (.int a :: S) mu h Q := by
  subst hp
  intro p l e R s m args below meth c cells slots dC dI ad ca A Qt E F H locs ls hst hl hlen
  exact lv_if_le E.1 E.2.1 hd ht (fun q => kt q p l e R s m args below meth c cells slots dC dI ad ca A Qt E F H locs ls hst hl hlen) (fun q => kf q p l e R s m args below meth c cells slots dC dI ad ca A Qt E F H locs ls hst hl hlen)
theorem rn_icmp_le {X : Option (Nat × (Nat → Int32))} {y : ym_T} {d pc : Nat} {L : List (Option Value)} {S : List Value} {mu : Nat → Nat → Int32} {h : Int64} {Q : rn_Q} {a b : Int32} {off : Int} (tg n : Nat) (hd : decode y.2.1 pc = .ok (.if_icmp .le off, 3)) (ht : (pc : Int) + off = (tg : Int)) (hp : pc + 3 = n) (kt : a ≤ b → rn_R X y d tg L S mu h Q) (kf : ¬ a ≤ b → rn_R X y d n L S mu h Q) : rn_R X y d pc L (.int b :: .int a :: S) mu h Q := by
  subst hp
  intro p l e R s m args below meth c cells slots dC dI ad ca A Qt E F H locs ls hst hl hlen
  exact lv_icmp_le E.1 E.2.1 hd ht (fun q => kt q p l e R s m args below meth c cells slots dC dI ad ca A Qt E F H locs ls hst hl hlen) (fun q => kf q p l e R s m args below meth c cells slots dC dI ad ca A Qt E F H locs ls hst hl hlen)
theorem rn_goto {X : Option (Nat × (Nat → Int32))} {y : ym_T} {d pc : Nat} {L : List (Option Value)} {S : List Value} {mu : Nat → Nat → Int32} {h : Int64} {Q : rn_Q} {off : Int} (tg : Nat) (hd : decode y.2.1 pc = .ok (.goto off, 3)) (ht : (pc : Int) + off = (tg : Int)) (k : rn_R X y d tg L S mu h Q) : rn_R X y d pc L S mu h Q := by
  intro p l e R s m args below meth c cells slots dC dI ad ca A Qt E F H locs ls hst hl hlen
  exact lv_goto E.1 E.2.1 hd ht (k p l e R s m args below meth c cells slots dC dI ad ca A Qt E F H locs ls hst hl hlen)
theorem rn_lcmp {X : Option (Nat × (Nat → Int32))} {y : ym_T} {d pc : Nat} {L : List (Option Value)} {S : List Value} {mu : Nat → Nat → Int32} {h : Int64} {Q : rn_Q} {a b : Int64} (n : Nat) (hd : decode y.2.1 pc = .ok (.lcmp, 1)) (hp : pc + 1 = n) (k : rn_R X y d n L (.int (lg_cmp a b) :: S) mu h Q) : rn_R X y d pc L (.long b :: .long a :: S) mu h Q := by
  subst hp
  intro p l e R s m args below meth c cells slots dC dI ad ca A Qt E F H locs ls hst hl hlen
  exact W.lcmp E.1 E.2.1 hd (k p l e R s m args below meth c cells slots dC dI ad ca A Qt E F H locs ls hst hl hlen)
theorem rn_ldc2 {X : Option (Nat × (Nat → Int32))} {y : ym_T} {d pc : Nat} {L : List (Option Value)} {S : List Value} {mu : Nat → Nat → Int32} {h : Int64} {Q : rn_Q} {idx : Nat} {v : Int64} (n : Nat) (hd : decode y.2.1 pc = .ok (.ldc2_w idx, 3)) (hw : Cond.constantLong y.1.cls idx v ∈ ly_G) (hp : pc + 3 = n) (k : rn_R X y d n L (.long v :: S) mu h Q) : rn_R X y d pc L S mu h Q := by
  subst hp
  intro p l e R s m args below meth c cells slots dC dI ad ca A Qt E F H locs ls hst hl hlen
  exact lv_ldc2 E.1 E.2.1 E.2.2.2.2.1 (E.2.2.2.2.2.1 _ hw) hd (k p l e R s m args below meth c cells slots dC dI ad ca A Qt E F H locs ls hst hl hlen)
theorem rn_ldc {X : Option (Nat × (Nat → Int32))} {y : ym_T} {d pc : Nat} {L : List (Option Value)} {S : List Value} {mu : Nat → Nat → Int32} {h : Int64} {Q : rn_Q} {idx : Nat} {v : Int32} (n : Nat) (hd : decode y.2.1 pc = .ok (.ldc idx, 2)) (hw : Cond.constant y.1.cls idx v ∈ ly_G) (hp : pc + 2 = n) (k : rn_R X y d n L (.int v :: S) mu h Q) : rn_R X y d pc L S mu h Q := by
  subst hp
  intro p l e R s m args below meth c cells slots dC dI ad ca A Qt E F H locs ls hst hl hlen
  exact lv_ldc E.1 E.2.1 E.2.2.2.2.1 (E.2.2.2.2.2.1 _ hw) hd (k p l e R s m args below meth c cells slots dC dI ad ca A Qt E F H locs ls hst hl hlen)
theorem rn_tableOut {X : Option (Nat × (Nat → Int32))} {y : ym_T} {d pc : Nat} {L : List (Option Value)} {S : List Value} {mu : Nat → Nat → Int32} {h : Int64} {Q : rn_Q} {dflt lo hi : Int} {offs : Array Int} {len : Nat} {a : Int32} (tg : Nat) (hd : decode y.2.1 pc = .ok (.tableswitch dflt lo hi offs, len)) (hx : a.toInt < lo ∨ hi < a.toInt) (ht : (pc : Int) + dflt = (tg : Int)) (k : rn_R X y d tg L S mu h Q) : rn_R X y d pc L (.int a :: S) mu h Q := by
  intro p l e R s m args below meth c cells slots dC dI ad ca A Qt E F H locs ls hst hl hlen
  exact lv_tableOut E.1 E.2.1 hd hx ht (k p l e R s m args below meth c cells slots dC dI ad ca A Qt E F H locs ls hst hl hlen)
theorem rn_tableIn {X : Option (Nat × (Nat → Int32))} {y : ym_T} {d pc : Nat} {L : List (Option Value)} {S : List Value} {mu : Nat → Nat → Int32} {h : Int64} {Q : rn_Q} {dflt lo hi off : Int} {offs : Array Int} {len : Nat} {a : Int32} (tg : Nat) (hd : decode y.2.1 pc = .ok (.tableswitch dflt lo hi offs, len)) (h1 : ¬ a.toInt < lo) (h2 : ¬ hi < a.toInt) (ho : offs[(a.toInt - lo).toNat]? = some off) (ht : (pc : Int) + off = (tg : Int)) (k : rn_R X y d tg L S mu h Q) : rn_R X y d pc L (.int a :: S) mu h Q := by
  intro p l e R s m args below meth c cells slots dC dI ad ca A Qt E F H locs ls hst hl hlen
  exact lv_tableIn E.1 E.2.1 hd h1 h2 ho ht (k p l e R s m args below meth c cells slots dC dI ad ca A Qt E F H locs ls hst hl hlen)
theorem rn_get {X : Option (Nat × (Nat → Int32))} {y : ym_T} {d pc : Nat} {L : List (Option Value)} {S : List Value} {mu : Nat → Nat → Int32} {h : Int64} {Q : rn_Q} {i ci j idx : Nat} {fs : List ly_F} {f : ly_F} (n : Nat) (v : Value) (hd : decode y.2.1 pc = .ok (.getfield idx, 3)) (hf : fl_ok y.1.cls idx ci j) (hi : ly_L[i]? = some (.inr (ci, fs))) (hj : fs[j]? = some f) (hv : ly_av h (mu i) j f = v) (hp : pc + 3 = n) (k : rn_R X y d n L (v :: S) mu h Q) : rn_R X y d pc L (.ref i :: S) mu h Q := by
  subst hp; subst hv
  intro p l e R s m args below meth c cells slots dC dI ad ca A Qt E F H locs ls hst hl hlen
  obtain ⟨C, T, N, hC, hjN, hin, hlk⟩ := hf
  have hfj : (fs.mapIdx (fun j f => ly_fv ad h (mu i) j f))[j]? = some (tv_v ad (ly_av h (mu i) j f)) := by
    rw [List.getElem?_mapIdx, hj, ← ly_fv_av]; rfl
  rcases hlk with hlk | ⟨host, hlk⟩
  · exact va_get E.1 E.2.1 E.2.2.2.2.2.1 hin E.2.2.2.2.1 E.2.2.2.2.2.2.1.1 hst.1 i (ly_at hi) hC j hjN (E.2.2.2.2.2.1 _ hlk) (fun _ h => h) hfj hd (k p l e R s m args below meth c cells slots dC dI ad ca A Qt E F H locs ls hst hl hlen)
  · exact va_getN E.1 E.2.1 E.2.2.2.2.2.1 hin E.2.2.2.2.1 E.2.2.2.2.2.2.1.1 hst.1 i (ly_at hi) hC j hjN ((E.2.2.2.2.2.2.1.2.1 _ hlk).2.use rfl) (fun _ h => h) hfj hd (k p l e R s m args below meth c cells slots dC dI ad ca A Qt E F H locs ls hst hl hlen)
theorem ly_w_obj {ad : Nat → Nat} {ca : Nat → ClassId} {mu : Nat → Nat → Int32} {h : Int64} {i j ci : Nat} {fs : List ly_F} (hi : ly_L[i]? = some (.inr (ci, fs))) (hj : fs[j]? = some none) (v : Int32) : (ly_w ad ca mu h).set i (ad i, .inr (ci, (fs.mapIdx (fun j f => ly_fv ad h (mu i) j f)).set j (.int v))) = ly_w ad ca (mu_s mu i j v) h := by
  rw [ly_obj_set hj, mu_s_r, ← ly_w_setr hi]
  simp [ly_e, mu_r_in]
theorem rn_put {X : Option (Nat × (Nat → Int32))} {y : ym_T} {d pc : Nat} {L : List (Option Value)} {S : List Value} {mu : Nat → Nat → Int32} {h : Int64} {Q : rn_Q} {i ci j idx : Nat} {fs : List ly_F} {v : Int32} {ty : FieldType} (n : Nat) (hd : decode y.2.1 pc = .ok (.putfield idx, 3)) (hf : fp_ok y.1.cls idx ci j ty) (hi : ly_L[i]? = some (.inr (ci, fs))) (hj : fs[j]? = some none) (hnar : narrow ty (.int v) = .int v) (hfit : fits ty (.int v) = true) (hp : pc + 3 = n) (k : rn_R X y d n L S (mu_s mu i j v) h Q) : rn_R X y d pc L (.int v :: .ref i :: S) mu h Q := by
  subst hp
  intro p l e R s m args below meth c cells slots dC dI ad ca A Qt E F H locs ls hst hl hlen
  obtain ⟨C, T, N, ty0, hC, hjN, hin, hlk, hty, hnm, hfin, hdty⟩ := hf
  have hfl : j < (fs.mapIdx (fun j f => ly_fv ad h (mu i) j f)).length := by simpa using (List.getElem?_eq_some_iff.mp hj).1
  have kk : ∀ (H1 : Heap) (locs1 : List Loc), va_P (dC, dI) ly_C ((ly_w ad ca mu h).set i (ad i, .inr (ci, (fs.mapIdx (fun j f => ly_fv ad h (mu i) j f)).set j (.int v)))) H1 → va_D A ((ly_w ad ca mu h).set i (ad i, .inr (ci, (fs.mapIdx (fun j f => ly_fv ad h (mu i) j f)).set j (.int v)))) → va_S A s.heap H1 locs1 → W p l e R s m args below meth c H1 locs1 cells slots Qt (F0 m (pc + 3) ls (S.map (tv_v ad))) := by
    intro H1 locs1 q1 q2 q3
    rw [ly_w_obj hi hj] at q1 q2
    exact k p l e R s m args below meth c cells slots dC dI ad ca A Qt E F H1 locs1 ls ⟨q1, q2, q3⟩ hl hlen
  rcases hlk with hlk | ⟨host, hlk⟩
  · exact va_put E.1 E.2.1 E.2.2.2.2.2.1 hin ty0 hty hnm E.2.2.2.2.1 E.2.2.2.2.2.2.1.1 hst.1 hst.2.1 hst.2.2 i (ly_at hi) hC j hjN (E.2.2.2.2.2.1 _ hlk) (fun _ h => h) hfin hdty hnar hfit hfl hd kk
  · exact va_putN E.1 E.2.1 E.2.2.2.2.2.1 hin ty0 hty hnm E.2.2.2.2.1 E.2.2.2.2.2.2.1.1 hst.1 hst.2.1 hst.2.2 i (ly_at hi) hC j hjN ((E.2.2.2.2.2.2.1.2.1 _ hlk).2.use rfl) (fun _ h => h) hfin hdty hnar hfit hfl hd kk
/-- the one long: no other field is long -/
def ly_1 (i j : Nat) : Prop := ∀ (i2 ci2 : Nat) (fs2 : List ly_F) (j2 : Nat), ly_L[i2]? = some (.inr (ci2, fs2)) → fs2[j2]? = some (some none) → i2 = i ∧ j2 = j
theorem ly_w_long {ad : Nat → Nat} {ca : Nat → ClassId} {mu : Nat → Nat → Int32} {h : Int64} {i j ci : Nat} {fs : List ly_F} (hi : ly_L[i]? = some (.inr (ci, fs))) (hj : fs[j]? = some (some none)) (h1 : ly_1 i j) (v : Int64) : (ly_w ad ca mu h).set i (ad i, .inr (ci, (fs.mapIdx (fun j f => ly_fv ad h (mu i) j f)).set j (.long v))) = ly_w ad ca mu v := by
  apply List.ext_getElem?
  intro k
  by_cases hk : k = i
  · subst hk
    have hl : k < (ly_w ad ca mu h).length := (List.getElem?_eq_some_iff.mp (ly_at hi)).1
    rw [List.getElem?_set_self hl, ly_at hi]
    simp only [ly_e]
    congr 4
    apply List.ext_getElem?
    intro q
    by_cases hq : q = j
    · subst hq
      have hl2 : q < (fs.mapIdx (fun j f => ly_fv ad h (mu k) j f)).length := by simpa using (List.getElem?_eq_some_iff.mp hj).1
      rw [List.getElem?_set_self hl2]
      simp [List.getElem?_mapIdx, hj, ly_fv]
    · rw [List.getElem?_set_ne (Ne.symm hq)]
      simp only [List.getElem?_mapIdx]
      cases hz : fs[q]? with
      | none => rfl
      | some z =>
        cases z with
        | none => rfl
        | some g =>
          cases g with
          | none => exact absurd (h1 k ci fs q hi hz).2 hq
          | some _ => rfl
  · rw [List.getElem?_set_ne (Ne.symm hk)]
    simp only [ly_w, List.getElem?_mapIdx]
    cases hz : ly_L[k]? with
    | none => rfl
    | some z =>
      cases z with
      | inl a => rfl
      | inr o =>
        simp only [ly_e, Option.map_some, Option.some.injEq, Prod.mk.injEq, true_and, Sum.inr.injEq]
        apply List.ext_getElem?
        intro q
        simp only [List.getElem?_mapIdx]
        cases hz2 : o.2[q]? with
        | none => rfl
        | some w =>
          cases w with
          | none => rfl
          | some g =>
            cases g with
            | none => exact absurd (h1 k o.1 o.2 q hz hz2).1 hk
            | some _ => rfl
theorem rn_putl {X : Option (Nat × (Nat → Int32))} {y : ym_T} {d pc : Nat} {L : List (Option Value)} {S : List Value} {mu : Nat → Nat → Int32} {h : Int64} {Q : rn_Q} {i ci j idx : Nat} {fs : List ly_F} {v : Int64} (n : Nat) (hd : decode y.2.1 pc = .ok (.putfield idx, 3)) (hf : fp_ok y.1.cls idx ci j .long) (hi : ly_L[i]? = some (.inr (ci, fs))) (hj : fs[j]? = some (some none)) (h1 : ly_1 i j) (hp : pc + 3 = n) (k : rn_R X y d n L S mu v Q) : rn_R X y d pc L (.long v :: .ref i :: S) mu h Q := by
  subst hp
  intro p l e R s m args below meth c cells slots dC dI ad ca A Qt E F H locs ls hst hl hlen
  have hnar : narrow .long (.long v) = .long v := rfl
  have hfit : fits .long (.long v) = true := rfl
  obtain ⟨C, T, N, ty0, hC, hjN, hin, hlk, hty, hnm, hfin, hdty⟩ := hf
  have hfl : j < (fs.mapIdx (fun j f => ly_fv ad h (mu i) j f)).length := by simpa using (List.getElem?_eq_some_iff.mp hj).1
  have kk : ∀ (H1 : Heap) (locs1 : List Loc), va_P (dC, dI) ly_C ((ly_w ad ca mu h).set i (ad i, .inr (ci, (fs.mapIdx (fun j f => ly_fv ad h (mu i) j f)).set j (.long v)))) H1 → va_D A ((ly_w ad ca mu h).set i (ad i, .inr (ci, (fs.mapIdx (fun j f => ly_fv ad h (mu i) j f)).set j (.long v)))) → va_S A s.heap H1 locs1 → W p l e R s m args below meth c H1 locs1 cells slots Qt (F0 m (pc + 3) ls (S.map (tv_v ad))) := by
    intro H1 locs1 q1 q2 q3
    rw [ly_w_long hi hj h1] at q1 q2
    exact k p l e R s m args below meth c cells slots dC dI ad ca A Qt E F H1 locs1 ls ⟨q1, q2, q3⟩ hl hlen
  rcases hlk with hlk | ⟨host, hlk⟩
  · exact va_put E.1 E.2.1 E.2.2.2.2.2.1 hin ty0 hty hnm E.2.2.2.2.1 E.2.2.2.2.2.2.1.1 hst.1 hst.2.1 hst.2.2 i (ly_at hi) hC j hjN (E.2.2.2.2.2.1 _ hlk) (fun _ h => h) hfin hdty hnar hfit hfl hd kk
  · exact va_putN E.1 E.2.1 E.2.2.2.2.2.1 hin ty0 hty hnm E.2.2.2.2.1 E.2.2.2.2.2.2.1.1 hst.1 hst.2.1 hst.2.2 i (ly_at hi) hC j hjN ((E.2.2.2.2.2.2.1.2.1 _ hlk).2.use rfl) (fun _ h => h) hfin hdty hnar hfit hfl hd kk
theorem rn_iald {X : Option (Nat × (Nat → Int32))} {y : ym_T} {d pc : Nat} {L : List (Option Value)} {S : List Value} {mu : Nat → Nat → Int32} {h : Int64} {Q : rn_Q} {i len : Nat} {x : Int32} (n : Nat) (v : Int32) (hd : decode y.2.1 pc = .ok (.iaload, 1)) (hi : ly_L[i]? = some (.inl (0, len))) (hin : vp_in x len) (hv : mu i x.toNatClampNeg = v) (hp : pc + 1 = n) (k : rn_R X y d n L (.int v :: S) mu h Q) : rn_R X y d pc L (.int x :: .ref i :: S) mu h Q := by
  subst hp; subst hv
  intro p l e R s m args below meth c cells slots dC dI ad ca A Qt E F H locs ls hst hl hlen
  exact va_iald E.1 E.2.1 E.2.2.2.2.2.2.1.1 hst.1 i 0 (ly_at hi) rfl hin hd (k p l e R s m args below meth c cells slots dC dI ad ca A Qt E F H locs ls hst hl hlen)
theorem rn_bald {X : Option (Nat × (Nat → Int32))} {y : ym_T} {d pc : Nat} {L : List (Option Value)} {S : List Value} {mu : Nat → Nat → Int32} {h : Int64} {Q : rn_Q} {i len : Nat} {x : Int32} (n : Nat) (v : Int32) (hd : decode y.2.1 pc = .ok (.baload, 1)) (hi : ly_L[i]? = some (.inl (1, len))) (hin : vp_in x len) (hv : mu i x.toNatClampNeg = v) (hp : pc + 1 = n) (k : rn_R X y d n L (.int v :: S) mu h Q) : rn_R X y d pc L (.int x :: .ref i :: S) mu h Q := by
  subst hp; subst hv
  intro p l e R s m args below meth c cells slots dC dI ad ca A Qt E F H locs ls hst hl hlen
  exact va_bald E.1 E.2.1 E.2.2.2.2.2.2.1.1 hst.1 i 1 (ly_at hi) rfl hin hd (k p l e R s m args below meth c cells slots dC dI ad ca A Qt E F H locs ls hst hl hlen)
theorem rn_iast {X : Option (Nat × (Nat → Int32))} {y : ym_T} {d pc : Nat} {L : List (Option Value)} {S : List Value} {mu : Nat → Nat → Int32} {h : Int64} {Q : rn_Q} {i len : Nat} {x v : Int32} (n : Nat) (hd : decode y.2.1 pc = .ok (.iastore, 1)) (hi : ly_L[i]? = some (.inl (0, len))) (hin : vp_in x len) (hp : pc + 1 = n) (k : rn_R X y d n L S (mu_s mu i x.toNatClampNeg v) h Q) : rn_R X y d pc L (.int v :: .int x :: .ref i :: S) mu h Q := by
  subst hp
  intro p l e R s m args below meth c cells slots dC dI ad ca A Qt E F H locs ls hst hl hlen
  have eW : (ly_w ad ca mu h).set i (ad i, .inl (ca 0, len, .inl (upd (mu i) x.toNatClampNeg v))) = ly_w ad ca (mu_s mu i x.toNatClampNeg v) h := by
    rw [mu_s_r, ← ly_w_setr hi]
    simp [ly_e, mu_r_in]
  exact va_iast E.1 E.2.1 E.2.2.2.2.2.2.1.1 hst.1 hst.2.1 hst.2.2 i 0 (ly_at hi) rfl hin hd (fun H1 locs1 q1 q2 q3 => k p l e R s m args below meth c cells slots dC dI ad ca A Qt E F H1 locs1 ls ⟨eW ▸ q1, eW ▸ q2, q3⟩ hl hlen)
theorem rn_bast {X : Option (Nat × (Nat → Int32))} {y : ym_T} {d pc : Nat} {L : List (Option Value)} {S : List Value} {mu : Nat → Nat → Int32} {h : Int64} {Q : rn_Q} {i len : Nat} {x v : Int32} (n : Nat) (hd : decode y.2.1 pc = .ok (.bastore, 1)) (hi : ly_L[i]? = some (.inl (1, len))) (hin : vp_in x len) (hp : pc + 1 = n) (k : rn_R X y d n L S (mu_s mu i x.toNatClampNeg (vp_nar .byte v)) h Q) : rn_R X y d pc L (.int v :: .int x :: .ref i :: S) mu h Q := by
  subst hp
  intro p l e R s m args below meth c cells slots dC dI ad ca A Qt E F H locs ls hst hl hlen
  have eW : (ly_w ad ca mu h).set i (ad i, .inl (ca 1, len, .inl (upd (mu i) x.toNatClampNeg (vp_nar .byte v)))) = ly_w ad ca (mu_s mu i x.toNatClampNeg (vp_nar .byte v)) h := by
    rw [mu_s_r, ← ly_w_setr hi]
    simp [ly_e, mu_r_in]
  exact va_bast E.1 E.2.1 E.2.2.2.2.2.2.1.1 hst.1 hst.2.1 hst.2.2 i 1 (ly_at hi) rfl hin hd (fun H1 locs1 q1 q2 q3 => k p l e R s m args below meth c cells slots dC dI ad ca A Qt E F H1 locs1 ls ⟨eW ▸ q1, eW ▸ q2, q3⟩ hl hlen)
theorem rn_alen {X : Option (Nat × (Nat → Int32))} {y : ym_T} {d pc : Nat} {L : List (Option Value)} {S : List Value} {mu : Nat → Nat → Int32} {h : Int64} {Q : rn_Q} {i len t0 : Nat} {ty : FieldType} (n : Nat) (v : Int32) (hd : decode y.2.1 pc = .ok (.arraylength, 1)) (hi : ly_L[i]? = some (.inl (t0, len))) (ht : t0 = 0 ∨ t0 = 1) (hv : Int32.ofNat len = v) (hp : pc + 1 = n) (k : rn_R X y d n L (.int v :: S) mu h Q) : rn_R X y d pc L (.ref i :: S) mu h Q := by
  subst hp
  intro p l e R s m args below meth c cells slots dC dI ad ca A Qt E F H locs ls hst hl hlen
  rcases ht with rfl | rfl
  · exact va_alen E.1 E.2.1 E.2.2.2.2.2.2.1.1 hst.1 i 0 (ly_at hi) rfl hv hd (k p l e R s m args below meth c cells slots dC dI ad ca A Qt E F H locs ls hst hl hlen)
  · exact va_alen E.1 E.2.1 E.2.2.2.2.2.2.1.1 hst.1 i 1 (ly_at hi) rfl hv hd (k p l e R s m args below meth c cells slots dC dI ad ca A Qt E F H locs ls hst hl hlen)
theorem rn_copyi {X : Option (Nat × (Nat → Int32))} {y : ym_T} {d pc : Nat} {L : List (Option Value)} {S : List Value} {mu : Nat → Nat → Int32} {h : Int64} {Q : rn_Q} {i1 i2 len1 len2 idx : Nat} {sp dp cnt : Int32} (n : Nat) (hd : decode y.2.1 pc = .ok (.invokestatic idx, 3)) (hlk : Cond.methodLink y.1.cls idx arraycopyName ∈ ly_G) (hi1 : ly_L[i1]? = some (.inl (0, len1))) (hi2 : ly_L[i2]? = some (.inl (0, len2))) (h1 : ¬ sp < 0) (h2 : ¬ dp < 0) (h3 : ¬ cnt < 0) (h4 : sp.toNatClampNeg + cnt.toNatClampNeg ≤ len1) (h5 : dp.toNatClampNeg + cnt.toNatClampNeg ≤ len2) (hcat : (S.map fun v => v.category).sum ≤ 8) (hp : pc + 3 = n) (k : rn_R X y (d + 1) n L S (mu_r mu i2 (va_cpy (mu i1) (mu i2) sp.toNatClampNeg dp.toNatClampNeg cnt.toNatClampNeg)) h Q) : rn_R X y (d + 1) pc L (.int cnt :: .int dp :: .ref i2 :: .int sp :: .ref i1 :: S) mu h Q := by
  subst hp
  intro p l e R s m args below meth c cells slots dC dI ad ca A Qt E F H locs ls hst hl hlen
  have eW : (ly_w ad ca mu h).set i2 (ad i2, .inl (ca 0, len2, .inl (va_cpy (mu i1) (mu i2) sp.toNatClampNeg dp.toNatClampNeg cnt.toNatClampNeg))) = ly_w ad ca (mu_r mu i2 (va_cpy (mu i1) (mu i2) sp.toNatClampNeg dp.toNatClampNeg cnt.toNatClampNeg)) h := by
    rw [← ly_w_setr hi2]
    simp [ly_e, mu_r_in]
  have hts := E.2.2.2.2.2.1
  have hR := E.2.2.2.2.2.2.2.1
  have hnw : nativeFrameWords "java/lang/System" "arraycopy" 5 + 11 ≤ 30 := by decide +kernel
  exact va_copyi E.1 E.2.1 (by rw [E.2.2.1, hl.1, hlen]) E.2.2.2.2.1 (hts _ hlk) (hts _ ly_copy.1) (hts _ ly_copy.2.1) (hts _ ly_copy.2.2) E.2.2.2.2.2.2.1.1 hst.1 hst.2.1 hst.2.2 i1 i2 0 0 (ly_at hi1) (ly_at hi2) rfl rfl rfl h1 h2 h3 h4 h5 (fun _ _ => rfl) (by omega) (by rw [tv_catsum]; omega) hd (fun H1 locs1 q1 q2 q3 => k p l e R s m args below meth c cells slots dC dI ad ca A Qt E F H1 locs1 ls ⟨eW ▸ q1, eW ▸ q2, q3⟩ hl hlen)
theorem rn_gets {X : Option (Nat × (Nat → Int32))} {y : ym_T} {d pc : Nat} {L : List (Option Value)} {S : List Value} {mu : Nat → Nat → Int32} {h : Int64} {Q : rn_Q} {idx : Nat} {z : Nat × String × String × String × Nat × (Nat → Int32)} (n : Nat) (hd : decode y.2.1 pc = .ok (.getstatic idx, 3)) (hz : z ∈ ly_Z) (hlk : Cond.fieldLink y.1.cls idx z.2.1 z.2.2.1 z.2.2.2.1 ∈ ly_G) (hp : pc + 3 = n) (k : rn_R X y d n L (.ref z.1 :: S) mu h Q) : rn_R X y d pc L S mu h Q := by
  subst hp
  intro p l e R s m args below meth c cells slots dC dI ad ca A Qt E F H locs ls hst hl hlen
  exact va_gets E.1 E.2.1 (E.2.2.2.2.2.2.1.2.2 z hz).1 hst.2.2 E.2.2.2.2.1 (E.2.2.2.2.2.1 _ hlk) (fun _ h => h) hd (k p l e R s m args below meth c cells slots dC dI ad ca A Qt E F H locs ls hst hl hlen)
theorem rn_ti {X : Option (Nat × (Nat → Int32))} {y : ym_T} {d pc : Nat} {L : List (Option Value)} {S : List Value} {mu : Nat → Nat → Int32} {h : Int64} {Q : rn_Q} {z : Nat × String × String × String × Nat × (Nat → Int32)} {x : Int32} (n : Nat) (v : Int32) (hd : decode y.2.1 pc = .ok (.iaload, 1)) (hz : z ∈ ly_Z) (hin : vp_in x z.2.2.2.2.1) (hv : z.2.2.2.2.2 x.toNatClampNeg = v) (hp : pc + 1 = n) (k : rn_R X y d n L (.int v :: S) mu h Q) : rn_R X y d pc L (.int x :: .ref z.1 :: S) mu h Q := by
  subst hp; subst hv
  intro p l e R s m args below meth c cells slots dC dI ad ca A Qt E F H locs ls hst hl hlen
  exact va_ti E.1 E.2.1 (E.2.2.2.2.2.2.1.2.2 z hz).2 hst.2.2 hin rfl hd (k p l e R s m args below meth c cells slots dC dI ad ca A Qt E F H locs ls hst hl hlen)
theorem rn_sld {y : ym_T} {d pc : Nat} {L : List (Option Value)} {S : List Value} {mu : Nat → Nat → Int32} {h : Int64} {Q : rn_Q} {x : Int32} {len : Nat} {xs : Nat → Int32} (n : Nat) (v : Int32) (hd : decode y.2.1 pc = .ok (.iaload, 1)) (hin : vp_in x len) (hv : xs x.toNatClampNeg = v) (hp : pc + 1 = n) (k : rn_R (some (len, xs)) y d n L (.int v :: S) mu h Q) : rn_R (some (len, xs)) y d pc L (.int x :: .ref 99 :: S) mu h Q := by
  subst hp; subst hv
  intro p l e R s m args below meth c cells slots dC dI ad ca A Qt E F H locs ls hst hl hlen
  obtain ⟨q1, q2, q3⟩ := E.2.2.2.2.2.2.2.2.2
  exact va_sld E.1 E.2.1 q1 q2 q3 hst.2.2 hin hd (k p l e R s m args below meth c cells slots dC dI ad ca A Qt E F H locs ls hst hl hlen)
theorem rn_slen {y : ym_T} {d pc : Nat} {L : List (Option Value)} {S : List Value} {mu : Nat → Nat → Int32} {h : Int64} {Q : rn_Q} {len : Nat} {xs : Nat → Int32} (n : Nat) (v : Int32) (hd : decode y.2.1 pc = .ok (.arraylength, 1)) (hv : Int32.ofNat len = v) (hp : pc + 1 = n) (k : rn_R (some (len, xs)) y d n L (.int v :: S) mu h Q) : rn_R (some (len, xs)) y d pc L (.ref 99 :: S) mu h Q := by
  subst hp; subst hv
  intro p l e R s m args below meth c cells slots dC dI ad ca A Qt E F H locs ls hst hl hlen
  obtain ⟨q1, q2, q3⟩ := E.2.2.2.2.2.2.2.2.2
  exact va_slen E.1 E.2.1 q1 q2 q3 hst.2.2 hd (k p l e R s m args below meth c cells slots dC dI ad ca A Qt E F H locs ls hst hl hlen)
theorem rn_iret {X : Option (Nat × (Nat → Int32))} {y : ym_T} {d pc : Nat} {L : List (Option Value)} {mu : Nat → Nat → Int32} {h : Int64} {Q : rn_Q} {v : Int32} (hr : y.2.2.2 = some .int) (hd : decode y.2.1 pc = .ok (.ireturn, 1)) (hQ : Q (some (.int v)) mu h) : rn_R X y d pc L [.int v] mu h Q := by
  intro p l e R s m args below meth c cells slots dC dI ad ca A Qt E F H locs ls hst hl hlen
  exact F (some (.int v)) mu h H locs pc ls hQ (by rw [hr]; trivial) hst (by rw [hr]; exact hd)
theorem rn_lret {X : Option (Nat × (Nat → Int32))} {y : ym_T} {d pc : Nat} {L : List (Option Value)} {mu : Nat → Nat → Int32} {h : Int64} {Q : rn_Q} {v : Int64} (hr : y.2.2.2 = some .long) (hd : decode y.2.1 pc = .ok (.lreturn, 1)) (hQ : Q (some (.long v)) mu h) : rn_R X y d pc L [.long v] mu h Q := by
  intro p l e R s m args below meth c cells slots dC dI ad ca A Qt E F H locs ls hst hl hlen
  exact F (some (.long v)) mu h H locs pc ls hQ (by rw [hr]; trivial) hst (by rw [hr]; exact hd)
theorem rn_zret {X : Option (Nat × (Nat → Int32))} {y : ym_T} {d pc : Nat} {L : List (Option Value)} {mu : Nat → Nat → Int32} {h : Int64} {Q : rn_Q} {v : Int32} (hr : y.2.2.2 = some .boolean) (hd : decode y.2.1 pc = .ok (.ireturn, 1)) (hz : narrow .boolean (.int v) = .int v) (hQ : Q (some (.int v)) mu h) : rn_R X y d pc L [.int v] mu h Q := by
  intro p l e R s m args below meth c cells slots dC dI ad ca A Qt E F H locs ls hst hl hlen
  exact F (some (.int v)) mu h H locs pc ls hQ (by rw [hr]; exact hz) hst (by rw [hr]; exact hd)
theorem rn_vret {X : Option (Nat × (Nat → Int32))} {y : ym_T} {d pc : Nat} {L : List (Option Value)} {mu : Nat → Nat → Int32} {h : Int64} {Q : rn_Q} (hr : y.2.2.2 = none) (hd : decode y.2.1 pc = .ok (.return_, 1)) (hQ : Q none mu h) : rn_R X y d pc L [] mu h Q := by
  intro p l e R s m args below meth c cells slots dC dI ad ca A Qt E F H locs ls hst hl hlen
  exact F none mu h H locs pc ls hQ (by rw [hr]; trivial) hst (by rw [hr]; exact hd)
