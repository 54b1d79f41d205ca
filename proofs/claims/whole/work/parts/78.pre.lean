/-! THE LAW FROM ITS ENTRY -/
/-! THE CLAIM OUT OF ONE WALK OF THE LAW'S BODY. Your part is whole_start (and what it stands on); all else here is the same for every law, but numbers. -/
def R_law : String := "PathInterdictionLaw"
def lw_P (b : Addr) (xs : List Int32) (args : Array Value) (s : State) : Prop := args = #[.ref b] ∧ s.IntsAt b xs ∧ xs.length ≤ 3072 ∧ (Jvm.Cond.and given_1 narrow_1).before args s = true
def lw_Q (_ : Array Value) (s : State) (o : Outcome) (t : State) : Prop := o = .returned (some (.int 1)) ∧ Framed s o t [] 600000 7302249
def lw_Z (below : List Frame) (a : Array Value) (s : State) : State → Prop := fun t => ∃ o, t.status = .running ∧ Ended t below o ∧ lw_Q a s o t
/-- the law's own end, with 1 on the stack, nothing written that was there before, its room as the claim has it -/
theorem lw_ret {p : Program} {l : Launch} {e : Env} {s : State} {m : MethodId} {below : List Frame} {meth : Method} {c : Code} {b : Nat} (hx : p.tables.exec = Jvm.exec) (hb : c.code = code) (hr : meth.sig.returnType = ret) (hlocks : meth.locks = false) {pc : Nat} {H : Heap} {ls : Array Slot} (hdg : decode code pc = .ok (.ireturn, 1)) : W p l e room_1 s m #[Value.ref b] below meth c H [] 600000 7302249 (lw_Z below #[Value.ref b] s) (F0 m pc ls [.int 1]) := by
  intro T hT X
  obtain ⟨fs, hret, hrun, hended, hW, hframe⟩ := X.leave (v := some (.int 1)) (hlocks := hlocks) (fun h => by rw [hr] at h; cases h)
  have hmeth' : T.vm.method? m = some meth := X.method'
  refine ⟨T.setFrames fs, ?_, .returned (some (.int 1)), hrun, hended, rfl, ⟨_, rfl⟩, hW, hframe⟩
  jvm_step X.here [X.here.top, hx, hb, hdg, hmeth', hr, ret, narrow_b1]
  (try refine ⟨rfl, ?_⟩); (try refine ⟨rfl, ?_⟩)
  first | (intro acts; rw [hret _ acts rfl rfl rfl]) | rw [hret _ _ rfl rfl rfl]
  exact Steps.refl _
/-- what holds at the law's entry: the machine, the code, the tables' words (any of lw_tbl by 'hts w (by decide +kernel)'), the script of L ints xs at the cell b, what the Statement gives of the start (any of its parts by flat_of_before) -/
def lw_At (p : Program) (s : State) (m : MethodId) (meth : Method) (c : Code) (b L : Nat) (xs : Nat → Int32) : Prop :=
  p.tables.exec = Jvm.exec ∧ c.code = code ∧ meth.sig.returnType = ret ∧ c.maxLocals = 4 ∧ s.vm.findClass R_law = some m.cls ∧ (∀ w ∈ lw_tbl, w.before #[Value.ref b] s = true) ∧ va_X b L xs s s.heap ∧ b < s.heap.size ∧ meth.locks = false ∧ (Jvm.Cond.and given_1 narrow_1).before #[Value.ref b] s = true

def mu_0 : Nat → Nat → Int32 := mu_s (mu_s (fun _ _ => 0) 0 8 (-1)) 22 3 (-1)
theorem xS_0 : xS ([], 0, [], [], -1) mu_0 := ⟨⟨by simp, by simp, rfl, by simp⟩, ⟨rfl, by simp⟩, ⟨0, by omega, by simp, rfl, rfl, by simp⟩, ⟨by simp, rfl, by simp, by simp⟩, rfl⟩
theorem mS_0 : mS ([], 0, [], [], -1) mu_0 := ⟨⟨by simp, by simp, rfl, by simp⟩, ⟨rfl, by simp⟩, ⟨by simp, rfl, by simp⟩, ⟨by simp, rfl, by simp, by simp⟩, rfl⟩
def ad_of (b t0 t1 : Nat) (as : List Nat) : Nat → Nat := fun i => if i = 99 then b else if i = 90 then t0 else if i = 91 then t1 else as.getD i 0
theorem ac_K {ty : FieldType} {args : Array Value} {s : State} (h : (Cond.arrayClass ty).before args s = true) (hty : ty = .int ∨ ty = .byte) : ∃ cA : ClassId, ArrOfT s cA ty ∧ va_RA s cA ty := by
  obtain ⟨cA, kA, comp, h1, h2, h3⟩ := Cond.arrayClass_spec h
  refine ⟨cA, fun n z => ⟨fun k h => (by cases h), kA, h2, comp, h3⟩, ?_⟩
  rcases hty with rfl | rfl
  · exact h1
  · exact h1

theorem zt_SHIFTS {args : Array Value} {s : State} {A : Nat → Prop} (hg : (Jvm.Cond.and given_1 narrow_1).before args s = true) (hA : ∀ a : Nat, a < s.heap.size → ¬ A a) : ∃ t : Nat, (Term.static "PathInterdiction$Graph" "SHIFTS" "[I").eval args s none [] s = some (.ref t) ∧ va_T .int t 5 (fun j => .int ([0, 3, 6, 13, 20].getD j 0)) A s s.heap := by
  have hs := flat_of_before _ hg
  refine va_Tof (by decide) (hs _ (by decide +kernel)) (va_eqt (hs (Cond.eq (.length (.static "PathInterdiction$Graph" "SHIFTS" "[I")) (.int 5)) (by decide +kernel))) (fun j hj => ?_) hA
  rcases (show j = 0 ∨ j = 1 ∨ j = 2 ∨ j = 3 ∨ j = 4 by omega) with rfl | rfl | rfl | rfl | rfl
  · exact va_eqt (hs (Cond.eq (.elem (.static "PathInterdiction$Graph" "SHIFTS" "[I") (.int 0)) (.int 0)) (by decide +kernel))
  · exact va_eqt (hs (Cond.eq (.elem (.static "PathInterdiction$Graph" "SHIFTS" "[I") (.int 1)) (.int 3)) (by decide +kernel))
  · exact va_eqt (hs (Cond.eq (.elem (.static "PathInterdiction$Graph" "SHIFTS" "[I") (.int 2)) (.int 6)) (by decide +kernel))
  · exact va_eqt (hs (Cond.eq (.elem (.static "PathInterdiction$Graph" "SHIFTS" "[I") (.int 3)) (.int 13)) (by decide +kernel))
  · exact va_eqt (hs (Cond.eq (.elem (.static "PathInterdiction$Graph" "SHIFTS" "[I") (.int 4)) (.int 20)) (by decide +kernel))

theorem zt_MASKS {args : Array Value} {s : State} {A : Nat → Prop} (hg : (Jvm.Cond.and given_1 narrow_1).before args s = true) (hA : ∀ a : Nat, a < s.heap.size → ¬ A a) : ∃ t : Nat, (Term.static "PathInterdiction$Graph" "MASKS" "[I").eval args s none [] s = some (.ref t) ∧ va_T .int t 5 (fun j => .int ([7, 7, 127, 127, 15].getD j 0)) A s s.heap := by
  have hs := flat_of_before _ hg
  refine va_Tof (by decide) (hs _ (by decide +kernel)) (va_eqt (hs (Cond.eq (.length (.static "PathInterdiction$Graph" "MASKS" "[I")) (.int 5)) (by decide +kernel))) (fun j hj => ?_) hA
  rcases (show j = 0 ∨ j = 1 ∨ j = 2 ∨ j = 3 ∨ j = 4 by omega) with rfl | rfl | rfl | rfl | rfl
  · exact va_eqt (hs (Cond.eq (.elem (.static "PathInterdiction$Graph" "MASKS" "[I") (.int 0)) (.int 7)) (by decide +kernel))
  · exact va_eqt (hs (Cond.eq (.elem (.static "PathInterdiction$Graph" "MASKS" "[I") (.int 1)) (.int 7)) (by decide +kernel))
  · exact va_eqt (hs (Cond.eq (.elem (.static "PathInterdiction$Graph" "MASKS" "[I") (.int 2)) (.int 127)) (by decide +kernel))
  · exact va_eqt (hs (Cond.eq (.elem (.static "PathInterdiction$Graph" "MASKS" "[I") (.int 3)) (.int 127)) (by decide +kernel))
  · exact va_eqt (hs (Cond.eq (.elem (.static "PathInterdiction$Graph" "MASKS" "[I") (.int 4)) (.int 15)) (by decide +kernel))

theorem zl_0 : Cond.laysStatic "PathInterdiction$Graph" "SHIFTS" "[I" ∈ lw_tbl := List.mem_of_getElem? (i := 393) (by decide +kernel)
theorem zl_1 : Cond.laysStatic "PathInterdiction$Graph" "MASKS" "[I" ∈ lw_tbl := List.mem_of_getElem? (i := 395) (by decide +kernel)
theorem zl_2 : Cond.initialized "PathInterdiction$Graph" ∈ lw_tbl := List.mem_of_getElem? (i := 56) (by decide +kernel)

theorem nz_0 : Cond.methodLinkNest "PathInterdiction" 9 yX2_init "PathInterdiction" ∈ lw_tbl := List.mem_of_getElem? (i := 79) (by decide +kernel)
theorem nz_1 : Cond.methodLinkNest "PathInterdiction" 18 yX4_init "PathInterdiction" ∈ lw_tbl := List.mem_of_getElem? (i := 105) (by decide +kernel)
theorem nz_2 : Cond.methodLinkNest "PathInterdiction" 25 yX6_init "PathInterdiction" ∈ lw_tbl := List.mem_of_getElem? (i := 122) (by decide +kernel)

theorem wk_500 : Cond.instantiable RX0 12 ∈ ly_G := ly_in 215 (by decide +kernel) (by decide +kernel)
theorem wk_501 : Cond.instantiable RX1 8 ∈ ly_G := ly_in 281 (by decide +kernel) (by decide +kernel)
theorem wk_502 : Cond.instantiable RX2 3 ∈ ly_G := ly_in 78 (by decide +kernel) (by decide +kernel)
theorem wk_503 : Cond.instantiable RX3 3 ∈ ly_G := ly_in 264 (by decide +kernel) (by decide +kernel)
theorem wk_504 : Cond.instantiable RX4 3 ∈ ly_G := ly_in 104 (by decide +kernel) (by decide +kernel)
theorem wk_505 : Cond.instantiable RX5 7 ∈ ly_G := ly_in 146 (by decide +kernel) (by decide +kernel)
theorem wk_506 : Cond.instantiable RX6 5 ∈ ly_G := ly_in 121 (by decide +kernel) (by decide +kernel)
theorem wk_507 : Cond.instantiable RX7 11 ∈ ly_G := ly_in 174 (by decide +kernel) (by decide +kernel)
theorem wk_508 : Cond.instantiable RX8 9 ∈ ly_G := ly_in 70 (by decide +kernel) (by decide +kernel)
theorem wk_509 : Cond.instantiable RX9 19 ∈ ly_G := ly_in 771 (by decide +kernel) (by decide +kernel)
theorem wk_510 : Cond.classLink "PathInterdictionLaw" 7 "PathInterdiction" ∈ ly_G := ly_in 69 (by decide +kernel) (by decide +kernel)
theorem wk_511 : Cond.initialized "PathInterdiction" ∈ ly_G := ly_in 55 (by decide +kernel) (by decide +kernel)
theorem wk_512 : Cond.code mX8_init.1 mX8_init.2.1 mX8_init.2.2.1 mX8_init.2.2.2 ∈ ly_G := ly_in 73 (by decide +kernel) (by decide +kernel)
theorem wk_513 : Cond.instanceMethod mX8_init.1 ∈ ly_G := ly_in 72 (by decide +kernel) (by decide +kernel)
theorem wk_514 : Cond.methodLink "PathInterdictionLaw" 9 mX8_init.1 ∈ ly_G := ly_in 71 (by decide +kernel) (by decide +kernel)
theorem wk_515 : Cond.classLink "PathInterdictionLaw" 10 "PathInterdictionModel" ∈ ly_G := ly_in 770 (by decide +kernel) (by decide +kernel)
theorem wk_516 : Cond.initialized "PathInterdictionModel" ∈ ly_G := ly_in 64 (by decide +kernel) (by decide +kernel)
theorem wk_517 : Cond.code mX9_init.1 mX9_init.2.1 mX9_init.2.2.1 mX9_init.2.2.2 ∈ ly_G := ly_in 774 (by decide +kernel) (by decide +kernel)
theorem wk_518 : Cond.instanceMethod mX9_init.1 ∈ ly_G := ly_in 773 (by decide +kernel) (by decide +kernel)
theorem wk_519 : Cond.methodLink "PathInterdictionLaw" 12 mX9_init.1 ∈ ly_G := ly_in 772 (by decide +kernel) (by decide +kernel)
