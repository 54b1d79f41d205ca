/-! THE LAYOUT (by wip/whole/gen_names.py): the cells of class and reference, the words, the links of fields and calls -/
abbrev ly_F : Type := Option (Option Nat)
abbrev ly_E : Type := (Nat × Nat) ⊕ (Nat × List ly_F)
def ly_L : List ly_E := [.inr (8, [some (some 1), some (some 3), some (some 5), some (some 8), some (some 15), some (some 19), some (some 20), some (some 21), none]), .inr (2, [some (some 2), none, none]), .inl (0, 16), .inr (4, [some (some 4), none, none]), .inl (0, 216), .inr (6, [some (some 6), some (some 7), none, none, none]), .inl (1, 110), .inl (0, 16), .inr (5, [some (some 1), some (some 9), some (some 10), some (some 11), some (some 12), some (some 13), some (some 14)]), .inl (0, 16), .inl (0, 8), .inl (0, 8), .inl (0, 8), .inl (0, 8), .inl (0, 8), .inr (7, [some (some 1), some (some 16), some (some 17), none, some (some 18), none, none, none, none, none, none]), .inl (0, 16), .inl (0, 8), .inl (0, 100), .inr (0, [some (some 1), some (some 8), none, none, none, none, none, none, none, none, none, none]), .inr (3, [some (some 1), some (some 8), none]), .inr (1, [some (some 1), some (some 19), none, none, none, none, none, none]), .inr (9, [some (some 23), some (some 24), none, none, some (some 25), none, some (some 26), none, none, none, some (some 27), some (some 28), none, none, none, some (some 29), some (some 30), none, some none]), .inl (0, 82), .inl (0, 984), .inl (0, 110), .inl (0, 80), .inl (0, 32), .inl (0, 8), .inl (0, 100), .inl (0, 8)]
def ly_C : List vw_C := [(RX0, TX0, 12), (RX1, TX1, 8), (RX2, TX2, 3), (RX3, TX3, 3), (RX4, TX4, 3), (RX5, TX5, 7), (RX6, TX6, 5), (RX7, TX7, 11), (RX8, TX8, 9), (RX9, TX9, 19)]
def ly_G : List Cond := lw_tbl.filter goodWord
def ly_N : List Cond := []
def ly_Z : List (Nat × String × String × String × Nat × (Nat → Int32)) := [(90, "PathInterdiction$Graph", "SHIFTS", "[I", 5, fun j => [0, 3, 6, 13, 20].getD j 0), (91, "PathInterdiction$Graph", "MASKS", "[I", 5, fun j => [7, 7, 127, 127, 15].getD j 0)]
theorem ly_in (i : Nat) {w : Cond} (hp : lw_tbl[i]? = some w) (h : goodWord w = true) : w ∈ ly_G := List.mem_filter.mpr ⟨List.mem_of_getElem? hp, h⟩
theorem ly_ins (ws : List Cond) (ps : List Nat) (hp : ws = ps.filterMap (fun i => lw_tbl[i]?)) (h : ws.all goodWord = true) : ∀ w ∈ ws, w ∈ ly_G := by
  intro w hw
  have h1 := List.all_eq_true.mp h w hw
  rw [hp] at hw
  obtain ⟨i, -, hi⟩ := List.mem_filterMap.mp hw
  exact ly_in i hi h1
set_option maxRecDepth 20000 in
theorem igX0 : ∀ w ∈ u_ws RX0 TX0 12, w ∈ ly_G := ly_ins _ [238, 240, 242, 244, 246, 248, 250, 252, 254, 256, 258, 260] (by decide +kernel) (by decide +kernel)
set_option maxRecDepth 20000 in
theorem igX1 : ∀ w ∈ u_ws RX1 TX1 8, w ∈ ly_G := ly_ins _ [295, 297, 299, 301, 303, 305, 307, 309] (by decide +kernel) (by decide +kernel)
set_option maxRecDepth 20000 in
theorem igX2 : ∀ w ∈ u_ws RX2 TX2 3, w ∈ ly_G := ly_ins _ [95, 97, 99] (by decide +kernel) (by decide +kernel)
set_option maxRecDepth 20000 in
theorem igX3 : ∀ w ∈ u_ws RX3 TX3 3, w ∈ ly_G := ly_ins _ [273, 275, 277] (by decide +kernel) (by decide +kernel)
set_option maxRecDepth 20000 in
theorem igX4 : ∀ w ∈ u_ws RX4 TX4 3, w ∈ ly_G := ly_ins _ [113, 115, 117] (by decide +kernel) (by decide +kernel)
set_option maxRecDepth 20000 in
theorem igX5 : ∀ w ∈ u_ws RX5 TX5 7, w ∈ ly_G := ly_ins _ [158, 160, 162, 164, 166, 168, 170] (by decide +kernel) (by decide +kernel)
set_option maxRecDepth 20000 in
theorem igX6 : ∀ w ∈ u_ws RX6 TX6 5, w ∈ ly_G := ly_ins _ [133, 135, 137, 139, 141] (by decide +kernel) (by decide +kernel)
set_option maxRecDepth 20000 in
theorem igX7 : ∀ w ∈ u_ws RX7 TX7 11, w ∈ ly_G := ly_ins _ [191, 193, 195, 197, 199, 201, 203, 205, 207, 209, 211] (by decide +kernel) (by decide +kernel)
set_option maxRecDepth 20000 in
theorem igX8 : ∀ w ∈ u_ws RX8 TX8 9, w ∈ ly_G := ly_ins _ [321, 323, 325, 327, 329, 331, 333, 335, 337] (by decide +kernel) (by decide +kernel)
set_option maxRecDepth 20000 in
theorem igX9 : ∀ w ∈ u_ws RX9 TX9 19, w ∈ ly_G := ly_ins _ [795, 797, 799, 801, 803, 805, 807, 809, 811, 813, 815, 817, 819, 821, 823, 825, 827, 829, 831] (by decide +kernel) (by decide +kernel)
/-- a field's link: pool place idx of class own is field j of class ci -/
def fl_ok (own : String) (idx ci j : Nat) : Prop := ∃ (C : String) (T : u_T) (N : Nat), ly_C[ci]? = some (C, T, N) ∧ j < N ∧ (∀ w ∈ u_ws C T N, w ∈ ly_G) ∧ (Cond.fieldLink own idx (T j).1 (T j).2.1 (T j).2.2.1 ∈ ly_G ∨ ∃ host, Cond.fieldLinkNest own idx (T j).1 (T j).2.1 (T j).2.2.1 host ∈ ly_N)
/-- and it may be written: not final, of type ty -/
def fp_ok (own : String) (idx ci j : Nat) (ty : FieldType) : Prop := ∃ (C : String) (T : u_T) (N : Nat) (ty0 : Nat → FieldType), ly_C[ci]? = some (C, T, N) ∧ j < N ∧ (∀ w ∈ u_ws C T N, w ∈ ly_G) ∧ (Cond.fieldLink own idx (T j).1 (T j).2.1 (T j).2.2.1 ∈ ly_G ∨ ∃ host, Cond.fieldLinkNest own idx (T j).1 (T j).2.1 (T j).2.2.1 host ∈ ly_N) ∧ (∀ k, k < N → parseFieldDescriptor (T k).2.2.1 = some (ty0 k)) ∧ (∀ a, a < N → ∀ b, b < N → a ≠ b → (T a).2.1 ≠ (T b).2.1) ∧ (T j).2.2.2 = false ∧ parseFieldDescriptor (T j).2.2.1 = some ty
/-- a call of a method of an object -/
def cv_ok (own : String) (idx : Nat) (y1 : ym_T) (ci n : Nat) : Prop := (ly_C[ci]?).map (fun q => q.1) = some y1.1.cls ∧ (Cond.methodLink own idx y1.1 ∈ ly_G ∨ ∃ host, Cond.methodLinkNest own idx y1.1 host ∈ ly_N) ∧ Cond.instanceMethod y1.1 ∈ ly_G ∧ Cond.selects y1.1.cls y1.1 y1.1 ∈ ly_G ∧ Cond.initialized y1.1.cls ∈ ly_G ∧ Cond.code y1.1 y1.2.1 y1.2.2.1 y1.2.2.2 ∈ ly_G ∧ (y1.1.cls ≠ "java/lang/invoke/MethodHandle" ∧ y1.1.cls ≠ "java/lang/invoke/VarHandle" ∧ (parseMethodDescriptor y1.1.desc).map (fun d => d.parameters.length) = some n) ∧ y1.2.2.1 ≤ 21
/-- a call of a static method -/
def cs_ok (own : String) (idx : Nat) (y1 : ym_T) (n : Nat) : Prop := (Cond.methodLink own idx y1.1 ∈ ly_G ∨ ∃ host, Cond.methodLinkNest own idx y1.1 host ∈ ly_N) ∧ Cond.static y1.1 ∈ ly_G ∧ Cond.initialized y1.1.cls ∈ ly_G ∧ Cond.code y1.1 y1.2.1 y1.2.2.1 y1.2.2.2 ∈ ly_G ∧ (y1.1.cls ≠ "java/lang/invoke/MethodHandle" ∧ y1.1.cls ≠ "java/lang/invoke/VarHandle" ∧ (parseMethodDescriptor y1.1.desc).map (fun d => d.parameters.length) = some n) ∧ y1.2.2.1 ≤ 21
