/-! THE JUDGEMENTS: rn_R, the machine within a method at a place; gd_G, a method's contract -/
def rt_ok (ret : Option FieldType) (r : Option Value) : Prop := match ret, r with
  | none, none => True
  | some .int, some (.int _) => True
  | some .boolean, some (.int v) => narrow .boolean (.int v) = .int v
  | some .long, some (.long _) => True
  | _, _ => False
def rt_i (ret : Option FieldType) : ClassFile.Instr := match ret with
  | none => .return_
  | some .long => .lreturn
  | _ => .ireturn
/-- the statics that nobody writes -/
def zs_ok (ad : Nat → Nat) (A : Nat → Prop) (U : State) (H : Heap) : Prop := ∀ z ∈ ly_Z, va_Z z.2.1 z.2.2.1 z.2.2.2.1 (.ref (ad z.1)) A U H ∧ va_T .int (ad z.1) z.2.2.2.2.1 (fun j => .int (z.2.2.2.2.2 j)) A U H
theorem zs_ok.moved {ad : Nat → Nat} {A : Nat → Prop} {u U : State} {H : Heap} (hvm : u.vm.Alike U.vm) (h : zs_ok ad A u H) : zs_ok ad A U H := fun z hz => ⟨(h z hz).1.moved hvm, (h z hz).2.moved hvm⟩
theorem zs_ok.kept {ad : Nat → Nat} {A : Nat → Prop} {U : State} {H H1 : Heap} (h : zs_ok ad A U H) (hq : ∀ a : Nat, a < H.size → ¬ A a → H1[a]? = H[a]?) : zs_ok ad A U H1 := fun z hz => ⟨(h z hz).1.kept hq, (h z hz).2.kept hq⟩
theorem zs_ok.narrow {ad : Nat → Nat} {A B : Nat → Prop} {U : State} {H : Heap} (h : zs_ok ad A U H) (hAB : ∀ q, B q → A q) : zs_ok ad B U H := fun z hz => ⟨(h z hz).1.narrow hAB, (h z hz).2.narrow hAB⟩
/-- the words of nest mates -/
def nw_k : Cond → Bool
  | .fieldLinkNest .. => true
  | .methodLinkNest .. => true
  | _ => false
def nw_ok (U : State) : Prop := ∀ w ∈ ly_N, nw_k w = true ∧ va_Nw w U
theorem nw_ok.same {u U : State} (h : u.vm = U.vm) (hN : nw_ok u) : nw_ok U := fun w hw => by
  obtain ⟨h1, h2⟩ := hN w hw
  refine ⟨h1, ?_⟩
  cases w <;> first | (simp [nw_k] at h1; done) | exact va_Nw.same rfl h h2
theorem nw_ok.warm {u U : State} (h : u.WarmedH U.vm) (hN : nw_ok u) : nw_ok U := fun w hw => by
  obtain ⟨h1, h2⟩ := hN w hw
  refine ⟨h1, ?_⟩
  cases w <;> first | (simp [nw_k] at h1; done) | exact va_Nw.warmF h h2 | exact va_Nw.warmM h h2
/-- what holds of the tables and statics -/
def en_U (dC : Nat → ClassId) (dI : Nat → Nat → Nat) (ad : Nat → Nat) (ca : Nat → ClassId) (A : Nat → Prop) (U : State) (H : Heap) : Prop := va_K (dC, dI) ly_C [(ca 0, .int), (ca 1, .byte)] U ∧ nw_ok U ∧ zs_ok ad A U H
/-- the script, where there is one: cell 99 -/
def xs_ok (X : Option (Nat × (Nat → Int32))) (ad : Nat → Nat) (A : Nat → Prop) (s : State) : Prop := match X with
  | none => True
  | some x => va_X (ad 99) x.1 x.2 s s.heap ∧ ad 99 < s.heap.size ∧ ¬ A (ad 99)
def en_E (X : Option (Nat × (Nat → Int32))) (y : ym_T) (d : Nat) (p : Program) (R : Room) (s : State) (m : MethodId) (args : Array Value) (meth : Method) (c : Code) (cells slots : Nat) (dC : Nat → ClassId) (dI : Nat → Nat → Nat) (ad : Nat → Nat) (ca : Nat → ClassId) (A : Nat → Prop) : Prop :=
  p.tables.exec = Jvm.exec ∧ c.code = y.2.1 ∧ c.maxLocals = y.2.2.1 ∧ meth.locks = false ∧ s.vm.findClass y.1.cls = some m.cls ∧ (∀ w ∈ ly_G, w.before args s = true) ∧ en_U dC dI ad ca A s s.heap ∧ (d ≤ R.frames ∧ 40 * d ≤ R.locals ∧ cells ≤ R.cells ∧ slots ≤ R.slots) ∧ (∀ q : Nat, s.heap.size ≤ q → A q) ∧ xs_ok X ad A s
def st_ok (dC : Nat → ClassId) (dI : Nat → Nat → Nat) (ad : Nat → Nat) (ca : Nat → ClassId) (A : Nat → Prop) (H0 : Heap) (mu : Nat → Nat → Int32) (h : Int64) (H : Heap) (locs : List Loc) : Prop := va_P (dC, dI) ly_C (ly_w ad ca mu h) H ∧ va_D A (ly_w ad ca mu h) ∧ va_S A H0 H locs
abbrev rn_Q : Type := Option Value → (Nat → Nat → Int32) → Int64 → Prop
def rn_R (X : Option (Nat × (Nat → Int32))) (y : ym_T) (d : Nat) (pc : Nat) (L : List (Option Value)) (S : List Value) (mu : Nat → Nat → Int32) (h : Int64) (Q : rn_Q) : Prop :=
  ∀ (p : Program) (l : Launch) (e : Env) (R : Room) (s : State) (m : MethodId) (args : Array Value) (below : List Frame) (meth : Method) (c : Code) (cells slots : Nat) (dC : Nat → ClassId) (dI : Nat → Nat → Nat) (ad : Nat → Nat) (ca : Nat → ClassId) (A : Nat → Prop) (Qt : State → Prop),
    en_E X y d p R s m args meth c cells slots dC dI ad ca A →
    (∀ (r : Option Value) (mu' : Nat → Nat → Int32) (h' : Int64) (H' : Heap) (locs' : List Loc) (pc' : Nat) (ls' : Array Slot), Q r mu' h' → rt_ok y.2.2.2 r → st_ok dC dI ad ca A s.heap mu' h' H' locs' → decode y.2.1 pc' = .ok (rt_i y.2.2.2, 1) → W p l e R s m args below meth c H' locs' cells slots Qt (F0 m pc' ls' (r.toList.map (tv_v ad)))) →
    ∀ (H : Heap) (locs : List Loc) (ls : Array Slot), st_ok dC dI ad ca A s.heap mu h H locs → lc_h ad ls L → L.length = y.2.2.1 → W p l e R s m args below meth c H locs cells slots Qt (F0 m pc ls (S.map (tv_v ad)))
/-- the words of a method: its own code, then all -/
def ws_y (y : ym_T) : List Cond := Cond.code y.1 y.2.1 y.2.2.1 y.2.2.2 :: ly_G
def rm_d (d : Nat) : Room := { frames := d, cells := 0, slots := 0, locals := 40 * d }
def gd_P (dC : Nat → ClassId) (dI : Nat → Nat → Nat) (ad : Nat → Nat) (ca : Nat → ClassId) (sz : Nat) (mu : Nat → Nat → Int32) (h : Int64) (U : State) : Prop := U.heap.size = sz ∧ va_P (dC, dI) ly_C (ly_w ad ca mu h) U.heap ∧ va_D (fun _ => True) (ly_w ad ca mu h) ∧ en_U dC dI ad ca (va_A (ly_w ad ca mu h) sz) U U.heap
def gd_Q (dC : Nat → ClassId) (dI : Nat → Nat → Nat) (ad : Nat → Nat) (ca : Nat → ClassId) (ret : Option FieldType) (Q : rn_Q) (A : Nat → Prop) : Array Value → State → Outcome → State → Prop := fun _ st oc t => (∃ (r : Option Value) (mu' : Nat → Nat → Int32) (h' : Int64), oc = .returned (r.map (tv_v ad)) ∧ Q r mu' h' ∧ rt_ok ret r ∧ va_P (dC, dI) ly_C (ly_w ad ca mu' h') t.heap) ∧ va_F A st t
def gd_G (y : ym_T) (d : Nat) (av : List Value) (mu : Nat → Nat → Int32) (h : Int64) (Q : rn_Q) : Prop :=
  ∀ (l : Launch) (dC : Nat → ClassId) (dI : Nat → Nat → Nat) (ad : Nat → Nat) (ca : Nat → ClassId) (sz : Nat), Met l y.1 (ws_y y) (rm_d d) (va_Pc (av.map (tv_v ad)) (gd_P dC dI ad ca sz mu h)) (gd_Q dC dI ad ca y.2.2.2 Q (va_A (ly_w ad ca mu h) sz)) 0 0 (va_A (ly_w ad ca mu h) sz)
/-- the locals with which a method begins -/
def lc_0 : List Value → List (Option Value)
  | [] => []
  | v :: vs => if v.category = 2 then some v :: none :: lc_0 vs else some v :: lc_0 vs
theorem lc_0_sl (ad : Nat → Nat) (vs : List Value) : (lg_sl (vs.map (tv_v ad))).length = (lc_0 vs).length := by
  induction vs with
  | nil => rfl
  | cons v vs ih =>
    simp only [lg_sl, List.map_cons, List.flatMap_cons, List.length_append] at ih ⊢
    rw [ih]
    cases v <;> simp [lc_0, tv_v, Value.category] <;> first | rfl | omega
theorem lc_0_args (ad : Nat → Nat) (vs : List Value) : ∀ (k i : Nat) (w : Value), (lc_0 vs)[i]? = some (some w) → (k + i, tv_v ad w) ∈ lv_args k (vs.map (tv_v ad)) := by
  induction vs with
  | nil => intro k i w h; simp [lc_0] at h
  | cons v vs ih =>
    intro k i w h
    simp only [lc_0] at h
    simp only [List.map_cons, lv_args, tv_cat]
    by_cases hc : v.category = 2
    · rw [if_pos hc] at h ⊢
      match i, h with
      | 0, h =>
        simp only [List.getElem?_cons_zero, Option.some.injEq] at h
        subst h
        exact List.mem_cons_self
      | 1, h => simp at h
      | i + 2, h =>
        simp only [List.getElem?_cons_succ] at h
        have := ih (k + 2) i w h
        refine List.mem_cons_of_mem _ ?_
        rw [show k + (i + 2) = k + 2 + i by omega]
        exact this
    · rw [if_neg hc] at h ⊢
      match i, h with
      | 0, h =>
        simp only [List.getElem?_cons_zero, Option.some.injEq] at h
        subst h
        exact List.mem_cons_self
      | i + 1, h =>
        simp only [List.getElem?_cons_succ] at h
        have := ih (k + 1) i w h
        refine List.mem_cons_of_mem _ ?_
        rw [show k + (i + 1) = k + 1 + i by omega]
        exact this
def lc_b (y : ym_T) (av : List Value) : List (Option Value) := lc_0 av ++ List.replicate (y.2.2.1 - (lc_0 av).length) none
theorem lc_entry {y : ym_T} {av : List Value} (hl : (lc_0 av).length ≤ y.2.2.1) (ad : Nat → Nat) : lc_h ad ((lg_sl (av.map (tv_v ad)) ++ List.replicate (y.2.2.1 - (lg_sl (av.map (tv_v ad))).length) Slot.unset).toArray) (lc_b y av) ∧ (lc_b y av).length = y.2.2.1 := by
  have hlen : (lc_b y av).length = y.2.2.1 := by simp [lc_b]; omega
  refine ⟨?_, hlen⟩
  obtain ⟨h1, h2, h3⟩ := lv_entry (av.map (tv_v ad)) (n := y.2.2.1) (by rw [lc_0_sl]; exact hl)
  refine ⟨by rw [h1, hlen], h2, fun q hq => ?_⟩
  obtain ⟨i, v⟩ := q
  obtain ⟨w, hw, rfl⟩ := lc_p_mem.mp hq
  refine h3 (i, tv_v ad w) ?_
  have hw' : (lc_0 av)[i]? = some (some w) := by
    unfold lc_b at hw
    by_cases hi : i < (lc_0 av).length
    · rwa [List.getElem?_append_left hi] at hw
    · rw [List.getElem?_append_right (by omega)] at hw
      exact absurd (List.mem_of_getElem? hw) (by simp [List.mem_replicate])
  have := lc_0_args ad av 0 i w hw'
  rwa [Nat.zero_add] at this
set_option maxHeartbeats 1000000 in
/-- a method's contract out of the walk of its body -/
theorem gd_of {y : ym_T} {d : Nat} {av : List Value} {mu : Nat → Nat → Int32} {h : Int64} {Q : rn_Q} (hy : plainName y.1.cls = true) (hl : (lc_0 av).length ≤ y.2.2.1) (k : rn_R none y d 0 (lc_b y av) [] mu h Q) : gd_G y d av mu h Q := by
  intro l dC dI ad ca sz
  refine Met.ofW (cc := y.2.1) (maxL := y.2.2.1) (ret := y.2.2.2) hy rfl ?_
  intro p e s m args below meth c s₁ B hml hv
  obtain ⟨rfl, hsz, hP, hD0, hU⟩ := hv
  have hts := atoms_spec (ws := ws_y y) B.pre
  have hr := B.returns
  have hlocks := B.notSynchronized
  subst hsz
  rw [lg_entry_eq]
  obtain ⟨hl1, hl2⟩ := lc_entry hl ad
  refine k p l e _ s m _ below meth c 0 0 dC dI ad ca (va_A (ly_w ad ca mu h) s.heap.size) _ ⟨B.exec, B.bytes, hml, hlocks, findClass_of_methodNamed B.named, fun w hw => hts w (List.mem_cons_of_mem _ hw), hU, ⟨Nat.le_refl _, Nat.le_refl _, Nat.le_refl _, Nat.le_refl _⟩, fun q hq => Or.inr hq, trivial⟩ ?_ s.heap [] _ ⟨hP, hD0.self, va_S.rf⟩ hl1 hl2
  intro r mu' h' H' locs' pc' ls' hQ hok hst hdg
  obtain ⟨hP', hD', hS'⟩ := hst
  have hq : ∀ t : State, t.heap = H' → s.WarmedH t.vm → gd_Q dC dI ad ca y.2.2.2 Q (va_A (ly_w ad ca mu h) s.heap.size) (av.map (tv_v ad)).toArray s (.returned (r.map (tv_v ad))) t := fun t ht _ => ⟨⟨r, mu', h', rfl, hQ, hok, by rw [ht]; exact hP'⟩, hS'.F ht⟩
  obtain ⟨yn, yb, yl, yr⟩ := y
  have hb := B.bytes
  have hx := B.exec
  match yr, r, hok with
  | none, none, _ => exact W.vret hx hb hr hq hS'.2.2 hdg
  | some .int, some (.int v), _ => exact W.iret hx hb hr hq hS'.2.2 hdg
  | some .boolean, some (.int v), hn => exact W.zret hx hb hr hn hq hS'.2.2 hdg
  | some .long, some (.long v), _ => exact W.lret hx hb hr hq hS'.2.2 hdg
section RNC
variable {p : Program} {l : Launch} {e : Env} {R : Room} {s : State} {m : MethodId} {args : Array Value} {below : List Frame} {meth : Method} {c : Code} {H : Heap} {locs : List Loc} {cells slots : Nat} {Qt : State → Prop}
variable {pc : Nat} {ls : Array Slot} {rest st0 : List Value} {a : Array Value} {A A1 : Nat → Prop} {H0 : Heap} {dC : Nat → ClassId} {dI : Nat → Nat → Nat} {ad : Nat → Nat} {ca : Nat → ClassId} {ret : Option FieldType} {Q1 : rn_Q}
theorem rn_goes (hr : va_Run p l e R s m args below meth c H locs cells slots 0 0 (F0 m pc ls st0) rest (gd_Q dC dI ad ca ret Q1 A1 a) A1) (hS : va_S A H0 H locs) (hA : ∀ q, A1 q → A q)
    (kk : ∀ (r : Option Value) (mu' : Nat → Nat → Int32) (h' : Int64) (H1 : Heap) (locs1 : List Loc), Q1 r mu' h' → rt_ok ret r → va_P (dC, dI) ly_C (ly_w ad ca mu' h') H1 → va_S A H0 H1 locs1 → W p l e R s m args below meth c H1 locs1 cells slots Qt (F0 m (pc + 3) ls ((r.map (tv_v ad)).toList ++ rest))) : W p l e R s m args below meth c H locs cells slots Qt (F0 m pc ls st0) := by
  intro T hT X
  obtain ⟨v, st₀, t, T', L, h0, X', hL, e1, e2, ⟨⟨r, mu', h', hv, hq, hok, hp⟩, hz, hk⟩, st⟩ := hr T hT X
  cases hv
  rw [h0] at hz hk
  obtain ⟨t2, a1, b1⟩ := kk r mu' h' T'.heap (locs ++ L) hq hok (by rw [e1]; exact hp)
    ⟨Nat.le_trans hS.1 (by rw [e1]; exact hz), fun q h1 h2 => by rw [e1, hk q (Nat.lt_of_lt_of_le h1 hS.1) (fun z => h2 (hA q z))]; exact hS.2.1 q h1 h2, fun q hq => by
      rcases List.mem_append.mp hq with h | h
      · exact hS.2.2 q h
      · exact hA _ (hL q h)⟩ T' rfl X'
  exact ⟨t2, st t2 a1, b1⟩
end RNC
theorem en_U.to {dC : Nat → ClassId} {dI : Nat → Nat → Nat} {ad : Nat → Nat} {ca : Nat → ClassId} {A B : Nat → Prop} {s U : State} {H : Heap} {locs : List Loc} (h : en_U dC dI ad ca A s s.heap) (hS : va_S A s.heap H locs) (hB : ∀ q, B q → A q) (hU : U.heap = H) (hW : s.WarmedH U.vm) : en_U dC dI ad ca B U U.heap := by
  obtain ⟨h1, h2, h3⟩ := h
  refine ⟨h1.moved hW.alike, h2.warm hW, ?_⟩
  rw [hU]
  exact ((h3.kept hS.2.1).narrow hB).moved hW.alike
theorem gd_blind {dC : Nat → ClassId} {dI : Nat → Nat → Nat} {ad : Nat → Nat} {ca : Nat → ClassId} {sz : Nat} {mu : Nat → Nat → Int32} {h : Int64} {av : List Value} : FrameBlind (va_Pc av (gd_P dC dI ad ca sz mu h)) := by
  intro a U g mk q
  obtain ⟨q0, q1, q2, q3, k1, k2, k3⟩ := q
  exact ⟨q0, q1, q2, q3, k1.moved (u := U) (U := U.calling g mk a) (Vm.Alike.refl U.vm), nw_ok.same (u := U) (U := U.calling g mk a) rfl k2, k3.moved (u := U) (U := U.calling g mk a) (Vm.Alike.refl U.vm)⟩
theorem ly_free {A : Nat → Prop} {ad : Nat → Nat} {ca : Nat → ClassId} {mu : Nat → Nat → Int32} {h : Int64} {H0 H : Heap} {locs : List Loc} (hD : va_D A (ly_w ad ca mu h)) (hS : va_S A H0 H locs) (hA : ∀ q : Nat, H0.size ≤ q → A q) : ∀ q, va_A (ly_w ad ca mu h) H.size q → A q := by
  intro q hq
  rcases hq with ⟨k, e, he⟩ | he
  · exact hD.2 k _ he
  · exact hA q (Nat.le_trans hS.1 he)
theorem ws_good {y1 : ym_T} (hc : Cond.code y1.1 y1.2.1 y1.2.2.1 y1.2.2.2 ∈ ly_G) : GoodIn ly_G (ws_y y1) := by
  intro w hw
  have : w ∈ ly_G := by
    rcases List.mem_cons.mp hw with rfl | h
    · exact hc
    · exact h
  exact ⟨this, good_of_word (List.mem_filter.mp this).2⟩
theorem tv_toList (ad : Nat → Nat) (r : Option Value) (S : List Value) : (r.map (tv_v ad)).toList ++ S.map (tv_v ad) = (r.toList ++ S).map (tv_v ad) := by
  cases r <;> simp
theorem tv_catsum (ad : Nat → Nat) (S : List Value) : ((S.map (tv_v ad)).map fun v => v.category).sum = (S.map fun v => v.category).sum := by
  rw [List.map_map]
  congr 1
  exact List.map_congr_left (fun v _ => tv_cat ad v)
theorem tv_args (ad : Nat → Nat) (As S : List Value) (i : Nat) : (As.reverse ++ Value.ref i :: S).map (tv_v ad) = (As.map (tv_v ad)).reverse ++ Value.ref (ad i) :: S.map (tv_v ad) := by
  simp [tv_v]
theorem tv_argsS (ad : Nat → Nat) (As S : List Value) : (As.reverse ++ S).map (tv_v ad) = (As.map (tv_v ad)).reverse ++ S.map (tv_v ad) := by
  simp
set_option maxHeartbeats 1000000 in
theorem rn_callV {X : Option (Nat × (Nat → Int32))} {y : ym_T} {d pc : Nat} {L : List (Option Value)} {mu : Nat → Nat → Int32} {h : Int64} {Q Q1 : rn_Q} (y1 : ym_T) (As S : List Value) {S0 : List Value} {i ci n idx : Nat} {fs : List ly_F} (hd : decode y.2.1 pc = .ok (.invokevirtual idx, 3)) (hc : cv_ok y.1.cls idx y1 ci n) (hi : ly_L[i]? = some (.inr (ci, fs))) (hS0 : S0 = As.reverse ++ .ref i :: S) (hn : As.length = n) (hcat : (S.map fun v => v.category).sum ≤ 8) (hG : gd_G y1 d (.ref i :: As) mu h Q1)
    (k : ∀ (r : Option Value) (mu' : Nat → Nat → Int32) (h' : Int64), Q1 r mu' h' → rt_ok y1.2.2.2 r → rn_R X y (d + 1) (pc + 3) L (r.toList ++ S) mu' h' Q) : rn_R X y (d + 1) pc L S0 mu h Q := by
  subst hS0
  intro p l e R s m args below meth c cells slots dC dI ad ca A Qt E F H locs ls hst hl hlen
  obtain ⟨hP, hD, hS⟩ := hst
  have E' := E
  obtain ⟨hx, hb, hml, hlk, hown, hts, hU, ⟨hR1, hR2, hR3, hR4⟩, hA, hX⟩ := E
  obtain ⟨c1, c2, c3, c4, c5, c6, c7, c8⟩ := hc
  obtain ⟨q, hq, hq1⟩ := Option.map_eq_some_iff.mp c1
  have hfree := ly_free hD hS hA
  have hrecv := va_recv hU.1 hP hq (ly_at hi)
  rw [hq1] at hrecv
  have hpre : PreV s H y1.1.cls (ad i) (va_Pc ((Value.ref i :: As).map (tv_v ad)) (gd_P dC dI ad ca H.size mu h)) (As.map (tv_v ad)) :=
    ⟨gd_blind, hrecv, fun U hUh hW => ⟨rfl, by rw [hUh], by rw [hUh]; exact hP, hD.weaken (fun _ _ _ _ => trivial), hU.to hS hfree hUh hW⟩⟩
  have hn' : (As.map (tv_v ad)).length = n := by simpa using hn
  have hroom : 2 * (F0 m pc ls ((As.map (tv_v ad)).reverse ++ Value.ref (ad i) :: S.map (tv_v ad))).monitorRoom + ((S.map (tv_v ad)).map fun v => v.category).sum ≤ 8 := lv_room (by rw [tv_catsum]; exact hcat)
  have hRf : (rm_d d).frames + 1 ≤ R.frames := hR1
  have hRl : 8 + (y1.2.2.1 + 11) + (rm_d d).locals ≤ R.locals := by
    show 8 + (y1.2.2.1 + 11) + 40 * d ≤ R.locals
    omega
  have hlens : ∀ sig, parseMethodDescriptor y1.1.desc = some sig → n = sig.parameters.length := fun sig hs => by
    have h2 := c7.2.2
    rw [hs] at h2
    exact (Option.some.inj h2).symm
  rw [tv_args]
  have hrun : va_Run p l e R s m args below meth c H locs cells slots 0 0 (F0 m pc ls ((As.map (tv_v ad)).reverse ++ Value.ref (ad i) :: S.map (tv_v ad))) (S.map (tv_v ad)) (gd_Q dC dI ad ca y1.2.2.2 Q1 (va_A (ly_w ad ca mu h) H.size) (Value.ref (ad i) :: As.map (tv_v ad)).toArray) (va_A (ly_w ad ca mu h) H.size) := by
    rcases c2 with c2 | ⟨host, c2⟩
    · exact va_runV (nL := y.2.2.1) (Ts := ly_G) (n := n) ⟨hx, hb, hml, hown, hts⟩ (hG l dC dI ad ca H.size) ⟨⟨rfl, rfl, hRf, hRl, pay_in hts (ws_good c6), List.mem_cons_self, hts _ c6, hts _ c5, ⟨c7.1, c7.2.1⟩, hlens, hts _ c2⟩, hts _ c3, hts _ c4⟩ hpre rfl hn' (by show ls.size = _; rw [hl.1, hlen]) rfl hroom hd ⟨hR3, hR4⟩
    · exact va_runVN (nL := y.2.2.1) (Ts := ly_G) (n := n) ⟨hx, hb, hml, hown, hts⟩ (hG l dC dI ad ca H.size) ⟨⟨⟨rfl, rfl, hRf, hRl, pay_in hts (ws_good c6), List.mem_cons_self⟩, hts _ c6, hts _ c5, ⟨c7.1, c7.2.1⟩, hlens, (hU.2.1 _ c2).2.use rfl⟩, hts _ c3, hts _ c4⟩ hpre rfl hn' (by show ls.size = _; rw [hl.1, hlen]) rfl hroom hd ⟨hR3, hR4⟩
  refine rn_goes hrun hS hfree (fun r mu' h' H1 locs1 hq' hok hP1 hS1 => ?_)
  rw [tv_toList]
  exact k r mu' h' hq' hok p l e R s m args below meth c cells slots dC dI ad ca A Qt E' F H1 locs1 ls ⟨hP1, ly_D hD, hS1⟩ hl hlen
set_option maxHeartbeats 1000000 in
theorem rn_callS {X : Option (Nat × (Nat → Int32))} {y : ym_T} {d pc : Nat} {L : List (Option Value)} {mu : Nat → Nat → Int32} {h : Int64} {Q Q1 : rn_Q} (y1 : ym_T) (As S : List Value) {S0 : List Value} {n idx : Nat} (hd : decode y.2.1 pc = .ok (.invokestatic idx, 3)) (hc : cs_ok y.1.cls idx y1 n) (hS0 : S0 = As.reverse ++ S) (hn : As.length = n) (hcat : (S.map fun v => v.category).sum ≤ 8) (hG : gd_G y1 d As mu h Q1)
    (k : ∀ (r : Option Value) (mu' : Nat → Nat → Int32) (h' : Int64), Q1 r mu' h' → rt_ok y1.2.2.2 r → rn_R X y (d + 1) (pc + 3) L (r.toList ++ S) mu' h' Q) : rn_R X y (d + 1) pc L S0 mu h Q := by
  subst hS0
  intro p l e R s m args below meth c cells slots dC dI ad ca A Qt E F H locs ls hst hl hlen
  obtain ⟨hP, hD, hS⟩ := hst
  have E' := E
  obtain ⟨hx, hb, hml, hlk, hown, hts, hU, ⟨hR1, hR2, hR3, hR4⟩, hA, hX⟩ := E
  obtain ⟨c2, c3, c5, c6, c7, c8⟩ := hc
  have hfree := ly_free hD hS hA
  have hpre : PreS s H (va_Pc (As.map (tv_v ad)) (gd_P dC dI ad ca H.size mu h)) (As.map (tv_v ad)) :=
    ⟨gd_blind, fun U hUh hW => ⟨rfl, by rw [hUh], by rw [hUh]; exact hP, hD.weaken (fun _ _ _ _ => trivial), hU.to hS hfree hUh hW⟩⟩
  have hn' : (As.map (tv_v ad)).length = n := by simpa using hn
  have hroom : 2 * (F0 m pc ls ((As.map (tv_v ad)).reverse ++ S.map (tv_v ad))).monitorRoom + ((S.map (tv_v ad)).map fun v => v.category).sum ≤ 8 := lv_room (by rw [tv_catsum]; exact hcat)
  have hRf : (rm_d d).frames + 1 ≤ R.frames := hR1
  have hRl : 8 + (y1.2.2.1 + 11) + (rm_d d).locals ≤ R.locals := by
    show 8 + (y1.2.2.1 + 11) + 40 * d ≤ R.locals
    omega
  have hlens : ∀ sig, parseMethodDescriptor y1.1.desc = some sig → n = sig.parameters.length := fun sig hs => by
    have h2 := c7.2.2
    rw [hs] at h2
    exact (Option.some.inj h2).symm
  rw [tv_argsS]
  have hrun : va_Run p l e R s m args below meth c H locs cells slots 0 0 (F0 m pc ls ((As.map (tv_v ad)).reverse ++ S.map (tv_v ad))) (S.map (tv_v ad)) (gd_Q dC dI ad ca y1.2.2.2 Q1 (va_A (ly_w ad ca mu h) H.size) (As.map (tv_v ad)).toArray) (va_A (ly_w ad ca mu h) H.size) := by
    rcases c2 with c2 | ⟨host, c2⟩
    · exact va_runS (nL := y.2.2.1) (Ts := ly_G) (n := n) ⟨hx, hb, hml, hown, hts⟩ (hG l dC dI ad ca H.size) ⟨⟨rfl, rfl, hRf, hRl, pay_in hts (ws_good c6), List.mem_cons_self, hts _ c6, hts _ c5, ⟨c7.1, c7.2.1⟩, hlens, hts _ c2⟩, hts _ c3⟩ hpre rfl hn' (by show ls.size = _; rw [hl.1, hlen]) rfl hroom hd ⟨hR3, hR4⟩
    · exact va_runSN (nL := y.2.2.1) (Ts := ly_G) (n := n) ⟨hx, hb, hml, hown, hts⟩ (hG l dC dI ad ca H.size) ⟨⟨⟨rfl, rfl, hRf, hRl, pay_in hts (ws_good c6), List.mem_cons_self⟩, hts _ c6, hts _ c5, ⟨c7.1, c7.2.1⟩, hlens, (hU.2.1 _ c2).2.use rfl⟩, hts _ c3, trivial⟩ hpre rfl hn' (by show ls.size = _; rw [hl.1, hlen]) rfl hroom hd ⟨hR3, hR4⟩
  refine rn_goes hrun hS hfree (fun r mu' h' H1 locs1 hq' hok hP1 hS1 => ?_)
  rw [tv_toList]
  exact k r mu' h' hq' hok p l e R s m args below meth c cells slots dC dI ad ca A Qt E' F H1 locs1 ls ⟨hP1, ly_D hD, hS1⟩ hl hlen
