/-! ATTACKS: which sets a search must see -/
def sbs (S T : Nat) : Prop := ∀ i, S.testBit i = true → T.testBit i = true
def djs (S T : Nat) : Prop := ∀ i, S.testBit i = true → ¬ T.testBit i = true
theorem sbs_rfl (S : Nat) : sbs S S := fun _ h => h
theorem sbs_ext {S T : Nat} (h1 : sbs S T) (h2 : sbs T S) : S = T := tb_ext (fun i => by
  cases a : S.testBit i
  · cases b : T.testBit i
    · rfl
    · have := h2 i b; rw [a] at this; cases this
  · rw [h1 i a])
theorem sbs_ne {S T : Nat} (h : sbs S T) (hn : S ≠ T) : ∃ e, T.testBit e = true ∧ ¬ S.testBit e = true := by
  apply Classical.byContradiction
  intro q
  exact hn (sbs_ext h (fun i hi => Classical.byContradiction (fun z => q ⟨i, hi, z⟩)))
theorem sbs_lt {S T n : Nat} (h : sbs S T) (hT : T < 2 ^ n) : S < 2 ^ n := by
  refine Nat.lt_pow_two_of_testBit S (fun i hi => ?_)
  cases a : S.testBit i
  · rfl
  · have := tb_lt hT (h i a); omega
theorem sbs_le {S T : Nat} (h : sbs S T) : S ≤ T := by
  refine sb_le (T := S) (tb_ext (fun i => ?_))
  rw [Nat.testBit_and]
  cases a : S.testBit i
  · rfl
  · rw [h i a]; rfl
theorem tb_or1 (S e i : Nat) : (S ||| 2 ^ e).testBit i = true ↔ S.testBit i = true ∨ e = i := by
  rw [Nat.testBit_or, tb_pow]
  simp
theorem tb_nd1 (S e i : Nat) : (nd S (2 ^ e)).testBit i = true ↔ S.testBit i = true ∧ ¬ e = i := by
  rw [nd_bit, tb_pow]
  simp
theorem sbs_or {S T e : Nat} (h : sbs S T) (he : T.testBit e = true) : sbs (S ||| 2 ^ e) T := fun i hi => by
  rcases (tb_or1 S e i).mp hi with q | q
  · exact h i q
  · rw [← q]; exact he
theorem sbs_0 (T : Nat) : sbs 0 T := fun i hi => by rw [Nat.zero_testBit] at hi; cases hi
theorem djs_0 (T : Nat) : djs 0 T := fun i hi => by rw [Nat.zero_testBit] at hi; cases hi
theorem djs_r0 (T : Nat) : djs T 0 := fun i _ hi => by rw [Nat.zero_testBit] at hi; cases hi
theorem cS_or {g : List Ed} {S e : Nat} (hb : ¬ S.testBit e = true) : ∀ k, cS g (S ||| 2 ^ e) k = cS g S k + (if e < k then eC g e else 0) := by
  intro k
  induction k with
  | zero => rfl
  | succ k ih =>
    show cS g (S ||| 2 ^ e) k + (if (S ||| 2 ^ e).testBit k then eC g k else 0) = cS g S k + (if S.testBit k then eC g k else 0) + _
    rw [ih]
    by_cases q : e = k
    · subst q
      rw [if_pos ((tb_or1 S e e).mpr (Or.inr rfl)), if_neg hb, if_neg (Nat.lt_irrefl _), if_pos (Nat.lt_succ_self _)]
    · by_cases w : S.testBit k = true
      · rw [if_pos ((tb_or1 S e k).mpr (Or.inl w)), if_pos w]
        by_cases z : e < k
        · rw [if_pos z, if_pos (by omega)]; omega
        · rw [if_neg z, if_neg (by omega)]; omega
      · have nw : ¬ (S ||| 2 ^ e).testBit k = true := fun z => by
          rcases (tb_or1 S e k).mp z with z | z
          · exact w z
          · exact q z
        rw [if_neg nw, if_neg w]
        by_cases z : e < k
        · rw [if_pos z, if_pos (by omega)]; omega
        · rw [if_neg z, if_neg (by omega)]
theorem cS_sbs {g : List Ed} {S T : Nat} (h : sbs S T) : ∀ k, cS g S k ≤ cS g T k := by
  intro k
  induction k with
  | zero => exact Nat.le_refl _
  | succ k ih =>
    show cS g S k + (if S.testBit k then eC g k else 0) ≤ cS g T k + (if T.testBit k then eC g k else 0)
    by_cases q : S.testBit k = true
    · rw [if_pos q, if_pos (h k q)]; omega
    · rw [if_neg q]; omega
theorem cS_0 {g : List Ed} : ∀ k, cS g 0 k = 0 := by
  intro k
  induction k with
  | zero => rfl
  | succ k ih => show cS g 0 k + (if (0 : Nat).testBit k then eC g k else 0) = 0; rw [ih, Nat.zero_testBit]; rfl
theorem cS_step {g : List Ed} {S T e : Nat} (h : sbs S T) (h1 : T.testBit e = true) (h2 : ¬ S.testBit e = true) (he : e < g.length) : cS g S g.length + eC g e ≤ cS g T g.length := by
  have a := cS_or (g := g) h2 g.length
  rw [if_pos he] at a
  have b := cS_sbs (g := g) (sbs_or h h1) g.length
  omega
theorem eW_sbs {g : List Ed} {S T e : Nat} (ho : ∀ x ∈ g, e_ok x) (h : sbs S T) (he : e < g.length) : eW g S e ≤ eW g T e := by
  have hok := e_at ho he
  unfold eW
  by_cases q : S.testBit e = true
  · rw [if_pos q, if_pos (h e q)]; exact Nat.le_refl _
  · rw [if_neg q]
    split
    · split <;> omega
    · exact Nat.le_refl _
theorem wkL_sbs {g : List Ed} {S T s : Nat} (ho : ∀ x ∈ g, e_ok x) (h : sbs S T) : ∀ l, wkV g s l → wkL g S l ≤ wkL g T l := by
  intro l
  induction l with
  | nil => intro _; exact Nat.le_refl _
  | cons p l ih =>
    intro hv
    have a := ih hv.1
    have b := eW_sbs ho h hv.2.1
    show wkL g S l + (if p.2 then eL g p.1 else eW g S p.1) ≤ wkL g T l + (if p.2 then eL g p.1 else eW g T p.1)
    split <;> omega
theorem wkL_eq {g : List Ed} {S T : Nat} : ∀ l : List (Nat × Bool), (∀ p ∈ l, S.testBit p.1 = T.testBit p.1) → wkL g S l = wkL g T l := by
  intro l
  induction l with
  | nil => intro _; rfl
  | cons p l ih =>
    intro h
    have a := ih (fun q hq => h q (List.mem_cons_of_mem _ hq))
    have b : eW g S p.1 = eW g T p.1 := by unfold eW; rw [h p List.mem_cons_self]
    show wkL g S l + (if p.2 then eL g p.1 else eW g S p.1) = wkL g T l + (if p.2 then eL g p.1 else eW g T p.1)
    rw [a, b]
theorem xD_sbs {g : List Ed} {S T s t rep : Nat} (ho : ∀ x ∈ g, e_ok x) (ht : t < 8) (h : sbs S T) : xD g S s t rep ≤ xD g T s t rep := by
  obtain ⟨a1, a2, a3⟩ := xD_DD (S := S) (s := s) (rep := rep) ho ht
  obtain ⟨b1, b2, b3⟩ := xD_DD (S := T) (s := s) (rep := rep) ho ht
  rcases b2 with q | ⟨l, l1, l2, l3, l4⟩
  · omega
  · have := a3 l l1 l2 l3
    have := wkL_sbs ho h l l1
    omega
/-- a greater distance wants a further edge of the path that was used -/
theorem xU_meet {g : List Ed} {S T s t rep : Nat} (ho : ∀ x ∈ g, e_ok x) (ht : t < 8) (h : sbs S T) (hd : xD g S s t rep < xD g T s t rep) : ∃ e, (xU g S s t rep).testBit e = true ∧ T.testBit e = true ∧ ¬ S.testBit e = true := by
  have hT := (xD_DD (S := T) (s := s) (rep := rep) ho ht).1
  obtain ⟨l, l1, l2, l3, l4, l5⟩ := xU_walk (S := S) (s := s) (rep := rep) ho ht (by omega)
  apply Classical.byContradiction
  intro q
  have e1 : wkL g S l = wkL g T l := wkL_eq l (fun p hp => by
    cases a : S.testBit p.1
    · cases b : T.testBit p.1
      · rfl
      · exact absurd ⟨p.1, l5 p hp, b, by rw [a]; decide⟩ q
    · rw [h _ a])
  have := (xD_DD (S := T) (s := s) (rep := rep) ho ht).2.2 l l1 l2 l3
  omega
/-- the sets that grow sees, with their costs -/
def gwE (g : List Ed) (B S c O : Nat) (rc : Nat → Nat → Nat → List (Nat × Nat)) : Nat → Nat → Nat → List (Nat × Nat)
  | 0, _, _ => []
  | k + 1, e, cl => if O.testBit e = true then (if c + eC g e ≤ B then rc (S ||| 2 ^ e) (c + eC g e) cl else []) ++ gwE g B S c O rc k (e + 1) (cl ||| 2 ^ e) else gwE g B S c O rc k (e + 1) cl
def gwO (g : List Ed) (s t rep S sh : Nat) : Nat := nd (nd (xU g S s t rep) S) sh
def gwL (g : List Ed) (s t rep B aim : Nat) : Nat → Nat → Nat → Nat → List (Nat × Nat)
  | 0, S, c, _ => [(S, c)]
  | f + 1, S, c, sh => (S, c) :: (if aim ≤ xD g S s t rep then [] else gwE g B S c (gwO g s t rep S sh) (gwL g s t rep B aim f) g.length 0 sh)
theorem gwO_bit {g : List Ed} {s t rep S sh e : Nat} : (gwO g s t rep S sh).testBit e = true ↔ (xU g S s t rep).testBit e = true ∧ ¬ S.testBit e = true ∧ ¬ sh.testBit e = true := by
  unfold gwO
  rw [nd_bit, nd_bit]
  cases (xU g S s t rep).testBit e <;> cases S.testBit e <;> cases sh.testBit e <;> decide
theorem gwE_mem {g : List Ed} {B S c O : Nat} {rc : Nat → Nat → Nat → List (Nat × Nat)} : ∀ k e cl q, q ∈ gwE g B S c O rc k e cl → ∃ e2 cl2, e ≤ e2 ∧ e2 < e + k ∧ O.testBit e2 = true ∧ c + eC g e2 ≤ B ∧ sbs cl cl2 ∧ q ∈ rc (S ||| 2 ^ e2) (c + eC g e2) cl2 := by
  intro k
  induction k with
  | zero => intro e cl q h; cases h
  | succ k ih =>
    intro e cl q h
    have h2 : q ∈ (if O.testBit e = true then (if c + eC g e ≤ B then rc (S ||| 2 ^ e) (c + eC g e) cl else []) ++ gwE g B S c O rc k (e + 1) (cl ||| 2 ^ e) else gwE g B S c O rc k (e + 1) cl) := h
    split at h2
    · rename_i ho
      rcases List.mem_append.mp h2 with h3 | h3
      · split at h3
        · rename_i hb
          exact ⟨e, cl, Nat.le_refl _, by omega, ho, hb, sbs_rfl _, h3⟩
        · cases h3
      · obtain ⟨e2, cl2, a1, a2, a3, a4, a5, a6⟩ := ih _ _ _ h3
        exact ⟨e2, cl2, by omega, by omega, a3, a4, fun i hi => a5 i ((tb_or1 cl e i).mpr (Or.inl hi)), a6⟩
    · obtain ⟨e2, cl2, a1, a2, a3, a4, a5, a6⟩ := ih _ _ _ h2
      exact ⟨e2, cl2, by omega, by omega, a3, a4, a5, a6⟩
theorem gwE_has {g : List Ed} {B S c O T : Nat} {q : Nat × Nat} {rc : Nat → Nat → Nat → List (Nat × Nat)} (hr : ∀ e2 cl2, O.testBit e2 = true → T.testBit e2 = true → djs T cl2 → c + eC g e2 ≤ B ∧ q ∈ rc (S ||| 2 ^ e2) (c + eC g e2) cl2) : ∀ k e cl, djs T cl → (∃ e2, e ≤ e2 ∧ e2 < e + k ∧ O.testBit e2 = true ∧ T.testBit e2 = true) → q ∈ gwE g B S c O rc k e cl := by
  intro k
  induction k with
  | zero => intro e cl _ h; obtain ⟨e2, h1, h2, _⟩ := h; omega
  | succ k ih =>
    intro e cl hcl h
    obtain ⟨e2, h1, h2, h3, h4⟩ := h
    show q ∈ (if O.testBit e = true then (if c + eC g e ≤ B then rc (S ||| 2 ^ e) (c + eC g e) cl else []) ++ gwE g B S c O rc k (e + 1) (cl ||| 2 ^ e) else gwE g B S c O rc k (e + 1) cl)
    by_cases ho : O.testBit e = true
    · rw [if_pos ho]
      by_cases hT : T.testBit e = true
      · obtain ⟨a1, a2⟩ := hr e cl ho hT hcl
        rw [if_pos a1]
        exact List.mem_append_left _ a2
      · refine List.mem_append_right _ (ih (e + 1) _ (fun i hi q2 => ?_) ⟨e2, ?_, by omega, h3, h4⟩)
        · rcases (tb_or1 cl e i).mp q2 with z | z
          · exact hcl i hi z
          · subst z; exact hT hi
        · rcases Nat.lt_or_ge e e2 with z | z
          · exact z
          · have : e = e2 := by omega
            subst this
            exact absurd h4 hT
    · rw [if_neg ho]
      refine ih (e + 1) cl hcl ⟨e2, ?_, by omega, h3, h4⟩
      rcases Nat.lt_or_ge e e2 with z | z
      · exact z
      · have : e = e2 := by omega
        subst this
        exact absurd h3 ho
/-- the sets that may be attacked: within the budget, without some edges -/
def fsb (g : List Ed) (B F T : Nat) : Prop := T < 2 ^ g.length ∧ cS g T g.length ≤ B ∧ djs T F
theorem gwL_ok {g : List Ed} {s t rep B aim F : Nat} : ∀ f S c sh, fsb g B F S → c = cS g S g.length → sbs F sh → ∀ q ∈ gwL g s t rep B aim f S c sh, fsb g B F q.1 ∧ q.2 = cS g q.1 g.length := by
  intro f
  induction f with
  | zero =>
    intro S c sh h1 h2 h3 q hq
    have : q = (S, c) := List.mem_singleton.mp hq
    subst this
    exact ⟨h1, h2⟩
  | succ f ih =>
    intro S c sh h1 h2 h3 q hq
    have hq2 : q ∈ (S, c) :: (if aim ≤ xD g S s t rep then [] else gwE g B S c (gwO g s t rep S sh) (gwL g s t rep B aim f) g.length 0 sh) := hq
    rcases List.mem_cons.mp hq2 with e | e
    · subst e; exact ⟨h1, h2⟩
    · split at e
      · cases e
      · obtain ⟨e2, cl2, a1, a2, a3, a4, a5, a6⟩ := gwE_mem _ _ _ _ e
        obtain ⟨b1, b2, b3⟩ := gwO_bit.mp a3
        have he : e2 < g.length := by omega
        have hc := cS_or (g := g) b2 g.length
        rw [if_pos he] at hc
        refine ih _ _ _ ⟨tb_add_lt h1.1 he, by omega, fun i hi q2 => ?_⟩ (by omega) (fun i hi => a5 i (h3 i hi)) q a6
        rcases (tb_or1 S e2 i).mp hi with z | z
        · exact h1.2.2 i z q2
        · subst z; exact b3 (h3 e2 q2)
def vA (g : List Ed) (s t rep aim S : Nat) : Nat := min (xD g S s t rep) aim
/-- no part of it does the same -/
def mnl (v : Nat → Nat) (T : Nat) : Prop := ∀ R, sbs R T → R ≠ T → v R < v T
theorem gwL_has {g : List Ed} {s t rep B aim T : Nat} (ho : ∀ x ∈ g, e_ok x) (ht : t < 8) (hT : T < 2 ^ g.length) (hB : cS g T g.length ≤ B) (hm : mnl (vA g s t rep aim) T) : ∀ f S sh, sbs S T → djs T sh → cS g T g.length ≤ cS g S g.length + f → (T, cS g T g.length) ∈ gwL g s t rep B aim f S (cS g S g.length) sh := by
  intro f
  induction f with
  | zero =>
    intro S sh h1 h2 h3
    have e : S = T := by
      apply Classical.byContradiction
      intro q
      obtain ⟨e, e1, e2⟩ := sbs_ne h1 q
      have he := tb_lt hT e1
      have := cS_step h1 e1 e2 he
      have := (e_at ho he).2.2.2.2.1
      omega
    subst e
    exact List.mem_singleton.mpr rfl
  | succ f ih =>
    intro S sh h1 h2 h3
    show _ ∈ (S, cS g S g.length) :: (if aim ≤ xD g S s t rep then [] else gwE g B S (cS g S g.length) (gwO g s t rep S sh) (gwL g s t rep B aim f) g.length 0 sh)
    by_cases q : S = T
    · subst q; exact List.mem_cons_self
    · refine List.mem_cons_of_mem _ ?_
      have hv : min (xD g S s t rep) aim < min (xD g T s t rep) aim := hm S h1 q
      rw [if_neg (by omega)]
      obtain ⟨e, e1, e2, e3⟩ := xU_meet (s := s) (rep := rep) ho ht h1 (by omega)
      have he := tb_lt hT e2
      refine gwE_has (T := T) (fun e4 cl2 a1 a2 a3 => ?_) _ _ _ h2 ⟨e, Nat.zero_le _, by omega, gwO_bit.mpr ⟨e1, e3, h2 e e2⟩, e2⟩
      obtain ⟨b1, b2, b3⟩ := gwO_bit.mp a1
      have h4 := tb_lt hT a2
      have c1 := cS_step h1 a2 b2 h4
      have c2 := cS_or (g := g) b2 g.length
      rw [if_pos h4] at c2
      have c3 := (e_at ho h4).2.2.2.2.1
      refine ⟨by omega, ?_⟩
      have := ih (S ||| 2 ^ e4) cl2 (sbs_or h1 a2) a3 (by omega)
      rw [c2] at this
      exact this
/-- every set has a part that is minimal and does the same -/
theorem mnl_ex (v : Nat → Nat) : ∀ n T, T ≤ n → (∀ R, sbs R T → v R ≤ v T) → ∃ R, sbs R T ∧ v R = v T ∧ mnl v R := by
  intro n
  induction n with
  | zero =>
    intro T hT hm
    refine ⟨T, sbs_rfl T, rfl, fun R h1 h2 => ?_⟩
    have := sbs_le h1
    omega
  | succ n ih =>
    intro T hT hm
    by_cases q : mnl v T
    · exact ⟨T, sbs_rfl T, rfl, q⟩
    · have : ∃ R, sbs R T ∧ R ≠ T ∧ ¬ v R < v T := by
        apply Classical.byContradiction
        intro z
        exact q (fun R h1 h2 => Classical.byContradiction (fun w => z ⟨R, h1, h2, w⟩))
      obtain ⟨R, h1, h2, h3⟩ := this
      have a := hm R h1
      have b := sbs_le h1
      obtain ⟨R2, r1, r2, r3⟩ := ih R (by omega) (fun R3 h4 => by have := hm R3 (fun i hi => h1 i (h4 i hi)); omega)
      exact ⟨R2, fun i hi => h1 i (r1 i hi), by omega, r3⟩
theorem fsb_sbs {g : List Ed} {B F S T : Nat} (h : fsb g B F T) (hs : sbs S T) : fsb g B F S := ⟨sbs_lt hs h.1, Nat.le_trans (cS_sbs hs _) h.2.1, fun i hi => h.2.2 i (hs i hi)⟩
/-- as good as: a greater value, a lesser cost, a lesser number -/
def KG (a b : Nat × Nat × Nat) : Prop := b.1 < a.1 ∨ (b.1 = a.1 ∧ (a.2.1 < b.2.1 ∨ (a.2.1 = b.2.1 ∧ a.2.2 ≤ b.2.2)))
theorem KG_rfl (a : Nat × Nat × Nat) : KG a a := Or.inr ⟨rfl, Or.inr ⟨rfl, Nat.le_refl _⟩⟩
theorem KG_tr {a b c : Nat × Nat × Nat} (h1 : KG a b) (h2 : KG b c) : KG a c := by
  obtain ⟨a1, a2, a3⟩ := a
  obtain ⟨b1, b2, b3⟩ := b
  obtain ⟨c1, c2, c3⟩ := c
  simp only [KG] at h1 h2 ⊢
  omega
theorem KG_eq {a b : Nat × Nat × Nat} (h1 : KG a b) (h2 : KG b a) : a = b := by
  obtain ⟨a1, a2, a3⟩ := a
  obtain ⟨b1, b2, b3⟩ := b
  simp only [KG] at h1 h2
  have e1 : a1 = b1 := by omega
  have e2 : a2 = b2 := by omega
  have e3 : a3 = b3 := by omega
  rw [e1, e2, e3]
def wgh (b : Option (Nat × Nat × Nat)) (q : Nat × Nat × Nat) : Option (Nat × Nat × Nat) := match b with
  | none => some q
  | some p => if p.1 < q.1 ∨ (q.1 = p.1 ∧ (q.2.1 < p.2.1 ∨ (q.2.1 = p.2.1 ∧ q.2.2 < p.2.2))) then some q else some p
theorem wgh_some (p q : Nat × Nat × Nat) : ∃ r, wgh (some p) q = some r ∧ (r = p ∨ r = q) ∧ KG r p ∧ KG r q := by
  obtain ⟨p1, p2, p3⟩ := p
  obtain ⟨q1, q2, q3⟩ := q
  by_cases h : p1 < q1 ∨ (q1 = p1 ∧ (q2 < p2 ∨ (q2 = p2 ∧ q3 < p3)))
  · refine ⟨(q1, q2, q3), if_pos h, Or.inr rfl, ?_, KG_rfl _⟩
    simp only [KG]; omega
  · refine ⟨(p1, p2, p3), if_neg h, Or.inl rfl, KG_rfl _, ?_⟩
    simp only [KG]; omega
theorem wgh_fold (v : Nat → Nat) : ∀ (L : List (Nat × Nat)) (b : Nat × Nat × Nat), ∃ q, L.foldl (fun o p => wgh o (v p.1, p.2, p.1)) (some b) = some q ∧ (q = b ∨ ∃ p ∈ L, q = (v p.1, p.2, p.1)) ∧ KG q b ∧ ∀ p ∈ L, KG q (v p.1, p.2, p.1) := by
  intro L
  induction L with
  | nil => intro b; exact ⟨b, rfl, Or.inl rfl, KG_rfl b, fun p hp => by cases hp⟩
  | cons p L ih =>
    intro b
    obtain ⟨r, r1, r2, r3, r4⟩ := wgh_some b (v p.1, p.2, p.1)
    obtain ⟨q, q1, q2, q3, q4⟩ := ih r
    refine ⟨q, ?_, ?_, KG_tr q3 r3, ?_⟩
    · show L.foldl _ (wgh (some b) (v p.1, p.2, p.1)) = some q
      rw [r1]; exact q1
    · rcases q2 with e | ⟨p2, h1, h2⟩
      · rcases r2 with e2 | e2
        · exact Or.inl (e.trans e2)
        · exact Or.inr ⟨p, List.mem_cons_self, e.trans e2⟩
      · exact Or.inr ⟨p2, List.mem_cons_of_mem _ h1, h2⟩
    · intro p2 hp2
      rcases List.mem_cons.mp hp2 with e | e
      · subst e; exact KG_tr q3 r4
      · exact q4 p2 e
/-- the best attack -/
def bst (g : List Ed) (B F : Nat) (v : Nat → Nat) (q : Nat × Nat × Nat) : Prop := (∃ T, fsb g B F T ∧ q = (v T, cS g T g.length, T)) ∧ ∀ T, fsb g B F T → KG q (v T, cS g T g.length, T)
theorem bst_u {g : List Ed} {B F : Nat} {v : Nat → Nat} {p q : Nat × Nat × Nat} (hp : bst g B F v p) (hq : bst g B F v q) : p = q := by
  obtain ⟨⟨T, t1, t2⟩, p2⟩ := hp
  obtain ⟨⟨R, r1, r2⟩, q2⟩ := hq
  have a := p2 R r1
  have b := q2 T t1
  rw [← r2] at a
  rw [← t2] at b
  exact KG_eq a b
theorem vA_sbs {g : List Ed} {S T s t rep aim : Nat} (ho : ∀ x ∈ g, e_ok x) (ht : t < 8) (h : sbs S T) : vA g s t rep aim S ≤ vA g s t rep aim T := by
  have := xD_sbs (s := s) (rep := rep) ho ht h
  unfold vA
  omega
theorem grow_best {g : List Ed} {s t rep B aim F : Nat} (ho : ∀ x ∈ g, e_ok x) (ht : t < 8) (hB : B ≤ 16) : ∃ q, (gwL g s t rep B aim 16 0 0 F).foldl (fun o p => wgh o (vA g s t rep aim p.1, p.2, p.1)) none = some q ∧ bst g B F (vA g s t rep aim) q := by
  have hf0 : fsb g B F 0 := ⟨pw_pos _, by rw [cS_0]; omega, djs_0 F⟩
  have hok := gwL_ok (s := s) (t := t) (rep := rep) (aim := aim) (B := B) (F := F) 16 0 0 F hf0 (cS_0 _).symm (sbs_rfl F)
  have hcons : gwL g s t rep B aim 16 0 0 F = (0, 0) :: (if aim ≤ xD g 0 s t rep then [] else gwE g B 0 0 (gwO g s t rep 0 F) (gwL g s t rep B aim 15) g.length 0 F) := rfl
  obtain ⟨q, q1, q2, q3, q4⟩ := wgh_fold (vA g s t rep aim) (if aim ≤ xD g 0 s t rep then [] else gwE g B 0 0 (gwO g s t rep 0 F) (gwL g s t rep B aim 15) g.length 0 F) (vA g s t rep aim 0, 0, 0)
  have q5 : ∀ p ∈ gwL g s t rep B aim 16 0 0 F, KG q (vA g s t rep aim p.1, p.2, p.1) := by
    intro p hp
    rw [hcons] at hp
    rcases List.mem_cons.mp hp with e | e
    · subst e; exact q3
    · exact q4 p e
  have q6 : ∃ p ∈ gwL g s t rep B aim 16 0 0 F, q = (vA g s t rep aim p.1, p.2, p.1) := by
    rcases q2 with e | ⟨p, h1, h2⟩
    · exact ⟨(0, 0), by rw [hcons]; exact List.mem_cons_self, e⟩
    · exact ⟨p, by rw [hcons]; exact List.mem_cons_of_mem _ h1, h2⟩
  refine ⟨q, by rw [hcons]; exact q1, ?_, fun T hT => ?_⟩
  · obtain ⟨p, h1, h2⟩ := q6
    obtain ⟨a1, a2⟩ := hok p h1
    exact ⟨p.1, a1, by rw [h2, a2]⟩
  · obtain ⟨R, r1, r2, r3⟩ := mnl_ex (vA g s t rep aim) T T (Nat.le_refl _) (fun R hR => vA_sbs ho ht hR)
    have hR := fsb_sbs hT r1
    have hm := gwL_has (s := s) (t := t) (rep := rep) (B := B) (aim := aim) ho ht hR.1 hR.2.1 r3 16 0 F (sbs_0 R) hR.2.2 (by rw [cS_0]; have := hR.2.1; omega)
    rw [cS_0] at hm
    have k1 := q5 _ hm
    refine KG_tr k1 ?_
    have k2 := cS_sbs (g := g) r1 g.length
    have k3 := sbs_le r1
    simp only [KG]
    by_cases z : R = T
    · subst z; omega
    · obtain ⟨e, e1, e2⟩ := sbs_ne r1 z
      have he := tb_lt hT.1 e1
      have := cS_step r1 e1 e2 he
      have := (e_at ho he).2.2.2.2.1
      omega
/-- the edges that help in an attack -/
def hps (g : List Ed) (s t S i : Nat) : Prop := i < g.length ∧ S.testBit i = true ∧ xD g (nd S (2 ^ i)) s t 0 < xD g S s t 0
def mkL (g : List Ed) (s t S X : Nat) : Nat → Nat → Nat → Nat
  | 0, _, H => H
  | k + 1, e, H => mkL g s t S X k (e + 1) (if X.testBit e = true ∧ xD g (nd S (2 ^ e)) s t 0 < xD g S s t 0 then H ||| 2 ^ e else H)
def mkF (g : List Ed) (s t S H : Nat) : Nat := mkL g s t S (nd S H) g.length 0 H
theorem mkL_bit {g : List Ed} {s t S X i : Nat} : ∀ k e H, (mkL g s t S X k e H).testBit i = true ↔ H.testBit i = true ∨ (e ≤ i ∧ i < e + k ∧ X.testBit i = true ∧ xD g (nd S (2 ^ i)) s t 0 < xD g S s t 0) := by
  intro k
  induction k with
  | zero => intro e H; constructor; exact fun h => Or.inl h; rintro (h | h); exact h; omega
  | succ k ih =>
    intro e H
    show (mkL g s t S X k (e + 1) (if X.testBit e = true ∧ xD g (nd S (2 ^ e)) s t 0 < xD g S s t 0 then H ||| 2 ^ e else H)).testBit i = true ↔ _
    rw [ih]
    by_cases q : X.testBit e = true ∧ xD g (nd S (2 ^ e)) s t 0 < xD g S s t 0
    · rw [if_pos q, tb_or1]
      constructor
      · rintro ((h | h) | ⟨h1, h2, h3⟩)
        · exact Or.inl h
        · subst h; exact Or.inr ⟨Nat.le_refl _, by omega, q⟩
        · exact Or.inr ⟨by omega, by omega, h3⟩
      · rintro (h | ⟨h1, h2, h3⟩)
        · exact Or.inl (Or.inl h)
        · by_cases z : e = i
          · exact Or.inl (Or.inr z)
          · exact Or.inr ⟨by omega, by omega, h3⟩
    · rw [if_neg q]
      constructor
      · rintro (h | ⟨h1, h2, h3⟩)
        · exact Or.inl h
        · exact Or.inr ⟨by omega, by omega, h3⟩
      · rintro (h | ⟨h1, h2, h3⟩)
        · exact Or.inl h
        · by_cases z : e = i
          · subst z; exact absurd h3 q
          · exact Or.inr ⟨by omega, by omega, h3⟩
theorem mkF_bit {g : List Ed} {s t S H i : Nat} : (mkF g s t S H).testBit i = true ↔ H.testBit i = true ∨ hps g s t S i := by
  unfold mkF
  rw [mkL_bit, nd_bit]
  unfold hps
  constructor
  · rintro (h | ⟨_, h2, h3, h4⟩)
    · exact Or.inl h
    · refine Or.inr ⟨by omega, ?_, h4⟩
      cases a : S.testBit i
      · rw [a] at h3; cases h3
      · rfl
  · rintro (h | ⟨h2, h3, h4⟩)
    · exact Or.inl h
    · by_cases q : H.testBit i = true
      · exact Or.inl q
      · refine Or.inr ⟨Nat.zero_le _, by omega, ?_, h4⟩
        rw [h3]
        cases a : H.testBit i
        · rfl
        · exact absurd a q
theorem mkF_fold {g : List Ed} {s t i : Nat} : ∀ (L : List (Nat × Nat)) (H : Nat), (L.foldl (fun H p => mkF g s t p.1 H) H).testBit i = true ↔ H.testBit i = true ∨ ∃ p ∈ L, hps g s t p.1 i := by
  intro L
  induction L with
  | nil => intro H; constructor; exact fun h => Or.inl h; rintro (h | ⟨p, hp, _⟩); exact h; cases hp
  | cons p L ih =>
    intro H
    show (L.foldl _ (mkF g s t p.1 H)).testBit i = true ↔ _
    rw [ih, mkF_bit]
    constructor
    · rintro ((h | h) | ⟨p2, h1, h2⟩)
      · exact Or.inl h
      · exact Or.inr ⟨p, List.mem_cons_self, h⟩
      · exact Or.inr ⟨p2, List.mem_cons_of_mem _ h1, h2⟩
    · rintro (h | ⟨p2, h1, h2⟩)
      · exact Or.inl (Or.inl h)
      · rcases List.mem_cons.mp h1 with e | e
        · subst e; exact Or.inl (Or.inr h2)
        · exact Or.inr ⟨p2, e, h2⟩
theorem nd_sbs (S e : Nat) : sbs (nd S (2 ^ e)) S := fun i hi => ((tb_nd1 S e i).mp hi).1
theorem grow_help {g : List Ed} {s t B i : Nat} (ho : ∀ x ∈ g, e_ok x) (ht : t < 8) (hB : B ≤ 16) : ((gwL g s t 0 B 9999 16 0 0 0).foldl (fun H p => mkF g s t p.1 H) 0).testBit i = true ↔ ∃ T, fsb g B 0 T ∧ hps g s t T i := by
  have hf0 : fsb g B 0 0 := ⟨pw_pos _, by rw [cS_0]; omega, djs_0 0⟩
  have hok := gwL_ok (s := s) (t := t) (rep := 0) (aim := 9999) (B := B) (F := 0) 16 0 0 0 hf0 (cS_0 _).symm (sbs_rfl 0)
  have hv : ∀ S, vA g s t 0 9999 S = xD g S s t 0 := fun S => by
    have := (xD_DD (S := S) (s := s) (rep := 0) ho ht).1
    unfold vA; omega
  rw [mkF_fold, Nat.zero_testBit]
  constructor
  · rintro (h | ⟨p, h1, h2⟩)
    · cases h
    · exact ⟨p.1, (hok p h1).1, h2⟩
  · rintro ⟨T, hT, h1, h2, h3⟩
    obtain ⟨R, r1, r2, r3⟩ := mnl_ex (vA g s t 0 9999) T T (Nat.le_refl _) (fun R hR => vA_sbs ho ht hR)
    have hR := fsb_sbs hT r1
    have hm := gwL_has (s := s) (t := t) (rep := 0) (B := B) (aim := 9999) ho ht hR.1 hR.2.1 r3 16 0 0 (sbs_0 R) hR.2.2 (by rw [cS_0]; have := hR.2.1; omega)
    rw [cS_0] at hm
    refine Or.inr ⟨_, hm, h1, ?_, ?_⟩
    · apply Classical.byContradiction
      intro q
      have a : sbs R (nd T (2 ^ i)) := fun j hj => (tb_nd1 T i j).mpr ⟨r1 j hj, fun z => q (by rw [z]; exact hj)⟩
      have b := xD_sbs (s := s) (rep := 0) ho ht a
      rw [hv, hv] at r2
      omega
    · have hRi : R.testBit i = true := by
        apply Classical.byContradiction
        intro q
        have a : sbs R (nd T (2 ^ i)) := fun j hj => (tb_nd1 T i j).mpr ⟨r1 j hj, fun z => q (by rw [z]; exact hj)⟩
        have b := xD_sbs (s := s) (rep := 0) ho ht a
        rw [hv, hv] at r2
        omega
      have := r3 (nd R (2 ^ i)) (nd_sbs R i) (fun z => by
        have : (nd R (2 ^ i)).testBit i = true := by rw [z]; exact hRi
        exact ((tb_nd1 R i i).mp this).2 rfl)
      rw [hv, hv] at this
      exact this
