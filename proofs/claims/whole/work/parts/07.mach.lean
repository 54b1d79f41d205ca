/-! THE MACHINE, SAID ONCE: a judgement over flat memory. Cells are numbered; cell i's j-th int (a field or an element) is mu i j; references among them are numbers of cells; one long stands beside. -/
/-- a value, its cell number turned into the cell's address -/
def tv_v (ad : Nat → Nat) (v : Value) : Value := match v with
  | .ref i => .ref (ad i)
  | w => w
theorem tv_cat (ad : Nat → Nat) (v : Value) : (tv_v ad v).category = v.category := by cases v <;> rfl
def ly_fv (ad : Nat → Nat) (h : Int64) (mi : Nat → Int32) (j : Nat) (f : ly_F) : Value := match f with
  | none => .int (mi j)
  | some none => .long h
  | some (some c) => .ref (ad c)
def ly_av (h : Int64) (mi : Nat → Int32) (j : Nat) (f : ly_F) : Value := match f with
  | none => .int (mi j)
  | some none => .long h
  | some (some c) => .ref c
theorem ly_fv_av (ad : Nat → Nat) (h : Int64) (mi : Nat → Int32) (j : Nat) (f : ly_F) : ly_fv ad h mi j f = tv_v ad (ly_av h mi j f) := by
  cases f with
  | none => rfl
  | some g => cases g <;> rfl
def ly_e (ad : Nat → Nat) (ca : Nat → ClassId) (mu : Nat → Nat → Int32) (h : Int64) (i : Nat) (x : ly_E) : va_E := match x with
  | .inl a => .inl (ca a.1, a.2, .inl (mu i))
  | .inr o => .inr (o.1, o.2.mapIdx (fun j f => ly_fv ad h (mu i) j f))
def ly_w (ad : Nat → Nat) (ca : Nat → ClassId) (mu : Nat → Nat → Int32) (h : Int64) : va_W := ly_L.mapIdx (fun i x => (ad i, ly_e ad ca mu h i x))
theorem ly_at {ad : Nat → Nat} {ca : Nat → ClassId} {mu : Nat → Nat → Int32} {h : Int64} {i : Nat} {x : ly_E} (hi : ly_L[i]? = some x) : (ly_w ad ca mu h)[i]? = some (ad i, ly_e ad ca mu h i x) := by
  simp [ly_w, List.getElem?_mapIdx, hi]
theorem ly_of {ad : Nat → Nat} {ca : Nat → ClassId} {mu : Nat → Nat → Int32} {h : Int64} {i : Nat} {q : Nat × va_E} (hi : (ly_w ad ca mu h)[i]? = some q) : ∃ x, ly_L[i]? = some x ∧ q = (ad i, ly_e ad ca mu h i x) := by
  simp only [ly_w, List.getElem?_mapIdx, Option.map_eq_some_iff] at hi
  obtain ⟨x, h1, h2⟩ := hi
  exact ⟨x, h1, h2.symm⟩
/-- one int is written -/
def mu_s (mu : Nat → Nat → Int32) (i j : Nat) (v : Int32) : Nat → Nat → Int32 := fun a => if a = i then upd (mu i) j v else mu a
/-- a row is written -/
def mu_r (mu : Nat → Nat → Int32) (i : Nat) (f : Nat → Int32) : Nat → Nat → Int32 := fun a => if a = i then f else mu a
theorem mu_s_r (mu : Nat → Nat → Int32) (i j : Nat) (v : Int32) : mu_s mu i j v = mu_r mu i (upd (mu i) j v) := rfl
theorem mu_r_in (mu : Nat → Nat → Int32) (i : Nat) (f : Nat → Int32) : mu_r mu i f i = f := if_pos rfl
theorem mu_r_out {mu : Nat → Nat → Int32} {i a : Nat} {f : Nat → Int32} (h : a ≠ i) : mu_r mu i f a = mu a := if_neg h
theorem ly_w_setr {ad : Nat → Nat} {ca : Nat → ClassId} {mu : Nat → Nat → Int32} {h : Int64} {i : Nat} {x : ly_E} (hi : ly_L[i]? = some x) (f : Nat → Int32) : (ly_w ad ca mu h).set i (ad i, ly_e ad ca (mu_r mu i f) h i x) = ly_w ad ca (mu_r mu i f) h := by
  apply List.ext_getElem?
  intro k
  by_cases hk : k = i
  · subst hk
    have hl : k < (ly_w ad ca mu h).length := (List.getElem?_eq_some_iff.mp (ly_at hi)).1
    rw [List.getElem?_set_self hl, ly_at hi]
  · rw [List.getElem?_set_ne (Ne.symm hk)]
    simp only [ly_w, List.getElem?_mapIdx]
    cases ly_L[k]? with
    | none => rfl
    | some z => simp [ly_e, mu_r_out hk]
theorem ly_obj_set {ad : Nat → Nat} {h : Int64} {mi : Nat → Int32} {fs : List ly_F} {j : Nat} (hj : fs[j]? = some none) (v : Int32) : (fs.mapIdx (fun j f => ly_fv ad h mi j f)).set j (.int v) = fs.mapIdx (fun q f => ly_fv ad h (upd mi j v) q f) := by
  apply List.ext_getElem?
  intro k
  by_cases hk : k = j
  · subst hk
    have hl : k < (fs.mapIdx (fun j f => ly_fv ad h mi j f)).length := by simpa using (List.getElem?_eq_some_iff.mp hj).1
    rw [List.getElem?_set_self hl]
    simp [List.getElem?_mapIdx, hj, ly_fv, upd]
  · rw [List.getElem?_set_ne (Ne.symm hk)]
    simp only [List.getElem?_mapIdx]
    cases fs[k]? with
    | none => rfl
    | some z =>
      cases z with
      | none => simp [ly_fv, upd, hk]
      | some g => cases g <;> rfl
theorem ly_D {A : Nat → Prop} {ad : Nat → Nat} {ca : Nat → ClassId} {mu mu' : Nat → Nat → Int32} {h h' : Int64} (hD : va_D A (ly_w ad ca mu h)) : va_D A (ly_w ad ca mu' h') := by
  refine ⟨fun i j p q hp hq e => ?_, fun k q hq => ?_⟩
  · obtain ⟨x, h1, rfl⟩ := ly_of hp
    obtain ⟨z, h2, rfl⟩ := ly_of hq
    exact hD.1 i j _ _ (ly_at h1) (ly_at h2) e
  · obtain ⟨x, h1, rfl⟩ := ly_of hq
    exact hD.2 k (ad k, ly_e ad ca mu h k x) (ly_at h1)
theorem ly_A {ad : Nat → Nat} {ca : Nat → ClassId} {mu mu' : Nat → Nat → Int32} {h h' : Int64} {sz q : Nat} (hq : va_A (ly_w ad ca mu h) sz q) : va_A (ly_w ad ca mu' h') sz q := by
  rcases hq with ⟨k, e, he⟩ | he
  · obtain ⟨x, h1, h2⟩ := ly_of he
    cases h2
    exact Or.inl ⟨k, _, ly_at h1⟩
  · exact Or.inr he
/-! locals: a list, in the order of their numbers -/
def lc_p (ad : Nat → Nat) (L : List (Option Value)) : List (Nat × Value) := L.zipIdx.filterMap (fun q => q.1.map (fun v => (q.2, tv_v ad v)))
def lc_h (ad : Nat → Nat) (ls : Array Slot) (L : List (Option Value)) : Prop := lv_has ls L.length (lc_p ad L)
theorem lc_p_mem {ad : Nat → Nat} {L : List (Option Value)} {i : Nat} {v : Value} : (i, v) ∈ lc_p ad L ↔ ∃ w, L[i]? = some (some w) ∧ v = tv_v ad w := by
  simp only [lc_p, List.mem_filterMap, Option.map_eq_some_iff, Prod.exists, Prod.mk.injEq]
  constructor
  · rintro ⟨o, k, hm, w, hw, rfl, rfl⟩
    have h1 := List.mem_zipIdx_iff_getElem?.mp hm
    simp only at h1 hw
    exact ⟨w, by rw [h1, hw], rfl⟩
  · rintro ⟨w, hw, rfl⟩
    exact ⟨some w, i, List.mem_zipIdx_iff_getElem?.mpr hw, w, rfl, rfl, rfl⟩
theorem lc_at {ad : Nat → Nat} {ls : Array Slot} {L : List (Option Value)} (h : lc_h ad ls L) {i : Nat} {v : Value} (hi : L[i]? = some (some v)) : ls[i]? = some (.val (tv_v ad v)) := h.2.2 (i, tv_v ad v) (lc_p_mem.mpr ⟨v, hi, rfl⟩)
/-- what a store does to the local before it: a long there is gone -/
def lc_k (L : List (Option Value)) (i : Nat) : List (Option Value) := match i with
  | 0 => L
  | j + 1 => match L[j]? with
    | some (some w) => if w.category = 2 then L.set j none else L
    | _ => L
def lc_1 (L : List (Option Value)) (i : Nat) (v : Value) : List (Option Value) := (lc_k L i).set i (some v)
def lc_2 (L : List (Option Value)) (i : Nat) (v : Value) : List (Option Value) := ((lc_k L i).set i (some v)).set (i + 1) none
theorem lc_k_len (L : List (Option Value)) (i : Nat) : (lc_k L i).length = L.length := by
  unfold lc_k
  split
  · rfl
  · split
    · split <;> simp
    · rfl
theorem lc_k_get {L : List (Option Value)} {i k : Nat} {w : Value} (h : (lc_k L i)[k]? = some (some w)) : L[k]? = some (some w) ∧ ¬ (k + 1 = i ∧ w.category = 2) := by
  unfold lc_k at h
  split at h
  · exact ⟨h, fun q => by omega⟩
  · rename_i j
    split at h
    · rename_i w' hw'
      split at h
      · rename_i hc
        by_cases hk : k = j
        · subst hk
          rw [List.getElem?_set_self (List.getElem?_eq_some_iff.mp hw').1] at h
          cases h
        · rw [List.getElem?_set_ne (Ne.symm hk)] at h
          exact ⟨h, fun q => hk (by omega)⟩
      · rename_i hc
        refine ⟨h, fun q => ?_⟩
        have : k = j := by omega
        subst this
        rw [hw'] at h
        cases h
        exact hc q.2
    · rename_i hn
      refine ⟨h, fun q => ?_⟩
      have : k = j := by omega
      subst this
      exact hn _ h
theorem lc_st1 {ad : Nat → Nat} {ls' : Array Slot} {L : List (Option Value)} {i : Nat} {v : Value} (hi : i < L.length) (h : lv_has ls' L.length ((i, tv_v ad v) :: (lc_p ad L).filter (fun q => !(q.1 == i) && !(q.1 + 1 == i && q.2.category == 2)))) : lc_h ad ls' (lc_1 L i v) := by
  obtain ⟨h1, h2, h3⟩ := h
  refine ⟨by simp [lc_1, lc_k_len, h1], h2, fun q hq => ?_⟩
  obtain ⟨k, x⟩ := q
  obtain ⟨w, hw, rfl⟩ := lc_p_mem.mp hq
  unfold lc_1 at hw
  by_cases hk : k = i
  · subst hk
    rw [List.getElem?_set_self (by rw [lc_k_len]; exact hi)] at hw
    cases hw
    exact h3 _ List.mem_cons_self
  · rw [List.getElem?_set_ne (Ne.symm hk)] at hw
    obtain ⟨g1, g2⟩ := lc_k_get hw
    refine h3 (k, tv_v ad w) (List.mem_cons_of_mem _ (List.mem_filter.mpr ⟨lc_p_mem.mpr ⟨w, g1, rfl⟩, ?_⟩))
    simp only [tv_cat, Bool.and_eq_true, Bool.not_eq_true', beq_eq_false_iff_ne, ne_eq, Bool.and_eq_false_iff]
    refine ⟨hk, ?_⟩
    by_cases h5 : k + 1 = i
    · exact Or.inr (fun q => g2 ⟨h5, q⟩)
    · exact Or.inl h5
theorem lc_st2 {ad : Nat → Nat} {ls' : Array Slot} {L : List (Option Value)} {i : Nat} {v : Value} (hi : i + 1 < L.length) (h : lv_has ls' L.length ((i, tv_v ad v) :: (lc_p ad L).filter (fun q => !(q.1 == i) && (!(q.1 == i + 1) && !(q.1 + 1 == i && q.2.category == 2))))) : lc_h ad ls' (lc_2 L i v) := by
  obtain ⟨h1, h2, h3⟩ := h
  refine ⟨by simp [lc_2, lc_k_len, h1], h2, fun q hq => ?_⟩
  obtain ⟨k, x⟩ := q
  obtain ⟨w, hw, rfl⟩ := lc_p_mem.mp hq
  unfold lc_2 at hw
  by_cases hk1 : k = i + 1
  · subst hk1
    rw [List.getElem?_set_self (by rw [List.length_set, lc_k_len]; exact hi)] at hw
    cases hw
  · rw [List.getElem?_set_ne (Ne.symm hk1)] at hw
    by_cases hk : k = i
    · subst hk
      rw [List.getElem?_set_self (by rw [lc_k_len]; omega)] at hw
      cases hw
      exact h3 _ List.mem_cons_self
    · rw [List.getElem?_set_ne (Ne.symm hk)] at hw
      obtain ⟨g1, g2⟩ := lc_k_get hw
      refine h3 (k, tv_v ad w) (List.mem_cons_of_mem _ (List.mem_filter.mpr ⟨lc_p_mem.mpr ⟨w, g1, rfl⟩, ?_⟩))
      simp only [tv_cat, Bool.and_eq_true, Bool.not_eq_true', beq_eq_false_iff_ne, ne_eq, Bool.and_eq_false_iff]
      refine ⟨hk, hk1, ?_⟩
      by_cases h5 : k + 1 = i
      · exact Or.inr (fun q => g2 ⟨h5, q⟩)
      · exact Or.inl h5
