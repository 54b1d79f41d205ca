/-! SIMPLE PATHS, last edge first: in their order -/
def ptE (g : List Ed) (s : Nat) : List Nat → Nat
  | [] => s
  | e :: _ => eT g e
def ptN (g : List Ed) (s : Nat) : List Nat → Nat
  | [] => 2 ^ s
  | e :: P => ptN g s P ||| 2 ^ eT g e
def ptL (g : List Ed) (a : Nat) : List Nat → Nat
  | [] => 0
  | e :: P => ptL g a P + eW g a e
/-- an edge goes on -/
abbrev ptC (g : List Ed) (a s : Nat) (P : List Nat) (e : Nat) : Prop := eF g e = ptE g s P ∧ eW g a e < 9999 ∧ ¬ (ptN g s P).testBit (eT g e) = true
def ptV (g : List Ed) (a s : Nat) : List Nat → Prop
  | [] => True
  | e :: P => ptV g a s P ∧ e < g.length ∧ ptC g a s P e
def ptS (g : List Ed) (a s : Nat) (rc : List Nat → List (List Nat)) (P : List Nat) : Nat → Nat → List (List Nat)
  | 0, _ => []
  | k + 1, e => if ptC g a s P e then rc (e :: P) ++ ptS g a s rc P k (e + 1) else ptS g a s rc P k (e + 1)
def ptA (g : List Ed) (a s t : Nat) : Nat → List Nat → List (List Nat)
  | 0, P => [P]
  | f + 1, P => P :: (if ptE g s P = t then [] else ptS g a s (ptA g a s t f) P g.length 0)
/-- the children from an edge on; what comes behind a path -/
def ptB (g : List Ed) (a s t : Nat) (P : List Nat) (e : Nat) : List (List Nat) := ptS g a s (ptA g a s t (7 - P.length)) P (g.length - e) e
def ptR (g : List Ed) (a s t : Nat) : List Nat → List (List Nat)
  | [] => []
  | e :: P => ptB g a s t P (e + 1) ++ ptR g a s t P
def ptX (g : List Ed) (a s t : Nat) (P : List Nat) : List (List Nat) := (if ptE g s P = t then [] else ptB g a s t P 0) ++ ptR g a s t P
theorem ptA_0 (g : List Ed) (a s t : Nat) : ptA g a s t 8 [] = [] :: ptX g a s t [] := by
  show [] :: (if ptE g s [] = t then [] else ptS g a s (ptA g a s t 7) [] g.length 0) = [] :: ((if ptE g s [] = t then [] else ptB g a s t [] 0) ++ [])
  rw [List.append_nil]
  rfl
theorem ptN_E {g : List Ed} {s : Nat} (P : List Nat) : (ptN g s P).testBit (ptE g s P) = true := by
  cases P with
  | nil => exact Nat.testBit_two_pow_self
  | cons e P => exact (tb_or1 _ _ _).mpr (Or.inr rfl)
theorem ptN_lt {g : List Ed} {a s : Nat} (ho : ∀ x ∈ g, e_ok x) (hs : s < 8) : ∀ P, ptV g a s P → ptN g s P < 2 ^ 8 := by
  intro P
  induction P with
  | nil => intro _; exact Nat.pow_lt_pow_right (by omega) hs
  | cons e P ih => intro h; exact tb_add_lt (ih h.1) (e_at ho h.2.1).2.1
theorem ptE_lt {g : List Ed} {a s : Nat} (ho : ∀ x ∈ g, e_ok x) (hs : s < 8) : ∀ P, ptV g a s P → ptE g s P < 8 := by
  intro P h
  cases P with
  | nil => exact hs
  | cons e P => exact (e_at ho h.2.1).2.1
theorem mny_pow {s : Nat} : ∀ k, mny (2 ^ s) k = if s < k then 1 else 0 := by
  intro k
  induction k with
  | zero => rfl
  | succ k ih =>
    show mny (2 ^ s) k + (if (2 ^ s).testBit k then 1 else 0) = _
    rw [ih, tb_pow]
    by_cases q : s = k
    · subst q; simp
    · rw [if_neg (show ¬ decide (s = k) = true by simpa using q)]
      by_cases w : s < k
      · rw [if_pos w, if_pos (show s < k + 1 by omega)]
      · rw [if_neg w, if_neg (show ¬ s < k + 1 by omega)]
theorem ptN_mny {g : List Ed} {a s : Nat} (ho : ∀ x ∈ g, e_ok x) (hs : s < 8) : ∀ P, ptV g a s P → mny (ptN g s P) 8 = P.length + 1 := by
  intro P
  induction P with
  | nil => intro _; show mny (2 ^ s) 8 = 1; rw [mny_pow, if_pos hs]
  | cons e P ih =>
    intro h
    have := mny_or h.2.2.2.2 8
    rw [if_pos (e_at ho h.2.1).2.1, ih h.1] at this
    exact this
theorem ptV_len {g : List Ed} {a s : Nat} (ho : ∀ x ∈ g, e_ok x) (hs : s < 8) {P : List Nat} (h : ptV g a s P) : P.length ≤ 7 := by
  have := ptN_mny ho hs P h
  have := mny_le (ptN g s P) 8
  omega
theorem ptL_le {g : List Ed} {a s : Nat} (ho : ∀ x ∈ g, e_ok x) : ∀ P, ptV g a s P → ptL g a P ≤ 199 * P.length := by
  intro P
  induction P with
  | nil => intro _; exact Nat.le_refl _
  | cons e P ih =>
    intro h
    have a1 := ih h.1
    have hok := e_at ho h.2.1
    have h9 := h.2.2.2.1
    have a2 : eW g a e ≤ 199 := by
      unfold eW at h9 ⊢
      split at h9
      · split at h9
        · omega
        · rename_i h1 h2
          rw [if_pos h1, if_neg h2]; omega
      · rename_i h1
        rw [if_neg h1]; omega
    show ptL g a P + eW g a e ≤ 199 * (P.length + 1)
    omega
theorem ptS_mem {g : List Ed} {a s : Nat} {rc : List Nat → List (List Nat)} {P Q : List Nat} : ∀ k e, Q ∈ ptS g a s rc P k e ↔ ∃ i, e ≤ i ∧ i < e + k ∧ ptC g a s P i ∧ Q ∈ rc (i :: P) := by
  intro k
  induction k with
  | zero => intro e; constructor; (intro h; cases h); (rintro ⟨i, h1, h2, -⟩; omega)
  | succ k ih =>
    intro e
    show Q ∈ (if ptC g a s P e then rc (e :: P) ++ ptS g a s rc P k (e + 1) else ptS g a s rc P k (e + 1)) ↔ _
    by_cases c : ptC g a s P e
    · rw [if_pos c, List.mem_append, ih]
      constructor
      · rintro (h | ⟨i, h1, h2, h3⟩)
        · exact ⟨e, Nat.le_refl _, by omega, c, h⟩
        · exact ⟨i, by omega, by omega, h3⟩
      · rintro ⟨i, h1, h2, h3, h4⟩
        by_cases z : i = e
        · subst z; exact Or.inl h4
        · exact Or.inr ⟨i, by omega, by omega, h3, h4⟩
    · rw [if_neg c, ih]
      constructor
      · rintro ⟨i, h1, h2, h3⟩
        exact ⟨i, by omega, by omega, h3⟩
      · rintro ⟨i, h1, h2, h3, h4⟩
        by_cases z : i = e
        · subst z; exact absurd h3 c
        · exact ⟨i, by omega, by omega, h3, h4⟩
theorem ptA_ok {g : List Ed} {a s t : Nat} : ∀ f P, ptV g a s P → ∀ Q ∈ ptA g a s t f P, ptV g a s Q ∧ ptL g a P ≤ ptL g a Q := by
  intro f
  induction f with
  | zero => intro P hP Q hQ; rw [List.mem_singleton.mp hQ]; exact ⟨hP, Nat.le_refl _⟩
  | succ f ih =>
    intro P hP Q hQ
    have hQ2 : Q ∈ P :: (if ptE g s P = t then [] else ptS g a s (ptA g a s t f) P g.length 0) := hQ
    rcases List.mem_cons.mp hQ2 with e | e
    · rw [e]; exact ⟨hP, Nat.le_refl _⟩
    · split at e
      · cases e
      · obtain ⟨i, i1, i2, i3, i4⟩ := (ptS_mem _ _).mp e
        obtain ⟨a1, a2⟩ := ih (i :: P) ⟨hP, by omega, i3⟩ Q i4
        exact ⟨a1, Nat.le_trans (Nat.le_add_right _ _) a2⟩
theorem ptS_skip {g : List Ed} {a s : Nat} {rc : List Nat → List (List Nat)} {P : List Nat} : ∀ j k e, (∀ i, e ≤ i → i < e + j → ¬ ptC g a s P i) → ptS g a s rc P (j + k) e = ptS g a s rc P k (e + j) := by
  intro j
  induction j with
  | zero => intro k e _; rw [Nat.zero_add]; rfl
  | succ j ih =>
    intro k e h
    have e1 : ptS g a s rc P (j + 1 + k) e = ptS g a s rc P (j + k) (e + 1) := by
      rw [show j + 1 + k = j + k + 1 by omega]
      exact if_neg (h e (Nat.le_refl _) (by omega))
    rw [e1, ih k (e + 1) (fun i h1 h2 => h i (by omega) (by omega)), show e + 1 + j = e + (j + 1) by omega]
theorem ptB_none {g : List Ed} {a s t first : Nat} {P : List Nat} (h : ∀ i, first ≤ i → i < g.length → ¬ ptC g a s P i) : ptB g a s t P first = [] := by
  unfold ptB
  have := @ptS_skip g a s (ptA g a s t (7 - P.length)) P (g.length - first) 0 first (fun i h1 h2 => h i h1 (by omega))
  rw [Nat.add_zero] at this
  rw [this]
  rfl
theorem ptB_some {g : List Ed} {a s t first e : Nat} {P : List Nat} (h : ∀ i, first ≤ i → i < e → ¬ ptC g a s P i) (h1 : first ≤ e) (h2 : e < g.length) (hc : ptC g a s P e) (hl : P.length ≤ 6) : ptB g a s t P first ++ ptR g a s t P = (e :: P) :: ptX g a s t (e :: P) := by
  have e1 : ptB g a s t P first = ptA g a s t (7 - P.length) (e :: P) ++ ptB g a s t P (e + 1) := by
    unfold ptB
    have := @ptS_skip g a s (ptA g a s t (7 - P.length)) P (e - first) (g.length - e) first (fun i h3 h4 => h i h3 (by omega))
    rw [show e - first + (g.length - e) = g.length - first by omega, show first + (e - first) = e by omega] at this
    rw [this, show g.length - e = g.length - (e + 1) + 1 by omega]
    exact if_pos hc
  have e2 : ptA g a s t (7 - P.length) (e :: P) = (e :: P) :: (if ptE g s (e :: P) = t then [] else ptB g a s t (e :: P) 0) := by
    rw [show 7 - P.length = (7 - (e :: P).length) + 1 by show 7 - P.length = 7 - (P.length + 1) + 1; omega]
    rfl
  rw [e1, e2, List.append_assoc]
  rfl
theorem ptR_sbs {g : List Ed} {a s : Nat} : ∀ P, ptV g a s P → ∀ v, (ptN g s P).testBit v = true → ∃ Q, ptV g a s Q ∧ ptE g s Q = v ∧ ptL g a Q ≤ ptL g a P := by
  intro P
  induction P with
  | nil =>
    intro _ v h
    have h2 : (2 ^ s).testBit v = true := h
    rw [tb_pow] at h2
    exact ⟨[], trivial, of_decide_eq_true h2, Nat.le_refl _⟩
  | cons e P ih =>
    intro hv v h
    rcases (tb_or1 _ _ _).mp h with q | q
    · obtain ⟨Q, q1, q2, q3⟩ := ih hv.1 v q
      exact ⟨Q, q1, q2, Nat.le_trans q3 (Nat.le_add_right _ _)⟩
    · exact ⟨e :: P, hv, q, Nat.le_refl _⟩
/-- every walk has a simple path that is no longer -/
theorem wk_pt {g : List Ed} {a s : Nat} : ∀ l, wkV g s l → wkR l ≤ 0 → wkL g a l < 9999 → ∃ Q, ptV g a s Q ∧ ptE g s Q = wkE g s l ∧ ptL g a Q ≤ wkL g a l := by
  intro l
  induction l with
  | nil => intro _ _ _; exact ⟨[], trivial, rfl, Nat.le_refl _⟩
  | cons p l ih =>
    intro hv hr hl
    obtain ⟨e, b⟩ := p
    cases b with
    | true => exact absurd hr (by show ¬ (wkR l + 1 ≤ 0); omega)
    | false =>
      have hr2 : wkR l + 0 ≤ 0 := hr
      have hl2 : wkL g a l + eW g a e < 9999 := hl
      obtain ⟨Q, q1, q2, q3⟩ := ih hv.1 (by omega) (by omega)
      have h3 : eF g e = wkE g s l := hv.2.2
      by_cases c : (ptN g s Q).testBit (eT g e) = true
      · obtain ⟨Q2, r1, r2, r3⟩ := ptR_sbs Q q1 _ c
        refine ⟨Q2, r1, r2, ?_⟩
        show _ ≤ wkL g a l + eW g a e
        omega
      · refine ⟨e :: Q, ⟨q1, hv.2.1, by rw [h3, q2], by omega, c⟩, rfl, ?_⟩
        show ptL g a Q + eW g a e ≤ wkL g a l + eW g a e
        omega
theorem pt_wk {g : List Ed} {a s : Nat} : ∀ P, ptV g a s P → ∃ l, wkV g s l ∧ wkE g s l = ptE g s P ∧ wkR l = 0 ∧ wkL g a l = ptL g a P := by
  intro P
  induction P with
  | nil => intro _; exact ⟨[], trivial, rfl, rfl, rfl⟩
  | cons e P ih =>
    intro h
    obtain ⟨l, l1, l2, l3, l4⟩ := ih h.1
    refine ⟨(e, false) :: l, ⟨l1, h.2.1, by rw [l2]; exact h.2.2.1⟩, rfl, by show wkR l + 0 = 0; omega, ?_⟩
    show wkL g a l + eW g a e = ptL g a P + eW g a e
    rw [l4]
/-- a path that ends at t is found -/
theorem ptA_has {g : List Ed} {a s t : Nat} (ho : ∀ x ∈ g, e_ok x) (hs : s < 8) : ∀ (X P : List Nat), ptV g a s (X ++ P) → ptE g s (X ++ P) = t → ∀ f, P.length + f = 8 → (X ++ P) ∈ ptA g a s t f P := by
  intro X
  induction hX : X.length generalizing X with
  | zero =>
    intro P hv ht f hf
    have : X = [] := List.length_eq_zero_iff.mp hX
    subst this
    cases f with
    | zero => exact List.mem_singleton.mpr rfl
    | succ f => exact List.mem_cons_self
  | succ n ih =>
    intro P hv ht f hf
    obtain ⟨Y, e, rfl⟩ : ∃ Y e, X = Y ++ [e] := by
      refine ⟨X.dropLast, X.getLast (fun z => by rw [z] at hX; cases hX), ?_⟩
      exact (List.dropLast_concat_getLast _).symm
    have hY : Y.length = n := by
      rw [List.length_append] at hX
      have : [e].length = 1 := rfl
      omega
    have e1 : Y ++ [e] ++ P = Y ++ (e :: P) := by rw [List.append_assoc]; rfl
    rw [e1] at hv ht ⊢
    have hsuf : ∀ (Z R : List Nat), ptV g a s (Z ++ R) → ptV g a s R := by
      intro Z R
      induction Z with
      | nil => exact fun h => h
      | cons z Z ihZ => exact fun h => ihZ h.1
    have hv2 := hsuf Y (e :: P) hv
    have hl := ptV_len ho hs hv2
    have hl2 : P.length + 1 ≤ 7 := hl
    have hne : ¬ ptE g s P = t := by
      intro q
      have hin : ∀ Z : List Nat, (ptN g s (Z ++ P)).testBit t = true := by
        intro Z
        induction Z with
        | nil => rw [← q]; exact ptN_E P
        | cons z Z ihZ => exact (tb_or1 _ _ _).mpr (Or.inl ihZ)
      cases Y with
      | nil =>
        have h5 : eT g e = t := ht
        exact hv2.2.2.2.2 (by rw [h5]; exact hin [])
      | cons y Y =>
        have h5 : eT g y = t := ht
        have h6 : ptV g a s (Y ++ e :: P) ∧ y < g.length ∧ ptC g a s (Y ++ e :: P) y := hv
        refine h6.2.2.2.2 ?_
        rw [h5]
        have := hin (Y ++ [e])
        rw [List.append_assoc] at this
        exact this
    obtain ⟨f2, rfl⟩ : ∃ f2, f = f2 + 1 := ⟨f - 1, by omega⟩
    show _ ∈ P :: (if ptE g s P = t then [] else ptS g a s (ptA g a s t f2) P g.length 0)
    rw [if_neg hne]
    refine List.mem_cons_of_mem _ ((ptS_mem _ _).mpr ⟨e, Nat.zero_le _, by have := hv2.2.1; omega, hv2.2.2, ?_⟩)
    exact ih Y hY (e :: P) hv ht f2 (by show P.length + 1 + f2 = 8; omega)
/-- all simple paths from s to t -/
def ptF (g : List Ed) (s t : Nat) (L : List (List Nat)) : List (List Nat) := L.filter (fun Q => decide (ptE g s Q = t))
def ptP (g : List Ed) (a s t : Nat) : List (List Nat) := ptF g s t (ptA g a s t 8 [])
theorem ptP_mem {g : List Ed} {a s t : Nat} {Q : List Nat} (ho : ∀ x ∈ g, e_ok x) (hs : s < 8) : Q ∈ ptP g a s t ↔ ptV g a s Q ∧ ptE g s Q = t := by
  unfold ptP ptF
  rw [List.mem_filter]
  constructor
  · rintro ⟨h1, h2⟩
    exact ⟨(ptA_ok 8 [] trivial Q h1).1, of_decide_eq_true h2⟩
  · rintro ⟨h1, h2⟩
    refine ⟨?_, decide_eq_true h2⟩
    have := ptA_has (t := t) ho hs Q [] (by rw [List.append_nil]; exact h1) (by rw [List.append_nil]; exact h2) 8 rfl
    rwa [List.append_nil] at this
/-- the least of their lengths is the distance -/
theorem ptP_low {g : List Ed} {a s t : Nat} (ho : ∀ x ∈ g, e_ok x) (hs : s < 8) (ht : t < 8) {Q : List Nat} (hQ : Q ∈ ptP g a s t) : xD g a s t 0 ≤ ptL g a Q ∧ ptL g a Q ≤ 1393 := by
  obtain ⟨h1, h2⟩ := (ptP_mem ho hs).mp hQ
  obtain ⟨l, l1, l2, l3, l4⟩ := pt_wk Q h1
  have a1 := (xD_DD (S := a) (s := s) (rep := 0) ho ht).2.2 l l1 (by rw [l2, h2]) (by omega)
  have a2 := ptL_le ho Q h1
  have a3 := ptV_len ho hs h1
  omega
theorem ptP_att {g : List Ed} {a s t : Nat} (ho : ∀ x ∈ g, e_ok x) (hs : s < 8) (ht : t < 8) (h : xD g a s t 0 < 9999) : ∃ Q ∈ ptP g a s t, ptL g a Q = xD g a s t 0 := by
  obtain ⟨h1, h2, h3⟩ := xD_DD (S := a) (s := s) (rep := 0) ho ht
  rcases h2 with q | ⟨l, l1, l2, l3, l4⟩
  · omega
  · obtain ⟨Q, q1, q2, q3⟩ := wk_pt (a := a) l l1 l3 (by omega)
    have hQ : Q ∈ ptP g a s t := (ptP_mem ho hs).mpr ⟨q1, by rw [q2, l2]⟩
    have := (ptP_low ho hs ht hQ).1
    exact ⟨Q, hQ, by omega⟩
