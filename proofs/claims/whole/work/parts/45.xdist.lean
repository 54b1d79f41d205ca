/-! DISTANCES OF THE CLASS: what they are -/
def wkP (g : List Ed) (S s r v x m : Nat) : Prop := x ≤ 9999 ∧ (x = 9999 ∨ ∃ l, wkV g s l ∧ wkE g s l = v ∧ wkR l ≤ r ∧ wkL g S l = x ∧ ∀ p ∈ l, m.testBit p.1 = true)
theorem wkP_mono {g : List Ed} {S s r r' v x m : Nat} (h : wkP g S s r v x m) (hr : r ≤ r') : wkP g S s r' v x m := by
  obtain ⟨h1, h2⟩ := h
  refine ⟨h1, ?_⟩
  rcases h2 with q | ⟨l, l1, l2, l3, l4⟩
  · exact Or.inl q
  · exact Or.inr ⟨l, l1, l2, by omega, l4⟩
theorem wkP_step {g : List Ed} {S s r x m e : Nat} (b : Bool) (he : e < g.length) (h : wkP g S s r (eF g e) x m) (hx : x + (if b then eL g e else eW g S e) < 9999) : wkP g S s (r + (if b then 1 else 0)) (eT g e) (x + (if b then eL g e else eW g S e)) (m ||| 2 ^ e) := by
  obtain ⟨h1, h2⟩ := h
  refine ⟨by omega, Or.inr ?_⟩
  rcases h2 with q | ⟨l, l1, l2, l3, l4, l5⟩
  · omega
  · refine ⟨(e, b) :: l, ⟨l1, he, l2.symm⟩, rfl, Nat.add_le_add_right l3 _, by show wkL g S l + _ = _; rw [l4], fun p hp => ?_⟩
    rw [Nat.testBit_or]
    rcases List.mem_cons.mp hp with q | q
    · subst q; simp [Nat.testBit_two_pow]
    · rw [l5 p q]; rfl
theorem rx_P {g : List Ed} {S s r : Nat} (ho : ∀ x ∈ g, e_ok x) {e : Nat} (he : e < g.length) {z : Rs} (hs : ∀ v, v < 8 → wkP g S s r v (z.1 v) (z.2.1 v)) : ∀ v, v < 8 → wkP g S s r v ((rx g (eW g S) e z).1 v) ((rx g (eW g S) e z).2.1 v) := by
  intro v hv
  by_cases q : z.1 (eF g e) + eW g S e < z.1 (eT g e)
  · have er : rx g (eW g S) e z = (va_up z.1 (eT g e) (z.1 (eF g e) + eW g S e), va_up z.2.1 (eT g e) (z.2.1 (eF g e) ||| 2 ^ e), true) := if_pos q
    rw [er]
    show wkP g S s r v (va_up z.1 (eT g e) (z.1 (eF g e) + eW g S e) v) (va_up z.2.1 (eT g e) (z.2.1 (eF g e) ||| 2 ^ e) v)
    unfold va_up
    by_cases w : v = eT g e
    · rw [if_pos w, if_pos w, w]
      have hT := hs (eT g e) (e_at ho he).2.1
      have a := wkP_step false he (hs (eF g e) (e_at ho he).1) (by have := hT.1; show z.1 (eF g e) + eW g S e < 9999; omega)
      exact a
    · rw [if_neg w, if_neg w]; exact hs v hv
  · have er : rx g (eW g S) e z = z := if_neg q
    rw [er]; exact hs v hv
theorem rf_P {g : List Ed} {S s r : Nat} (ho : ∀ x ∈ g, e_ok x) : ∀ (k e : Nat) (z : Rs), e + k ≤ g.length → (∀ v, v < 8 → wkP g S s r v (z.1 v) (z.2.1 v)) → ∀ v, v < 8 → wkP g S s r v ((rf g (eW g S) k e z).1 v) ((rf g (eW g S) k e z).2.1 v) := by
  intro k
  induction k with
  | zero => intro e z _ hs; exact hs
  | succ k ih => intro e z hek hs; exact ih (e + 1) (rx g (eW g S) e z) (by omega) (rx_P ho (by omega) hs)
theorem ro_P {g : List Ed} {S s r : Nat} (ho : ∀ x ∈ g, e_ok x) : ∀ (k : Nat) (z : Rs), (∀ v, v < 8 → wkP g S s r v (z.1 v) (z.2.1 v)) → ∀ v, v < 8 → wkP g S s r v ((ro g (eW g S) k z).1 v) ((ro g (eW g S) k z).2.1 v) := by
  intro k
  induction k with
  | zero => intro z hs; exact hs
  | succ k ih =>
    intro z hs
    cases hb : z.2.2 with
    | false =>
      have y : ro g (eW g S) (k + 1) z = z := by show (if z.2.2 then ro g (eW g S) k (rf g (eW g S) g.length 0 (z.1, z.2.1, false)) else z) = z; rw [hb]; rfl
      rw [y]; exact hs
    | true =>
      have y : ro g (eW g S) (k + 1) z = ro g (eW g S) k (rf g (eW g S) g.length 0 (z.1, z.2.1, false)) := by show (if z.2.2 then ro g (eW g S) k (rf g (eW g S) g.length 0 (z.1, z.2.1, false)) else z) = _; rw [hb]; rfl
      rw [y]
      exact ih _ (rf_P ho g.length 0 (z.1, z.2.1, false) (by omega) hs)
theorem rp_P {g : List Ed} {S s r : Nat} (ho : ∀ x ∈ g, e_ok x) {e : Nat} (he : e < g.length) {B z : Du} (hB : ∀ v, v < 8 → wkP g S s r v (B.1 v) (B.2 v)) (hs : ∀ v, v < 8 → wkP g S s (r + 1) v (z.1 v) (z.2 v)) : ∀ v, v < 8 → wkP g S s (r + 1) v ((rp g S B e z).1 v) ((rp g S B e z).2 v) := by
  intro v hv
  by_cases q : S.testBit e = true ∧ B.1 (eF g e) + eL g e < z.1 (eT g e)
  · have er : rp g S B e z = (va_up z.1 (eT g e) (B.1 (eF g e) + eL g e), va_up z.2 (eT g e) (B.2 (eF g e) ||| 2 ^ e)) := if_pos q
    rw [er]
    show wkP g S s (r + 1) v (va_up z.1 (eT g e) (B.1 (eF g e) + eL g e) v) (va_up z.2 (eT g e) (B.2 (eF g e) ||| 2 ^ e) v)
    unfold va_up
    by_cases w : v = eT g e
    · rw [if_pos w, if_pos w, w]
      have hT := hs (eT g e) (e_at ho he).2.1
      have q2 := q.2
      have a := wkP_step true he (hB (eF g e) (e_at ho he).1) (by have := hT.1; show B.1 (eF g e) + eL g e < 9999; omega)
      exact a
    · rw [if_neg w, if_neg w]; exact hs v hv
  · have er : rp g S B e z = z := if_neg q
    rw [er]; exact hs v hv
theorem rpf_P {g : List Ed} {S s r : Nat} (ho : ∀ x ∈ g, e_ok x) {B : Du} (hB : ∀ v, v < 8 → wkP g S s r v (B.1 v) (B.2 v)) : ∀ (k e : Nat) (z : Du), e + k ≤ g.length → (∀ v, v < 8 → wkP g S s (r + 1) v (z.1 v) (z.2 v)) → ∀ v, v < 8 → wkP g S s (r + 1) v ((rpf g S B k e z).1 v) ((rpf g S B k e z).2 v) := by
  intro k
  induction k with
  | zero => intro e z _ hs; exact hs
  | succ k ih => intro e z hek hs; exact ih (e + 1) (rp g S B e z) (by omega) (rp_P ho (by omega) hB hs)
theorem rlay_P {g : List Ed} {S s : Nat} (ho : ∀ x ∈ g, e_ok x) : ∀ k v, v < 8 → wkP g S s k v ((rlay g S s k).1 v) ((rlay g S s k).2 v) := by
  intro k
  induction k with
  | zero =>
    refine ro_P ho 8 (st0 s, fun _ => 0, true) (fun v hv => ?_)
    show wkP g S s 0 v (st0 s v) 0
    unfold st0
    split
    · rename_i q; exact ⟨by omega, Or.inr ⟨[], trivial, q.symm, Nat.le_refl _, rfl, fun p hp => by simp at hp⟩⟩
    · exact ⟨by omega, Or.inl rfl⟩
  | succ k ih =>
    refine ro_P ho 8 ((rpf g S (rlay g S s k) g.length 0 (rlay g S s k)).1, (rpf g S (rlay g S s k) g.length 0 (rlay g S s k)).2, true) ?_
    exact rpf_P ho ih g.length 0 (rlay g S s k) (by omega) (fun v hv => wkP_mono (ih v hv) (by omega))
theorem rp_le {g : List Ed} {S e : Nat} {B z : Du} (v : Nat) : (rp g S B e z).1 v ≤ z.1 v := by
  unfold rp
  split
  · rename_i q
    show va_up z.1 (eT g e) (B.1 (eF g e) + eL g e) v ≤ z.1 v
    unfold va_up
    have q2 := q.2
    split
    · rename_i w; subst w; omega
    · exact Nat.le_refl _
  · exact Nat.le_refl _
theorem rp_rel {g : List Ed} {S e : Nat} {B z : Du} (hS : S.testBit e = true) : (rp g S B e z).1 (eT g e) ≤ B.1 (eF g e) + eL g e := by
  unfold rp
  split
  · show va_up z.1 (eT g e) (B.1 (eF g e) + eL g e) (eT g e) ≤ _
    unfold va_up
    rw [if_pos rfl]
    exact Nat.le_refl _
  · rename_i q
    have : ¬ (B.1 (eF g e) + eL g e < z.1 (eT g e)) := fun w => q ⟨hS, w⟩
    omega
theorem rpf_le {g : List Ed} {S : Nat} {B : Du} : ∀ (k e : Nat) (z : Du) (v : Nat), (rpf g S B k e z).1 v ≤ z.1 v := by
  intro k
  induction k with
  | zero => intro e z v; exact Nat.le_refl _
  | succ k ih => intro e z v; exact Nat.le_trans (ih (e + 1) (rp g S B e z) v) (rp_le v)
theorem rpf_rel {g : List Ed} {S : Nat} {B : Du} : ∀ (k e : Nat) (z : Du) (i : Nat), e ≤ i → i < e + k → S.testBit i = true → (rpf g S B k e z).1 (eT g i) ≤ B.1 (eF g i) + eL g i := by
  intro k
  induction k with
  | zero => intro e z i h1 h2; omega
  | succ k ih =>
    intro e z i h1 h2 hS
    show (rpf g S B k (e + 1) (rp g S B e z)).1 (eT g i) ≤ _
    by_cases q : i = e
    · subst q
      exact Nat.le_trans (rpf_le k (i + 1) (rp g S B i z) (eT g i)) (rp_rel hS)
    · exact ih (e + 1) (rp g S B e z) i (by omega) (by omega) hS
theorem rlay_fix {g : List Ed} {S s : Nat} (ho : ∀ x ∈ g, e_ok x) (k : Nat) : fxd g (eW g S) (rlay g S s k).1 := by
  cases k with
  | zero => exact ro_fix ho (st0 s) (fun _ => 0)
  | succ k => exact ro_fix ho (rpf g S (rlay g S s k) g.length 0 (rlay g S s k)).1 (rpf g S (rlay g S s k) g.length 0 (rlay g S s k)).2
theorem rlay_dec {g : List Ed} {S s : Nat} (k v : Nat) : (rlay g S s (k + 1)).1 v ≤ (rpf g S (rlay g S s k) g.length 0 (rlay g S s k)).1 v := ro_le 8 ((rpf g S (rlay g S s k) g.length 0 (rlay g S s k)).1, (rpf g S (rlay g S s k) g.length 0 (rlay g S s k)).2, true) v
theorem rlay_s {g : List Ed} {S s : Nat} : ∀ k, (rlay g S s k).1 s = 0 := by
  intro k
  induction k with
  | zero =>
    have a : (rlay g S s 0).1 s ≤ st0 s s := ro_le 8 (st0 s, fun _ => 0, true) s
    have b : st0 s s = 0 := if_pos rfl
    omega
  | succ k ih =>
    have a := rlay_dec (g := g) (S := S) (s := s) k s
    have b := rpf_le (g := g) (S := S) (B := rlay g S s k) g.length 0 (rlay g S s k) s
    omega
theorem rlay_low {g : List Ed} {S s : Nat} (ho : ∀ x ∈ g, e_ok x) : ∀ k l, wkV g s l → wkR l ≤ k → (rlay g S s k).1 (wkE g s l) ≤ wkL g S l := by
  intro k
  induction k with
  | zero =>
    intro l
    induction l with
    | nil => intro _ _; show (rlay g S s 0).1 s ≤ 0; rw [rlay_s]; omega
    | cons p l ih =>
      intro hv hr
      obtain ⟨e, b⟩ := p
      obtain ⟨h1, h2, h3⟩ := hv
      have h5 : e < g.length := h2
      have h4 : eF g e = wkE g s l := h3
      cases b with
      | true => exact absurd hr (by show ¬ (wkR l + 1 ≤ 0); omega)
      | false =>
        have a := ih h1 (by have hr2 : wkR l + 0 ≤ 0 := hr; omega)
        have c := rlay_fix (S := S) (s := s) ho 0 e h5
        rw [← h4] at a
        show (rlay g S s 0).1 (eT g e) ≤ wkL g S l + eW g S e
        omega
  | succ k ihk =>
    intro l
    induction l with
    | nil => intro _ _; show (rlay g S s (k + 1)).1 s ≤ 0; rw [rlay_s]; omega
    | cons p l ih =>
      intro hv hr
      obtain ⟨e, b⟩ := p
      obtain ⟨h1, h2, h3⟩ := hv
      have h5 : e < g.length := h2
      have h4 : eF g e = wkE g s l := h3
      have c := rlay_fix (S := S) (s := s) ho (k + 1) e h5
      cases b with
      | true =>
        have hr2 : wkR l + 1 ≤ k + 1 := hr
        show (rlay g S s (k + 1)).1 (eT g e) ≤ wkL g S l + eL g e
        by_cases q : S.testBit e = true
        · have a := ihk l h1 (by omega)
          rw [← h4] at a
          have d1 := rlay_dec (g := g) (S := S) (s := s) k (eT g e)
          have d2 := rpf_rel (g := g) (S := S) (B := rlay g S s k) g.length 0 (rlay g S s k) e (Nat.zero_le _) (by omega) q
          omega
        · have a := ih h1 (by omega)
          rw [← h4] at a
          have w : eW g S e = eL g e := if_neg q
          omega
      | false =>
        have hr2 : wkR l + 0 ≤ k + 1 := hr
        have a := ih h1 (by omega)
        rw [← h4] at a
        show (rlay g S s (k + 1)).1 (eT g e) ≤ wkL g S l + eW g S e
        omega
theorem rlay_low0 {g : List Ed} {s : Nat} (ho : ∀ x ∈ g, e_ok x) : ∀ l, wkV g s l → (rlay g 0 s 0).1 (wkE g s l) ≤ wkL g 0 l := by
  intro l
  induction l with
  | nil => intro _; show (rlay g 0 s 0).1 s ≤ 0; rw [rlay_s]; omega
  | cons p l ih =>
    intro hv
    obtain ⟨e, b⟩ := p
    obtain ⟨h1, h2, h3⟩ := hv
    have h5 : e < g.length := h2
    have h4 : eF g e = wkE g s l := h3
    have a := ih h1
    rw [← h4] at a
    have c := rlay_fix (S := 0) (s := s) ho 0 e h5
    have w : eW g 0 e = eL g e := if_neg (by simp)
    cases b with
    | true => show (rlay g 0 s 0).1 (eT g e) ≤ wkL g 0 l + eL g e; omega
    | false => show (rlay g 0 s 0).1 (eT g e) ≤ wkL g 0 l + eW g 0 e; omega
def xU (g : List Ed) (S s t rep : Nat) : Nat := (rlay g S s (if S = 0 then 0 else rep)).2 t
theorem xD_P {g : List Ed} {S s t rep : Nat} (ho : ∀ x ∈ g, e_ok x) (ht : t < 8) : wkP g S s rep t (xD g S s t rep) (xU g S s t rep) := by
  unfold xD xU
  refine wkP_mono (rlay_P ho _ t ht) ?_
  split <;> omega
theorem xD_DD {g : List Ed} {S s t rep : Nat} (ho : ∀ x ∈ g, e_ok x) (ht : t < 8) : DD g S s t rep (xD g S s t rep) := by
  obtain ⟨h1, h2⟩ := xD_P (S := S) (s := s) (rep := rep) ho ht
  refine ⟨h1, ?_, fun l l1 l2 l3 => ?_⟩
  · rcases h2 with q | ⟨l, l1, l2, l3, l4, l5⟩
    · exact Or.inl q
    · exact Or.inr ⟨l, l1, l2, l3, l4⟩
  · unfold xD
    rw [← l2]
    by_cases q : S = 0
    · subst q; rw [if_pos rfl]; exact rlay_low0 ho l l1
    · rw [if_neg q]; exact rlay_low ho rep l l1 l3
/-- a walk of this length, by edges that are used -/
theorem xU_walk {g : List Ed} {S s t rep : Nat} (ho : ∀ x ∈ g, e_ok x) (ht : t < 8) (h : xD g S s t rep < 9999) : ∃ l, wkV g s l ∧ wkE g s l = t ∧ wkR l ≤ rep ∧ wkL g S l = xD g S s t rep ∧ ∀ p ∈ l, (xU g S s t rep).testBit p.1 = true := by
  obtain ⟨h1, h2⟩ := xD_P (S := S) (s := s) (rep := rep) ho ht
  rcases h2 with q | q
  · omega
  · exact q
