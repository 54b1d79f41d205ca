/-! WALKS: a walk's end, length, repairs; a settled row of distances -/
def wkE (g : List Ed) (s : Nat) : List (Nat × Bool) → Nat
  | [] => s
  | p :: _ => eT g p.1
def wkL (g : List Ed) (S : Nat) : List (Nat × Bool) → Nat
  | [] => 0
  | p :: l => wkL g S l + (if p.2 then eL g p.1 else eW g S p.1)
def wkR : List (Nat × Bool) → Nat
  | [] => 0
  | p :: l => wkR l + (if p.2 then 1 else 0)
def wkV (g : List Ed) (s : Nat) : List (Nat × Bool) → Prop
  | [] => True
  | p :: l => wkV g s l ∧ p.1 < g.length ∧ eF g p.1 = wkE g s l
/-- the distance, by what it is -/
def DD (g : List Ed) (S s t rep x : Nat) : Prop := x ≤ 9999 ∧ (x = 9999 ∨ ∃ l, wkV g s l ∧ wkE g s l = t ∧ wkR l ≤ rep ∧ wkL g S l = x) ∧ ∀ l, wkV g s l → wkE g s l = t → wkR l ≤ rep → x ≤ wkL g S l
theorem DD_u {g : List Ed} {S s t rep x y : Nat} (hx : DD g S s t rep x) (hy : DD g S s t rep y) : x = y := by
  obtain ⟨x1, x2, x3⟩ := hx
  obtain ⟨y1, y2, y3⟩ := hy
  have a : x ≤ y := by
    rcases y2 with q | ⟨l, l1, l2, l3, l4⟩
    · omega
    · rw [← l4]; exact x3 l l1 l2 l3
  have b : y ≤ x := by
    rcases x2 with q | ⟨l, l1, l2, l3, l4⟩
    · omega
    · rw [← l4]; exact y3 l l1 l2 l3
  omega
def jx (g : List Ed) (W D : Nat → Nat) : Nat → Nat → Nat
  | 0, v => D v
  | k + 1, v => if eT g k = v ∧ D (eF g k) + W k < jx g W D k v then D (eF g k) + W k else jx g W D k v
def jB (g : List Ed) (W D : Nat → Nat) : Nat → Nat → Nat
  | 0 => D
  | k + 1 => jx g W (jB g W D k) g.length
theorem jx_le {g : List Ed} {W D : Nat → Nat} : ∀ k v, jx g W D k v ≤ D v := by
  intro k
  induction k with
  | zero => intro v; exact Nat.le_refl _
  | succ k ih =>
    intro v
    have := ih v
    show (if eT g k = v ∧ D (eF g k) + W k < jx g W D k v then D (eF g k) + W k else jx g W D k v) ≤ D v
    split <;> omega
theorem jx_rel {g : List Ed} {W D : Nat → Nat} : ∀ k e, e < k → jx g W D k (eT g e) ≤ D (eF g e) + W e := by
  intro k
  induction k with
  | zero => intro e h; omega
  | succ k ih =>
    intro e h
    show (if eT g k = eT g e ∧ D (eF g k) + W k < jx g W D k (eT g e) then D (eF g k) + W k else jx g W D k (eT g e)) ≤ _
    by_cases q : e = k
    · subst q
      split
      · omega
      · rename_i z
        have : ¬ (D (eF g e) + W e < jx g W D e (eT g e)) := fun w => z ⟨rfl, w⟩
        omega
    · have := ih e (by omega)
      split <;> omega
theorem jx_or {g : List Ed} {W D : Nat → Nat} : ∀ k v, jx g W D k v = D v ∨ ∃ e, e < k ∧ eT g e = v ∧ jx g W D k v = D (eF g e) + W e := by
  intro k
  induction k with
  | zero => intro v; exact Or.inl rfl
  | succ k ih =>
    intro v
    by_cases q : eT g k = v ∧ D (eF g k) + W k < jx g W D k v
    · exact Or.inr ⟨k, by omega, q.1, if_pos q⟩
    · have z : jx g W D (k + 1) v = jx g W D k v := if_neg q
      rw [z]
      rcases ih v with w | ⟨e, e1, e2, e3⟩
      · exact Or.inl w
      · exact Or.inr ⟨e, by omega, e2, e3⟩
theorem pgn : ∀ (n : Nat) (f : Nat → Nat), (∀ i, i ≤ n → f i < n) → ∃ i j, i < j ∧ j ≤ n ∧ f i = f j := by
  intro n
  induction n with
  | zero => intro f hf; exact absurd (hf 0 (Nat.le_refl _)) (by omega)
  | succ n ih =>
    intro f hf
    by_cases q : ∃ i, i ≤ n ∧ f i = f (n + 1)
    · obtain ⟨i, h1, h2⟩ := q
      exact ⟨i, n + 1, by omega, Nat.le_refl _, h2⟩
    · have hq : ∀ i, i ≤ n → f i ≠ f (n + 1) := fun i h1 h2 => q ⟨i, h1, h2⟩
      obtain ⟨i, j, h1, h2, h3⟩ := ih (fun i => if f i = n then f (n + 1) else f i) (fun i hi => by
        have a := hf i (by omega)
        have b := hf (n + 1) (Nat.le_refl _)
        have c := hq i hi
        show (if f i = n then f (n + 1) else f i) < n
        split <;> omega)
      refine ⟨i, j, h1, by omega, ?_⟩
      have c1 := hq i (by omega)
      have c2 := hq j (by omega)
      split at h3 <;> split at h3 <;> omega
theorem jB_chain {g : List Ed} {W D : Nat → Nat} (hF : ∀ e, e < g.length → eF g e < 8) : ∀ k v, v < 8 → jB g W D (k + 1) v < jB g W D k v → ∃ f : Nat → Nat, f (k + 1) = v ∧ (∀ i, i ≤ k + 1 → f i < 8) ∧ (∀ i, i ≤ k → jB g W D (i + 1) (f (i + 1)) < jB g W D i (f (i + 1))) ∧ ∀ i, i ≤ k → jB g W D i (f i) ≤ jB g W D (i + 1) (f (i + 1)) := by
  intro k
  induction k with
  | zero =>
    intro v hv hlt
    rcases jx_or (g := g) (W := W) (D := D) g.length v with q | ⟨e, e1, e2, e3⟩
    · have q2 : jB g W D (0 + 1) v = jB g W D 0 v := q
      omega
    · have e4 : jB g W D (0 + 1) v = jB g W D 0 (eF g e) + W e := e3
      refine ⟨fun i => if i = 0 then eF g e else v, rfl, fun i hi => ?_, fun i hi => ?_, fun i hi => ?_⟩
      · show (if i = 0 then eF g e else v) < 8
        have := hF e e1
        split <;> omega
      · obtain rfl : i = 0 := by omega
        exact hlt
      · obtain rfl : i = 0 := by omega
        show jB g W D 0 (eF g e) ≤ jB g W D (0 + 1) v
        omega
  | succ k ih =>
    intro v hv hlt
    rcases jx_or (g := g) (W := W) (D := jB g W D (k + 1)) g.length v with q | ⟨e, e1, e2, e3⟩
    · have q2 : jB g W D (k + 1 + 1) v = jB g W D (k + 1) v := q
      omega
    · have e4 : jB g W D (k + 1 + 1) v = jB g W D (k + 1) (eF g e) + W e := e3
      have e5 : jB g W D (k + 1) (eT g e) ≤ jB g W D k (eF g e) + W e := jx_rel g.length e e1
      rw [e2] at e5
      obtain ⟨f, f1, f2, f3, f4⟩ := ih (eF g e) (hF e e1) (by omega)
      refine ⟨fun i => if i = k + 1 + 1 then v else f i, if_pos rfl, fun i hi => ?_, fun i hi => ?_, fun i hi => ?_⟩
      · show (if i = k + 1 + 1 then v else f i) < 8
        split
        · exact hv
        · exact f2 i (by omega)
      · show jB g W D (i + 1) (if i + 1 = k + 1 + 1 then v else f (i + 1)) < jB g W D i (if i + 1 = k + 1 + 1 then v else f (i + 1))
        by_cases q : i = k + 1
        · subst q; rw [if_pos rfl]; exact hlt
        · rw [if_neg (by omega)]; exact f3 i (by omega)
      · show jB g W D i (if i = k + 1 + 1 then v else f i) ≤ jB g W D (i + 1) (if i + 1 = k + 1 + 1 then v else f (i + 1))
        rw [if_neg (by omega)]
        by_cases q : i = k + 1
        · subst q; rw [if_pos rfl, f1]; omega
        · rw [if_neg (by omega)]; exact f4 i (by omega)
theorem jB_mono {g : List Ed} {W D : Nat → Nat} (v i : Nat) : ∀ j, jB g W D (i + j) v ≤ jB g W D i v := by
  intro j
  induction j with
  | zero => exact Nat.le_refl _
  | succ j ih => exact Nat.le_trans (jx_le g.length v) ih
theorem jB_fix {g : List Ed} {W D : Nat → Nat} (hF : ∀ e, e < g.length → eF g e < 8) {v : Nat} (hv : v < 8) : jB g W D 8 v = jB g W D 7 v := by
  have h1 : jB g W D 8 v ≤ jB g W D 7 v := jx_le g.length v
  rcases Nat.lt_or_ge (jB g W D 8 v) (jB g W D 7 v) with q | q
  · exfalso
    obtain ⟨f, f1, f2, f3, f4⟩ := jB_chain hF 7 v hv q
    have up : ∀ i j, i + j ≤ 8 → jB g W D i (f i) ≤ jB g W D (i + j) (f (i + j)) := by
      intro i j
      induction j with
      | zero => intro _; exact Nat.le_refl _
      | succ j ih => intro hj; exact Nat.le_trans (ih (by omega)) (f4 (i + j) (by omega))
    obtain ⟨i, j, i1, i2, i3⟩ := pgn 8 f f2
    obtain ⟨k, rfl⟩ : ∃ k, j = i + k + 1 := ⟨j - i - 1, by omega⟩
    have a := up i (k + 1) (by omega)
    have b := f3 (i + k) (by omega)
    have c := jB_mono (g := g) (W := W) (D := D) (f (i + k + 1)) i k
    rw [← Nat.add_assoc] at a
    rw [i3] at a
    omega
  · omega
/-- nothing more to relax -/
def fxd (g : List Ed) (W D : Nat → Nat) : Prop := ∀ e, e < g.length → D (eT g e) ≤ D (eF g e) + W e
theorem rx_le {g : List Ed} {W : Nat → Nat} {e : Nat} {s : Rs} (v : Nat) : (rx g W e s).1 v ≤ s.1 v := by
  unfold rx
  split
  · show va_up s.1 (eT g e) (s.1 (eF g e) + W e) v ≤ s.1 v
    unfold va_up
    split
    · rename_i q; subst q; omega
    · exact Nat.le_refl _
  · exact Nat.le_refl _
theorem rx_rel {g : List Ed} {W : Nat → Nat} {e : Nat} {s : Rs} : (rx g W e s).1 (eT g e) ≤ s.1 (eF g e) + W e := by
  unfold rx
  split
  · show va_up s.1 (eT g e) (s.1 (eF g e) + W e) (eT g e) ≤ s.1 (eF g e) + W e
    unfold va_up
    rw [if_pos rfl]
    exact Nat.le_refl _
  · omega
theorem rf_le {g : List Ed} {W : Nat → Nat} : ∀ (k e : Nat) (s : Rs) (v : Nat), (rf g W k e s).1 v ≤ s.1 v := by
  intro k
  induction k with
  | zero => intro e s v; exact Nat.le_refl _
  | succ k ih => intro e s v; exact Nat.le_trans (ih (e + 1) (rx g W e s) v) (rx_le v)
theorem rf_rel {g : List Ed} {W : Nat → Nat} : ∀ (k e : Nat) (s : Rs) (i : Nat), e ≤ i → i < e + k → (rf g W k e s).1 (eT g i) ≤ s.1 (eF g i) + W i := by
  intro k
  induction k with
  | zero => intro e s i h1 h2; omega
  | succ k ih =>
    intro e s i h1 h2
    show (rf g W k (e + 1) (rx g W e s)).1 (eT g i) ≤ _
    by_cases q : i = e
    · subst q
      exact Nat.le_trans (rf_le k (i + 1) (rx g W i s) (eT g i)) rx_rel
    · have a := ih (e + 1) (rx g W e s) i (by omega) (by omega)
      have b := rx_le (g := g) (W := W) (e := e) (s := s) (eF g i)
      omega
theorem rx_sub {g : List Ed} {W C : Nat → Nat} (hC : fxd g W C) (ho : ∀ x ∈ g, e_ok x) {e : Nat} (he : e < g.length) {s : Rs} (hs : ∀ v, v < 8 → C v ≤ s.1 v) : ∀ v, v < 8 → C v ≤ (rx g W e s).1 v := by
  intro v hv
  unfold rx
  split
  · show C v ≤ va_up s.1 (eT g e) (s.1 (eF g e) + W e) v
    unfold va_up
    split
    · rename_i q; subst q
      have a := hC e he
      have b := hs (eF g e) (e_at ho he).1
      omega
    · exact hs v hv
  · exact hs v hv
theorem rf_sub {g : List Ed} {W C : Nat → Nat} (hC : fxd g W C) (ho : ∀ x ∈ g, e_ok x) : ∀ (k e : Nat) (s : Rs), e + k ≤ g.length → (∀ v, v < 8 → C v ≤ s.1 v) → ∀ v, v < 8 → C v ≤ (rf g W k e s).1 v := by
  intro k
  induction k with
  | zero => intro e s _ hs; exact hs
  | succ k ih => intro e s hek hs; exact ih (e + 1) (rx g W e s) (by omega) (rx_sub hC ho (by omega) hs)
theorem rf_true {g : List Ed} {W : Nat → Nat} : ∀ (k e : Nat) (s : Rs), s.2.2 = true → (rf g W k e s).2.2 = true := by
  intro k
  induction k with
  | zero => intro e s hs; exact hs
  | succ k ih =>
    intro e s hs
    refine ih (e + 1) (rx g W e s) ?_
    unfold rx
    split
    · rfl
    · exact hs
theorem rf_false {g : List Ed} {W : Nat → Nat} : ∀ (k e : Nat) (s : Rs), (rf g W k e s).2.2 = false → rf g W k e s = s ∧ ∀ i, e ≤ i → i < e + k → s.1 (eT g i) ≤ s.1 (eF g i) + W i := by
  intro k
  induction k with
  | zero => intro e s _; exact ⟨rfl, fun i h1 h2 => by omega⟩
  | succ k ih =>
    intro e s hs
    have hs2 : (rf g W k (e + 1) (rx g W e s)).2.2 = false := hs
    by_cases q : s.1 (eF g e) + W e < s.1 (eT g e)
    · have z : (rx g W e s).2.2 = true := by unfold rx; rw [if_pos q]
      rw [rf_true k (e + 1) _ z] at hs2
      exact absurd hs2 (by simp)
    · have z : rx g W e s = s := if_neg q
      rw [z] at hs2
      obtain ⟨a, b⟩ := ih (e + 1) s hs2
      refine ⟨by show rf g W k (e + 1) (rx g W e s) = s; rw [z]; exact a, fun i h1 h2 => ?_⟩
      by_cases w : i = e
      · subst w; omega
      · exact b i (by omega) (by omega)
theorem ro_le {g : List Ed} {W : Nat → Nat} : ∀ (k : Nat) (s : Rs) (v : Nat), (ro g W k s).1 v ≤ s.1 v := by
  intro k
  induction k with
  | zero => intro s v; exact Nat.le_refl _
  | succ k ih =>
    intro s v
    show (if s.2.2 then ro g W k (rf g W g.length 0 (s.1, s.2.1, false)) else s).1 v ≤ s.1 v
    split
    · exact Nat.le_trans (ih _ v) (rf_le g.length 0 (s.1, s.2.1, false) v)
    · exact Nat.le_refl _
theorem ro_sub {g : List Ed} {W C : Nat → Nat} (hC : fxd g W C) (ho : ∀ x ∈ g, e_ok x) : ∀ (k : Nat) (s : Rs), (∀ v, v < 8 → C v ≤ s.1 v) → ∀ v, v < 8 → C v ≤ (ro g W k s).1 v := by
  intro k
  induction k with
  | zero => intro s hs; exact hs
  | succ k ih =>
    intro s hs v hv
    show C v ≤ (if s.2.2 then ro g W k (rf g W g.length 0 (s.1, s.2.1, false)) else s).1 v
    split
    · exact ih _ (rf_sub hC ho g.length 0 (s.1, s.2.1, false) (by omega) hs) v hv
    · exact hs v hv
theorem ro_b {g : List Ed} {W D : Nat → Nat} (ho : ∀ x ∈ g, e_ok x) : ∀ (k j : Nat) (s : Rs), (s.2.2 = false → fxd g W s.1) → (∀ v, v < 8 → s.1 v ≤ jB g W D j v) → fxd g W (ro g W k s).1 ∨ ∀ v, v < 8 → (ro g W k s).1 v ≤ jB g W D (j + k) v := by
  intro k
  induction k with
  | zero => intro j s _ hs; exact Or.inr hs
  | succ k ih =>
    intro j s hf hs
    cases hb : s.2.2 with
    | false =>
      have z : ro g W (k + 1) s = s := by show (if s.2.2 then ro g W k (rf g W g.length 0 (s.1, s.2.1, false)) else s) = s; rw [hb]; rfl
      rw [z]
      exact Or.inl (hf hb)
    | true =>
      have z : ro g W (k + 1) s = ro g W k (rf g W g.length 0 (s.1, s.2.1, false)) := by show (if s.2.2 then ro g W k (rf g W g.length 0 (s.1, s.2.1, false)) else s) = _; rw [hb]; rfl
      rw [z]
      have w := ih (j + 1) (rf g W g.length 0 (s.1, s.2.1, false)) (fun hq => by
        obtain ⟨a, b⟩ := rf_false g.length 0 (s.1, s.2.1, false) hq
        rw [a]
        exact fun e he => b e (Nat.zero_le _) (by omega)) (fun v hv => by
        rcases jx_or (g := g) (W := W) (D := jB g W D j) g.length v with q | ⟨e, e1, e2, e3⟩
        · have q2 : jB g W D (j + 1) v = jB g W D j v := q
          rw [q2]
          exact Nat.le_trans (rf_le g.length 0 (s.1, s.2.1, false) v) (hs v hv)
        · have q2 : jB g W D (j + 1) v = jB g W D j (eF g e) + W e := e3
          rw [q2, ← e2]
          have a := rf_rel g.length 0 (s.1, s.2.1, false) e (Nat.zero_le _) (by omega) (W := W) (g := g)
          have b := hs (eF g e) (e_at ho e1).1
          exact Nat.le_trans a (Nat.add_le_add_right b _))
      rw [show j + (k + 1) = j + 1 + k by omega]
      exact w
theorem ro_fix {g : List Ed} {W : Nat → Nat} (ho : ∀ x ∈ g, e_ok x) (D U : Nat → Nat) : fxd g W (ro g W 8 (D, U, true)).1 := by
  have hF : ∀ e, e < g.length → eF g e < 8 := fun e he => (e_at ho he).1
  have hC : fxd g W (jB g W D 7) := fun e he => by
    rw [← jB_fix hF (e_at ho he).2.1]
    exact jx_rel g.length e he
  rcases ro_b (D := D) ho 8 0 (D, U, true) (fun q => absurd q (by simp)) (fun v _ => Nat.le_refl _) with q | q
  · exact q
  · have lo := ro_sub hC ho 8 (D, U, true) (fun v _ => by have := jB_mono (g := g) (W := W) (D := D) v 0 7; exact this)
    have e : ∀ v, v < 8 → (ro g W 8 (D, U, true)).1 v = jB g W D 7 v := fun v hv => by
      have a := q v hv
      have b := lo v hv
      rw [show 0 + 8 = 8 from rfl, jB_fix hF hv] at a
      omega
    intro i hi
    rw [e _ (e_at ho hi).1, e _ (e_at ho hi).2.1]
    exact hC i hi
