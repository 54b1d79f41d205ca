/-! DISTANCES OF THE REFERENCE: what they are -/
def MI (g : List Ed) (S s : Nat) (A : Nat → Nat) : Prop := A (4 * s) = 0 ∧ ∀ v r, v < 8 → r < 4 → A (4 * v + r) ≤ 9999 ∧ (A (4 * v + r) = 9999 ∨ ∃ l, wkV g s l ∧ wkE g s l = v ∧ wkR l = r ∧ wkL g S l = A (4 * v + r))
def FX (g : List Ed) (S rep : Nat) (A : Nat → Nat) : Prop := ∀ e r, e < g.length → r ≤ rep → A (4 * eT g e + r) ≤ A (4 * eF g e + r) + eW g S e ∧ (r < rep → A (4 * eT g e + r + 1) ≤ A (4 * eF g e + r) + eL g e)
def smA (A : Nat → Nat) : Nat → Nat
  | 0 => 0
  | k + 1 => smA A k + A k
theorem smA_le {A B : Nat → Nat} (h : ∀ j, B j ≤ A j) : ∀ n, smA B n ≤ smA A n := by
  intro n
  induction n with
  | zero => exact Nat.le_refl _
  | succ n ih => have := h n; show smA B n + B n ≤ smA A n + A n; omega
theorem smA_lt {A B : Nat → Nat} (h : ∀ j, B j ≤ A j) {k : Nat} (hk : B k < A k) : ∀ n, k < n → smA B n < smA A n := by
  intro n
  induction n with
  | zero => intro q; omega
  | succ n ih =>
    intro q
    have a := h n
    have b := smA_le h n
    show smA B n + B n < smA A n + A n
    by_cases w : k = n
    · subst w; omega
    · have := ih (by omega); omega
theorem wx_le {A : Nat → Nat} {k x : Nat} (j : Nat) : wx k x A j ≤ A j := by
  unfold wx
  split
  · unfold va_up
    split
    · rename_i q; subst q; omega
    · exact Nat.le_refl _
  · exact Nat.le_refl _
theorem wx_at {A : Nat → Nat} {k x : Nat} (h : x < A k) : wx k x A k < A k := by
  unfold wx
  rw [if_pos h]
  unfold va_up
  rw [if_pos rfl]
  exact h
theorem wx_no {A : Nat → Nat} {k x : Nat} (h : ¬ x < A k) : wx k x A = A := if_neg h
theorem MI_wx {g : List Ed} {S s : Nat} {A : Nat → Nat} (h : MI g S s A) {v r x : Nat} (hr : r < 4) (hw : ∃ l, wkV g s l ∧ wkE g s l = v ∧ wkR l = r ∧ wkL g S l = x) : MI g S s (wx (4 * v + r) x A) := by
  by_cases q : x < A (4 * v + r)
  · refine ⟨by have a := wx_le (A := A) (k := 4 * v + r) (x := x) (4 * s); have := h.1; omega, fun v2 r2 hv2 hr2 => ?_⟩
    have e : wx (4 * v + r) x A = va_up A (4 * v + r) x := if_pos q
    rw [e]
    unfold va_up
    by_cases w : 4 * v2 + r2 = 4 * v + r
    · rw [if_pos w]
      obtain rfl : r2 = r := by omega
      obtain rfl : v2 = v := by omega
      exact ⟨by have := (h.2 v2 r2 hv2 hr2).1; omega, Or.inr hw⟩
    · rw [if_neg w]; exact h.2 v2 r2 hv2 hr2
  · rw [wx_no q]; exact h
theorem MI_wb {g : List Ed} {S s rep e r : Nat} (ho : ∀ x ∈ g, e_ok x) (he : e < g.length) (hrep : rep ≤ 3) (hr : r ≤ rep) {z : Ws} (h : MI g S s z.1) : MI g S s (wb g S rep e r z).1 := by
  unfold wb
  split
  · rename_i q
    rcases (h.2 (eF g e) r (e_at ho he).1 (by omega)).2 with w | ⟨l, l1, l2, l3, l4⟩
    · omega
    · have a1 : MI g S s (if eW g S e < 9999 then wx (4 * eT g e + r) (z.1 (4 * eF g e + r) + eW g S e) z.1 else z.1) := by
        split
        · exact MI_wx h (by omega) ⟨(e, false) :: l, ⟨l1, he, l2.symm⟩, rfl, l3, by show wkL g S l + _ = _; rw [l4]; rfl⟩
        · exact h
      show MI g S s (if r < rep then wx (4 * eT g e + r + 1) (z.1 (4 * eF g e + r) + eL g e) (if eW g S e < 9999 then wx (4 * eT g e + r) (z.1 (4 * eF g e + r) + eW g S e) z.1 else z.1) else (if eW g S e < 9999 then wx (4 * eT g e + r) (z.1 (4 * eF g e + r) + eW g S e) z.1 else z.1))
      by_cases y : r < rep
      · rw [if_pos y]
        exact MI_wx (r := r + 1) a1 (by omega) ⟨(e, true) :: l, ⟨l1, he, l2.symm⟩, rfl, by show wkR l + 1 = r + 1; rw [l3], by show wkL g S l + _ = _; rw [l4]; rfl⟩
      · rw [if_neg y]; exact a1
  · exact h
theorem MI_wr {g : List Ed} {S s rep e : Nat} (ho : ∀ x ∈ g, e_ok x) (he : e < g.length) (hrep : rep ≤ 3) : ∀ (k r : Nat) (z : Ws), r + k ≤ rep + 1 → MI g S s z.1 → MI g S s (wr g S rep e k r z).1 := by
  intro k
  induction k with
  | zero => intro r z _ h; exact h
  | succ k ih => intro r z hk h; exact ih (r + 1) (wb g S rep e r z) (by omega) (MI_wb ho he hrep (by omega) h)
theorem MI_we {g : List Ed} {S s rep : Nat} (ho : ∀ x ∈ g, e_ok x) (hrep : rep ≤ 3) : ∀ (k e : Nat) (z : Ws), e + k ≤ g.length → MI g S s z.1 → MI g S s (we g S rep k e z).1 := by
  intro k
  induction k with
  | zero => intro e z _ h; exact h
  | succ k ih => intro e z hk h; exact ih (e + 1) (wr g S rep e (rep + 1) 0 z) (by omega) (MI_wr ho (by omega) hrep (rep + 1) 0 z (by omega) h)
theorem wb_le {g : List Ed} {S rep e r : Nat} {z : Ws} (j : Nat) : (wb g S rep e r z).1 j ≤ z.1 j := by
  unfold wb
  split
  · have a1 : (if eW g S e < 9999 then wx (4 * eT g e + r) (z.1 (4 * eF g e + r) + eW g S e) z.1 else z.1) j ≤ z.1 j := by
      split
      · exact wx_le j
      · exact Nat.le_refl _
    show (if r < rep then wx (4 * eT g e + r + 1) (z.1 (4 * eF g e + r) + eL g e) (if eW g S e < 9999 then wx (4 * eT g e + r) (z.1 (4 * eF g e + r) + eW g S e) z.1 else z.1) else (if eW g S e < 9999 then wx (4 * eT g e + r) (z.1 (4 * eF g e + r) + eW g S e) z.1 else z.1)) j ≤ z.1 j
    by_cases y : r < rep
    · rw [if_pos y]; exact Nat.le_trans (wx_le j) a1
    · rw [if_neg y]; exact a1
  · exact Nat.le_refl _
theorem wb_tf {g : List Ed} {S rep e r : Nat} {A : Nat → Nat} {b : Bool} (hT : eT g e < 8) (hF : eF g e < 8) (h9 : ∀ j, j < 32 → A j ≤ 9999) (hrep : rep ≤ 3) (hr : r ≤ rep) : (wb g S rep e r (A, b) = (A, b) ∧ A (4 * eT g e + r) ≤ A (4 * eF g e + r) + eW g S e ∧ (r < rep → A (4 * eT g e + r + 1) ≤ A (4 * eF g e + r) + eL g e)) ∨ ((wb g S rep e r (A, b)).2 = true ∧ ∃ j, j < 32 ∧ (wb g S rep e r (A, b)).1 j < A j) := by
  have n1 := h9 (4 * eT g e + r) (by omega)
  by_cases q : A (4 * eF g e + r) < 9999
  · by_cases o1 : eW g S e < 9999 ∧ A (4 * eF g e + r) + eW g S e < A (4 * eT g e + r)
    · refine Or.inr ?_
      have ew : wb g S rep e r (A, b) = (if r < rep then wx (4 * eT g e + r + 1) (A (4 * eF g e + r) + eL g e) (wx (4 * eT g e + r) (A (4 * eF g e + r) + eW g S e) A) else wx (4 * eT g e + r) (A (4 * eF g e + r) + eW g S e) A, b || true || decide (r < rep ∧ A (4 * eF g e + r) + eL g e < (wx (4 * eT g e + r) (A (4 * eF g e + r) + eW g S e) A) (4 * eT g e + r + 1))) := by
        unfold wb; rw [if_pos q]; simp only [if_pos o1.1, decide_eq_true o1]
      rw [ew]
      refine ⟨by simp, 4 * eT g e + r, by omega, ?_⟩
      have c := wx_at (A := A) o1.2
      show (if r < rep then wx (4 * eT g e + r + 1) (A (4 * eF g e + r) + eL g e) (wx (4 * eT g e + r) (A (4 * eF g e + r) + eW g S e) A) else wx (4 * eT g e + r) (A (4 * eF g e + r) + eW g S e) A) (4 * eT g e + r) < A (4 * eT g e + r)
      split
      · exact Nat.lt_of_le_of_lt (wx_le _) c
      · exact c
    · have eA : (if eW g S e < 9999 then wx (4 * eT g e + r) (A (4 * eF g e + r) + eW g S e) A else A) = A := by
        split
        · rename_i w; exact wx_no (fun y => o1 ⟨w, y⟩)
        · rfl
      have ew : wb g S rep e r (A, b) = (if r < rep then wx (4 * eT g e + r + 1) (A (4 * eF g e + r) + eL g e) A else A, b || false || decide (r < rep ∧ A (4 * eF g e + r) + eL g e < A (4 * eT g e + r + 1))) := by
        unfold wb; rw [if_pos q]; simp only [eA, decide_eq_false o1]
      by_cases o2 : r < rep ∧ A (4 * eF g e + r) + eL g e < A (4 * eT g e + r + 1)
      · refine Or.inr ?_
        rw [ew, decide_eq_true o2, if_pos o2.1]
        exact ⟨by simp, 4 * eT g e + r + 1, by omega, wx_at o2.2⟩
      · refine Or.inl ⟨?_, ?_, fun y => ?_⟩
        · rw [ew, decide_eq_false o2, Bool.or_false, Bool.or_false]
          split
          · rename_i w; rw [wx_no (fun y => o2 ⟨w, y⟩)]
          · rfl
        · by_cases w : eW g S e < 9999
          · have : ¬ (A (4 * eF g e + r) + eW g S e < A (4 * eT g e + r)) := fun y => o1 ⟨w, y⟩
            omega
          · omega
        · have : ¬ (A (4 * eF g e + r) + eL g e < A (4 * eT g e + r + 1)) := fun w => o2 ⟨y, w⟩
          omega
  · refine Or.inl ⟨by unfold wb; rw [if_neg q], by omega, fun y => ?_⟩
    have := h9 (4 * eT g e + r + 1) (by omega)
    omega
theorem wb_true {g : List Ed} {S rep e r : Nat} {z : Ws} (h : z.2 = true) : (wb g S rep e r z).2 = true := by
  unfold wb
  split
  · show (z.2 || _ || _) = true; rw [h]; rfl
  · exact h
theorem wr_true {g : List Ed} {S rep e : Nat} : ∀ (k r : Nat) (z : Ws), z.2 = true → (wr g S rep e k r z).2 = true := by
  intro k
  induction k with
  | zero => intro r z h; exact h
  | succ k ih => intro r z h; exact ih (r + 1) (wb g S rep e r z) (wb_true h)
theorem we_true {g : List Ed} {S rep : Nat} : ∀ (k e : Nat) (z : Ws), z.2 = true → (we g S rep k e z).2 = true := by
  intro k
  induction k with
  | zero => intro e z h; exact h
  | succ k ih => intro e z h; exact ih (e + 1) (wr g S rep e (rep + 1) 0 z) (wr_true (rep + 1) 0 z h)
theorem wr_le {g : List Ed} {S rep e : Nat} : ∀ (k r : Nat) (z : Ws) (j : Nat), (wr g S rep e k r z).1 j ≤ z.1 j := by
  intro k
  induction k with
  | zero => intro r z j; exact Nat.le_refl _
  | succ k ih => intro r z j; exact Nat.le_trans (ih (r + 1) (wb g S rep e r z) j) (wb_le j)
theorem we_le {g : List Ed} {S rep : Nat} : ∀ (k e : Nat) (z : Ws) (j : Nat), (we g S rep k e z).1 j ≤ z.1 j := by
  intro k
  induction k with
  | zero => intro e z j; exact Nat.le_refl _
  | succ k ih => intro e z j; exact Nat.le_trans (ih (e + 1) (wr g S rep e (rep + 1) 0 z) j) (wr_le (rep + 1) 0 z j)
theorem wr_tf {g : List Ed} {S rep e : Nat} (hT : eT g e < 8) (hF : eF g e < 8) (hrep : rep ≤ 3) {A : Nat → Nat} {b : Bool} (h9 : ∀ j, j < 32 → A j ≤ 9999) : ∀ (k r : Nat), r + k ≤ rep + 1 → (wr g S rep e k r (A, b) = (A, b) ∧ ∀ i, r ≤ i → i < r + k → A (4 * eT g e + i) ≤ A (4 * eF g e + i) + eW g S e ∧ (i < rep → A (4 * eT g e + i + 1) ≤ A (4 * eF g e + i) + eL g e)) ∨ ((wr g S rep e k r (A, b)).2 = true ∧ ∃ j, j < 32 ∧ (wr g S rep e k r (A, b)).1 j < A j) := by
  intro k
  induction k with
  | zero => intro r _; exact Or.inl ⟨rfl, fun i h1 h2 => by omega⟩
  | succ k ih =>
    intro r hk
    have eq : wr g S rep e (k + 1) r (A, b) = wr g S rep e k (r + 1) (wb g S rep e r (A, b)) := rfl
    rw [eq]
    rcases wb_tf (b := b) hT hF h9 hrep (show r ≤ rep by omega) (S := S) with ⟨a1, a2, a3⟩ | ⟨a1, j, a2, a3⟩
    · rw [a1]
      rcases ih (r + 1) (by omega) with ⟨b1, b2⟩ | w
      · refine Or.inl ⟨b1, fun i h1 h2 => ?_⟩
        by_cases y : i = r
        · subst y; exact ⟨a2, a3⟩
        · exact b2 i (by omega) (by omega)
      · exact Or.inr w
    · exact Or.inr ⟨wr_true k (r + 1) _ a1, j, a2, Nat.lt_of_le_of_lt (wr_le k (r + 1) _ j) a3⟩
theorem we_tf {g : List Ed} {S rep : Nat} (ho : ∀ x ∈ g, e_ok x) (hrep : rep ≤ 3) {A : Nat → Nat} {b : Bool} (h9 : ∀ j, j < 32 → A j ≤ 9999) : ∀ (k e : Nat), e + k ≤ g.length → (we g S rep k e (A, b) = (A, b) ∧ ∀ f i, e ≤ f → f < e + k → i ≤ rep → A (4 * eT g f + i) ≤ A (4 * eF g f + i) + eW g S f ∧ (i < rep → A (4 * eT g f + i + 1) ≤ A (4 * eF g f + i) + eL g f)) ∨ ((we g S rep k e (A, b)).2 = true ∧ ∃ j, j < 32 ∧ (we g S rep k e (A, b)).1 j < A j) := by
  intro k
  induction k with
  | zero => intro e _; exact Or.inl ⟨rfl, fun f i h1 h2 => by omega⟩
  | succ k ih =>
    intro e hk
    have eq : we g S rep (k + 1) e (A, b) = we g S rep k (e + 1) (wr g S rep e (rep + 1) 0 (A, b)) := rfl
    rw [eq]
    have hok := e_at ho (show e < g.length by omega)
    rcases wr_tf (b := b) hok.2.1 hok.1 hrep h9 (S := S) (rep + 1) 0 (by omega) with ⟨a1, a2⟩ | ⟨a1, j, a2, a3⟩
    · rw [a1]
      rcases ih (e + 1) (by omega) with ⟨b1, b2⟩ | w
      · refine Or.inl ⟨b1, fun f i h1 h2 h3 => ?_⟩
        by_cases y : f = e
        · subst y; exact a2 i (by omega) (by omega)
        · exact b2 f i (by omega) (by omega) h3
      · exact Or.inr w
    · exact Or.inr ⟨we_true k (e + 1) _ a1, j, a2, Nat.lt_of_le_of_lt (we_le k (e + 1) _ j) a3⟩
theorem MI_low {g : List Ed} {S s rep : Nat} {A : Nat → Nat} (h : MI g S s A) (hf : FX g S rep A) : ∀ l, wkV g s l → wkR l ≤ rep → A (4 * wkE g s l + wkR l) ≤ wkL g S l := by
  intro l
  induction l with
  | nil => intro _ _; show A (4 * s + 0) ≤ 0; rw [Nat.add_zero, h.1]; exact Nat.le_refl _
  | cons p l ih =>
    intro hv hr
    obtain ⟨e, b⟩ := p
    obtain ⟨h1, h2, h3⟩ := hv
    have h4 : eF g e = wkE g s l := h3
    have h5 : e < g.length := h2
    cases b with
    | true =>
      have hr2 : wkR l + 1 ≤ rep := hr
      have a := ih h1 (by omega)
      rw [← h4] at a
      have c := (hf e (wkR l) h5 (by omega)).2 (by omega)
      show A (4 * eT g e + (wkR l + 1)) ≤ wkL g S l + eL g e
      rw [← Nat.add_assoc]
      omega
    | false =>
      have hr2 : wkR l + 0 ≤ rep := hr
      have a := ih h1 (by omega)
      rw [← h4] at a
      have c := (hf e (wkR l) h5 (by omega)).1
      show A (4 * eT g e + (wkR l + 0)) ≤ wkL g S l + eW g S e
      rw [Nat.add_zero]
      omega
def mnA (A : Nat → Nat) (t : Nat) : Nat → Nat
  | 0 => 9999
  | k + 1 => if A (4 * t + k) < mnA A t k then A (4 * t + k) else mnA A t k
theorem mnA_le {A : Nat → Nat} {t : Nat} : ∀ k, mnA A t k ≤ 9999 ∧ ∀ r, r < k → mnA A t k ≤ A (4 * t + r) := by
  intro k
  induction k with
  | zero => exact ⟨Nat.le_refl _, fun r h => by omega⟩
  | succ k ih =>
    show (if A (4 * t + k) < mnA A t k then A (4 * t + k) else mnA A t k) ≤ 9999 ∧ ∀ r, r < k + 1 → (if A (4 * t + k) < mnA A t k then A (4 * t + k) else mnA A t k) ≤ A (4 * t + r)
    have a := ih.1
    refine ⟨by split <;> omega, fun r hr => ?_⟩
    by_cases q : r = k
    · subst q; split <;> omega
    · have b := ih.2 r (by omega)
      split <;> omega
theorem mnA_or {A : Nat → Nat} {t : Nat} : ∀ k, mnA A t k = 9999 ∨ ∃ r, r < k ∧ mnA A t k = A (4 * t + r) := by
  intro k
  induction k with
  | zero => exact Or.inl rfl
  | succ k ih =>
    by_cases q : A (4 * t + k) < mnA A t k
    · exact Or.inr ⟨k, by omega, if_pos q⟩
    · have e : mnA A t (k + 1) = mnA A t k := if_neg q
      rw [e]
      rcases ih with w | ⟨r, r1, r2⟩
      · exact Or.inl w
      · exact Or.inr ⟨r, by omega, r2⟩
theorem mnA_DD {g : List Ed} {S s t rep : Nat} {A : Nat → Nat} (ht : t < 8) (hrep : rep ≤ 3) (h : MI g S s A) (hf : FX g S rep A) : DD g S s t rep (mnA A t (rep + 1)) := by
  refine ⟨(mnA_le (rep + 1)).1, ?_, fun l l1 l2 l3 => ?_⟩
  · rcases mnA_or (A := A) (t := t) (rep + 1) with q | ⟨r, r1, r2⟩
    · exact Or.inl q
    · rw [r2]
      rcases (h.2 t r ht (by omega)).2 with w | ⟨l, l1, l2, l3, l4⟩
      · exact Or.inl w
      · exact Or.inr ⟨l, l1, l2, by omega, l4⟩
  · have a := MI_low h hf l l1 l3
    rw [l2] at a
    exact Nat.le_trans ((mnA_le (rep + 1)).2 (wkR l) (by omega)) a

set_option maxRecDepth 100000 in
set_option maxHeartbeats 2000000 in
theorem lp_ww (d : Nat) {g : List Ed} {s0 : Int32} {S rep s : Nat} (hS : S < 2 ^ 31) (hrep : rep ≤ 3) {mu0 : Nat → Nat → Int32} {h0 : Int64} : ∀ (n : Nat) (AA : Nat → Nat) (mu : Nat → Nat → Int32), smA AA 32 < n → mg g mu → RA AA mu → MI g S s AA → (∀ c, c ≠ 27 → mu c = mu0 c) → rn_R none mX9_ways (d + 3) 38 [some (.ref 22), some (.int s0), some (.int (nI S)), some (.int (nI rep)), some (.int (bi true)), none, none, none, none, none, none] [] mu h0 (fun r mu' h' => r = none ∧ h' = h0 ∧ ∃ A', RA A' mu' ∧ MI g S s A' ∧ FX g S rep A' ∧ ∀ c, c ≠ 27 → mu' c = mu0 c) := by
  intro n
  induction n with
  | zero =>
    intro AA mu hn; omega
  | succ n ih =>
    intro AA mu hn hg hA hM hfr
    refine rn_iload 40 dX9_ways_38 rfl rfl ?_
    refine rn_if_eq 229 43 dX9_ways_40 (by decide) rfl (fun c40 => absurd c40 (by decide)) (fun _ => ?_)
    refine rn_iconst (v := 0) 44 dX9_ways_43 (by decide) rfl ?_
    refine rn_istore 46 [some (.ref 22), some (.int s0), some (.int (nI S)), some (.int (nI rep)), some (.int 0), none, none, none, none, none, none] dX9_ways_44 rfl (Nat.le_of_ble_eq_true rfl) rfl ?_
    refine rn_iconst (v := 0) 47 dX9_ways_46 (by decide) rfl ?_
    refine rn_istore 49 [some (.ref 22), some (.int s0), some (.int (nI S)), some (.int (nI rep)), some (.int 0), some (.int 0), none, none, none, none, none] dX9_ways_47 rfl (Nat.le_of_ble_eq_true rfl) rfl ?_
    refine lp_we d (mu0 := mu0) hS hrep g.length 0 (AA, false) mu h0 (by omega) hg hA hfr (fun mu' hA' hfr' => ?_)
    have hm := MI_we hg.2.1 hrep g.length 0 (AA, false) (by omega) hM
    have hg' : mg g mu' := mg_of hg (by rw [hfr' 23 (by omega), hfr 23 (by omega)])
    have tf := we_tf (S := S) (b := false) hg.2.1 hrep (fun j hj => (hA j hj).2) g.length 0 (by omega)
    refine rn_goto 38 dX9_ways_226 (by decide) ?_
    rcases tf with ⟨e1, e2⟩ | ⟨e1, j, e2, e3⟩
    · skip
      rw [e1] at hA' ⊢
      refine rn_iload 40 dX9_ways_38 rfl rfl ?_
      refine rn_if_eq 229 43 dX9_ways_40 (by decide) rfl (fun _ => ?_) (fun c40 => absurd (rfl) c40)
      exact rn_vret rfl dX9_ways_229 (⟨rfl, rfl, AA, hA', hM, fun e r he hr => e2 e r (Nat.zero_le _) (by omega) hr, hfr'⟩)
    · skip
      rw [e1]
      have lt := smA_lt (A := AA) (B := (we g S rep g.length 0 (AA, false)).1) (fun j => we_le g.length 0 (AA, false) j) e3 32 e2
      exact ih _ mu' (by omega) hg' hA' hm hfr'

theorem w_fill (mu : Nat → Nat → Int32) (e : Nat) : mu_s (mu_r mu 27 (fun j => if j < e then 9999 else mu 27 j)) 27 e 9999 = mu_r mu 27 (fun j => if j < e + 1 then 9999 else mu 27 j) := by
  funext c j
  by_cases q : c = 27
  · subst q
    show upd (fun j => if j < e then 9999 else mu 27 j) e 9999 j = if j < e + 1 then 9999 else mu 27 j
    rw [fl_1]
  · simp [mu_s, mu_r, q]

set_option maxRecDepth 100000 in
set_option maxHeartbeats 2000000 in
theorem lp_w0 (d : Nat) {s0 : Int32} {S rep : Nat} {mu : Nat → Nat → Int32} {h : Int64} {Q : rn_Q} (kk : rn_R none mX9_ways d 26 [some (.ref 22), some (.int s0), some (.int (nI S)), some (.int (nI rep)), none, none, none, none, none, none, none] [] (mu_r mu 27 (fun j => if j < 32 then 9999 else mu 27 j)) h Q) : ∀ (k k0 : Nat), k0 + k = 32 → rn_R none mX9_ways d 3 [some (.ref 22), some (.int s0), some (.int (nI S)), some (.int (nI rep)), some (.int (nI k0)), none, none, none, none, none, none] [] (mu_r mu 27 (fun j => if j < k0 then 9999 else mu 27 j)) h Q := by
  intro k
  induction k with
  | zero =>
    intro k0 hk
    refine rn_iload 5 dX9_ways_3 rfl rfl ?_
    refine rn_bipush (v := 32) 7 dX9_ways_5 (by decide) rfl ?_
    refine rn_icmp_ge 26 10 dX9_ways_7 (by decide) rfl (fun _ => ?_) (fun c7 => absurd (nI_le (a := 32) (by omega) (by omega)) c7)
    refine rn_drop 4 [some (.ref 22), some (.int s0), some (.int (nI S)), some (.int (nI rep)), none, none, none, none, none, none, none] rfl ?_
    obtain rfl : k0 = 32 := by omega
    exact kk
  | succ k ih =>
    intro k0 hk
    refine rn_iload 5 dX9_ways_3 rfl rfl ?_
    refine rn_bipush (v := 32) 7 dX9_ways_5 (by decide) rfl ?_
    refine rn_icmp_ge 26 10 dX9_ways_7 (by decide) rfl (fun c7 => absurd c7 (nI_ge (b := 32) (by omega) (by omega))) (fun _ => ?_)
    refine rn_aload_n 11 dX9_ways_10 rfl rfl rfl ?_
    refine rn_get 14 (.ref 27) dX9_ways_11 fl_X9_26 rfl rfl rfl rfl ?_
    refine rn_iload 16 dX9_ways_14 rfl rfl ?_
    refine rn_sipush (v := 9999) 19 dX9_ways_16 (by decide) rfl ?_
    refine rn_iast 20 dX9_ways_19 rfl (vp_in_nI (by omega) (by omega)) rfl ?_
    rw [nI_clamp (by omega)]
    rw [show mu_s (mu_r mu 27 (fun j => if j < k0 then 9999 else mu 27 j)) 27 k0 9999 = mu_r mu 27 (fun j => if j < k0 + 1 then 9999 else mu 27 j) from w_fill mu k0]
    refine rn_iinc (v := (nI (k0 + 1))) 23 [some (.ref 22), some (.int s0), some (.int (nI S)), some (.int (nI rep)), some (.int (nI (k0 + 1))), none, none, none, none, none, none] dX9_ways_20 rfl (nI_1 _) rfl rfl ?_
    refine rn_goto 3 dX9_ways_23 (by decide) ?_
    exact ih (k0 + 1) (by omega)

set_option maxRecDepth 100000 in
set_option maxHeartbeats 2000000 in
theorem c_ways (d : Nat) {g : List Ed} {S rep s : Nat} (hS : S < 2 ^ 31) (hs : s < 8) (hrep : rep ≤ 3) {mu : Nat → Nat → Int32} (h : Int64) (hg : mg g mu) : gd_G mX9_ways (d + 3) [.ref 22, .int (nI s), .int (nI S), .int (nI rep)] mu h ((fun r mu' h' => r = none ∧ h' = h ∧ ∃ A', RA A' mu' ∧ MI g S s A' ∧ FX g S rep A' ∧ ∀ c, c ≠ 27 → mu' c = mu c)) := by
  refine gd_of rfl (Nat.le_of_ble_eq_true rfl) ?_
  show rn_R none mX9_ways (d + 3) 0 [some (.ref 22), some (.int (nI s)), some (.int (nI S)), some (.int (nI rep)), none, none, none, none, none, none, none] [] mu h ((fun r mu' h' => r = none ∧ h' = h ∧ ∃ A', RA A' mu' ∧ MI g S s A' ∧ FX g S rep A' ∧ ∀ c, c ≠ 27 → mu' c = mu c))
  refine rn_iconst (v := 0) 1 dX9_ways_0 (by decide) rfl ?_
  refine rn_istore 3 [some (.ref 22), some (.int (nI s)), some (.int (nI S)), some (.int (nI rep)), some (.int 0), none, none, none, none, none, none] dX9_ways_1 rfl (Nat.le_of_ble_eq_true rfl) rfl ?_
  have e0 : mu = mu_r mu 27 (fun j => if j < 0 then 9999 else mu 27 j) := by funext c j; by_cases q : c = 27 <;> simp [mu_r, q]
  refine Eq.mpr (congrArg (fun z => rn_R none mX9_ways (d + 3) 3 [some (.ref 22), some (.int (nI s)), some (.int (nI S)), some (.int (nI rep)), some (.int (nI 0)), none, none, none, none, none, none] [] z h (fun r mu' h' => r = none ∧ h' = h ∧ ∃ A', RA A' mu' ∧ MI g S s A' ∧ FX g S rep A' ∧ ∀ c, c ≠ 27 → mu' c = mu c)) e0) ?_
  refine lp_w0 (d + 3) ?_ 32 0 rfl
  refine rn_aload_n 27 dX9_ways_26 rfl rfl rfl ?_
  refine rn_get 30 (.ref 27) dX9_ways_27 fl_X9_26 rfl rfl rfl rfl ?_
  refine rn_iconst (v := 4) 31 dX9_ways_30 (by decide) rfl ?_
  refine rn_iload_n 32 dX9_ways_31 rfl rfl rfl ?_
  refine rn_imul 33 dX9_ways_32 rfl ?_
  rw [show (4 : Int32) * nI s = nI (4 * s) by rw [show (4 : Int32) = nI 4 from rfl, pk_mul]]
  refine rn_iconst (v := 0) 34 dX9_ways_33 (by decide) rfl ?_
  refine rn_iast 35 dX9_ways_34 rfl (vp_in_nI (by omega) (by omega)) rfl ?_
  rw [nI_clamp (by omega)]
  refine rn_iconst (v := 1) 36 dX9_ways_35 (by decide) rfl ?_
  refine rn_istore 38 [some (.ref 22), some (.int (nI s)), some (.int (nI S)), some (.int (nI rep)), some (.int 1), none, none, none, none, none, none] dX9_ways_36 rfl (Nat.le_of_ble_eq_true rfl) rfl ?_
  obtain ⟨mu1, hm1⟩ : ∃ m, m = mu_s (mu_r mu 27 (fun j => if j < 32 then 9999 else mu 27 j)) 27 (4 * s) 0 := ⟨_, rfl⟩
  rw [← hm1]
  have hA : RA (fun j => if j = 4 * s then 0 else 9999) mu1 := by
    intro j hj
    rw [hm1]
    show upd (fun j => if j < 32 then 9999 else mu 27 j) (4 * s) 0 j = _ ∧ _
    by_cases q : j = 4 * s
    · subst q; rw [pk_us]; simp only [if_pos]; exact ⟨rfl, by omega⟩
    · rw [pk_un q]; simp only [if_pos hj, if_neg q]; exact ⟨rfl, by omega⟩
  have hM : MI g S s (fun j => if j = 4 * s then 0 else 9999) := by
    refine ⟨if_pos rfl, fun v r hv hr => ?_⟩
    show (if 4 * v + r = 4 * s then 0 else 9999) ≤ 9999 ∧ ((if 4 * v + r = 4 * s then 0 else 9999) = 9999 ∨ ∃ l, wkV g s l ∧ wkE g s l = v ∧ wkR l = r ∧ wkL g S l = (if 4 * v + r = 4 * s then 0 else 9999))
    by_cases q : 4 * v + r = 4 * s
    · rw [if_pos q]; exact ⟨by omega, Or.inr ⟨[], trivial, by show s = v; omega, by show 0 = r; omega, rfl⟩⟩
    · rw [if_neg q]; exact ⟨by omega, Or.inl rfl⟩
  have hfr : ∀ c, c ≠ 27 → mu1 c = mu c := fun c hc => by rw [hm1]; simp [mu_s, mu_r, hc]
  exact lp_ww d hS hrep (smA (fun j => if j = 4 * s then 0 else 9999) 32 + 1) _ mu1 (by omega) (mg_of hg (hfr 23 (by omega))) hA hM hfr

set_option maxRecDepth 100000 in
set_option maxHeartbeats 2000000 in
theorem lp_far (d : Nat) {s0 S0 : Int32} {t rep : Nat} (ht : t < 8) (hrep : rep ≤ 3) {mu : Nat → Nat → Int32} {h : Int64} {AA : Nat → Nat} (hA : RA AA mu) : ∀ (k r : Nat), r + k = rep + 1 → rn_R none mX9_far d 16 [some (.ref 22), some (.int s0), some (.int (nI t)), some (.int S0), some (.int (nI rep)), some (.int (nI (mnA AA t r))), some (.int (nI r))] [] mu h (pq (some (.int (nI (mnA AA t (rep + 1))))) mu h) := by
  intro k
  induction k with
  | zero =>
    intro r hk
    refine rn_iload 18 dX9_far_16 rfl rfl ?_
    refine rn_iload 20 dX9_far_18 rfl rfl ?_
    refine rn_icmp_gt 63 23 dX9_far_20 (by decide) rfl (fun _ => ?_) (fun c20 => absurd (nI_lt (by omega) (by omega)) c20)
    refine rn_iload 65 dX9_far_63 rfl rfl ?_
    exact rn_iret rfl dX9_far_65 (⟨by rw [show r = rep + 1 by omega], rfl, rfl⟩)
  | succ k ih =>
    intro r hk
    have ha := hA (4 * t + r) (by omega)
    have hm := (mnA_le (A := AA) (t := t) r).1
    refine rn_iload 18 dX9_far_16 rfl rfl ?_
    refine rn_iload 20 dX9_far_18 rfl rfl ?_
    refine rn_icmp_gt 63 23 dX9_far_20 (by decide) rfl (fun c20 => absurd c20 (nI_nlt (by omega) (by omega))) (fun _ => ?_)
    refine rn_aload_n 24 dX9_far_23 rfl rfl rfl ?_
    refine rn_get 27 (.ref 27) dX9_far_24 fl_X9_26 rfl rfl rfl rfl ?_
    refine rn_iconst (v := 4) 28 dX9_far_27 (by decide) rfl ?_
    refine rn_iload_n 29 dX9_far_28 rfl rfl rfl ?_
    refine rn_imul 30 dX9_far_29 rfl ?_
    refine rn_iload 32 dX9_far_30 rfl rfl ?_
    refine rn_iadd 33 dX9_far_32 rfl ?_
    rw [show (4 : Int32) * nI t + nI r = nI (4 * t + r) by rw [show (4 : Int32) = nI 4 from rfl, pk_mul, nI_add]]
    refine rn_iald 34 (nI (AA (4 * t + r))) dX9_far_33 rfl (vp_in_nI (by omega) (by omega)) (by rw [nI_clamp (by omega)]; exact ha.1) rfl ?_
    refine rn_iload 36 dX9_far_34 rfl rfl ?_
    by_cases q : AA (4 * t + r) < mnA AA t r
    · skip
      have e : mnA AA t (r + 1) = AA (4 * t + r) := if_pos q
      refine rn_icmp_ge 53 39 dX9_far_36 (by decide) rfl (fun c36 => absurd c36 (nI_ge q (by omega))) (fun _ => ?_)
      refine rn_aload_n 40 dX9_far_39 rfl rfl rfl ?_
      refine rn_get 43 (.ref 27) dX9_far_40 fl_X9_26 rfl rfl rfl rfl ?_
      refine rn_iconst (v := 4) 44 dX9_far_43 (by decide) rfl ?_
      refine rn_iload_n 45 dX9_far_44 rfl rfl rfl ?_
      refine rn_imul 46 dX9_far_45 rfl ?_
      refine rn_iload 48 dX9_far_46 rfl rfl ?_
      refine rn_iadd 49 dX9_far_48 rfl ?_
      rw [show (4 : Int32) * nI t + nI r = nI (4 * t + r) by rw [show (4 : Int32) = nI 4 from rfl, pk_mul, nI_add]]
      refine rn_iald 50 (nI (AA (4 * t + r))) dX9_far_49 rfl (vp_in_nI (by omega) (by omega)) (by rw [nI_clamp (by omega)]; exact ha.1) rfl ?_
      refine rn_goto 55 dX9_far_50 (by decide) ?_
      refine rn_istore 57 [some (.ref 22), some (.int s0), some (.int (nI t)), some (.int S0), some (.int (nI rep)), some (.int (nI (AA (4 * t + r)))), some (.int (nI r))] dX9_far_55 rfl (Nat.le_of_ble_eq_true rfl) rfl ?_
      refine rn_iinc (v := (nI (r + 1))) 60 [some (.ref 22), some (.int s0), some (.int (nI t)), some (.int S0), some (.int (nI rep)), some (.int (nI (AA (4 * t + r)))), some (.int (nI (r + 1)))] dX9_far_57 rfl (nI_1 _) rfl rfl ?_
      refine rn_goto 16 dX9_far_60 (by decide) ?_
      have z := ih (r + 1) (by omega)
      rw [e] at z
      exact z
    · skip
      have e : mnA AA t (r + 1) = mnA AA t r := if_neg q
      refine rn_icmp_ge 53 39 dX9_far_36 (by decide) rfl (fun _ => ?_) (fun c36 => absurd (nI_le (by omega) (by omega)) c36)
      refine rn_iload 55 dX9_far_53 rfl rfl ?_
      refine rn_istore 57 [some (.ref 22), some (.int s0), some (.int (nI t)), some (.int S0), some (.int (nI rep)), some (.int (nI (mnA AA t r))), some (.int (nI r))] dX9_far_55 rfl (Nat.le_of_ble_eq_true rfl) rfl ?_
      refine rn_iinc (v := (nI (r + 1))) 60 [some (.ref 22), some (.int s0), some (.int (nI t)), some (.int S0), some (.int (nI rep)), some (.int (nI (mnA AA t r))), some (.int (nI (r + 1)))] dX9_far_57 rfl (nI_1 _) rfl rfl ?_
      refine rn_goto 16 dX9_far_60 (by decide) ?_
      have z := ih (r + 1) (by omega)
      rw [e] at z
      exact z

set_option maxRecDepth 100000 in
set_option maxHeartbeats 2000000 in
theorem c_far (d : Nat) {g : List Ed} {S rep s t : Nat} (hS : S < 2 ^ 31) (hs : s < 8) (ht : t < 8) (hrep : rep ≤ 3) {mu : Nat → Nat → Int32} (h : Int64) (hg : mg g mu) : gd_G mX9_far (d + 4) [.ref 22, .int (nI s), .int (nI t), .int (nI S), .int (nI rep)] mu h (fun r mu' h' => r = some (.int (nI (xD g S s t rep))) ∧ h' = h ∧ ∀ c, c ≠ 27 → mu' c = mu c) := by
  refine gd_of rfl (Nat.le_of_ble_eq_true rfl) ?_
  show rn_R none mX9_far (d + 4) 0 [some (.ref 22), some (.int (nI s)), some (.int (nI t)), some (.int (nI S)), some (.int (nI rep)), none, none] [] mu h (fun r mu' h' => r = some (.int (nI (xD g S s t rep))) ∧ h' = h ∧ ∀ c, c ≠ 27 → mu' c = mu c)
  refine rn_aload_n 1 dX9_far_0 rfl rfl rfl ?_
  refine rn_iload_n 2 dX9_far_1 rfl rfl rfl ?_
  refine rn_iload_n 3 dX9_far_2 rfl rfl rfl ?_
  refine rn_iload 5 dX9_far_3 rfl rfl ?_
  refine rn_callV mX9_ways [.int (nI s), .int (nI S), .int (nI rep)] [] dX9_far_5 cv_X9_130 rfl rfl rfl (by simp [Value.category]) (c_ways d hS hs hrep h hg) (fun r mu1 h1 q ok => ?_)
  obtain ⟨rfl, rfl, AA, hA, hM, hF, hfr⟩ := q
  refine rn_sipush (v := 9999) 11 dX9_far_8 (by decide) rfl ?_
  refine rn_istore 13 [some (.ref 22), some (.int (nI s)), some (.int (nI t)), some (.int (nI S)), some (.int (nI rep)), some (.int 9999), none] dX9_far_11 rfl (Nat.le_of_ble_eq_true rfl) rfl ?_
  refine rn_iconst (v := 0) 14 dX9_far_13 (by decide) rfl ?_
  refine rn_istore 16 [some (.ref 22), some (.int (nI s)), some (.int (nI t)), some (.int (nI S)), some (.int (nI rep)), some (.int 9999), some (.int 0)] dX9_far_14 rfl (Nat.le_of_ble_eq_true rfl) rfl ?_
  refine rn_mono (lp_far (d + 4) (AA := AA) ht hrep hA (rep + 1) 0 (by omega)) (fun r mu2 h2 q => ?_)
  obtain ⟨q1, q2, q3⟩ := q
  subst q2; subst q3
  refine ⟨?_, rfl, hfr⟩
  rw [q1, DD_u (mnA_DD ht hrep hM hF) (xD_DD hg.2.1 ht)]
