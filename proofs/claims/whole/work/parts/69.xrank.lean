/-! THE CLASS: rank, arrive -/
def inS (x : Nat) : List Nat → List Nat
  | [] => [x]
  | y :: R => if y ≤ x then y :: inS x R else x :: y :: R
def rkC (w x : Nat) (R : List Nat) : List Nat := (inS x R).take w
def ALs (R : List Nat) (f : Nat → Int32) : Prop := ∀ i, i < R.length → f i = nI (R.getD i 0)
theorem inS_at {x : Nat} : ∀ (R : List Nat) (p : Nat), p ≤ R.length → (∀ i, i < p → R.getD i 0 ≤ x) → (p < R.length → x < R.getD p 0) → inS x R = R.take p ++ x :: R.drop p := by
  intro R
  induction R with
  | nil => intro p hp _ _; have : p = 0 := by simpa using hp
           subst this; rfl
  | cons y R ih =>
    intro p hp h1 h2
    cases p with
    | zero =>
      have h3 : x < y := h2 (Nat.succ_pos _)
      show (if y ≤ x then y :: inS x R else x :: y :: R) = x :: y :: R
      rw [if_neg (by omega)]
    | succ p =>
      have h3 : y ≤ x := h1 0 (Nat.succ_pos _)
      show (if y ≤ x then y :: inS x R else x :: y :: R) = y :: (R.take p ++ x :: R.drop p)
      rw [if_pos h3, ih p (by simpa using hp) (fun i hi => h1 (i + 1) (by omega)) (fun hq => h2 (by show p + 1 < R.length + 1; omega))]
theorem insD {x : Nat} : ∀ (p : Nat) (R : List Nat), p ≤ R.length → ∀ i, (R.take p ++ x :: R.drop p).getD i 0 = if i < p then R.getD i 0 else if i = p then x else R.getD (i - 1) 0 := by
  intro p
  induction p with
  | zero =>
    intro R _ i
    cases i with
    | zero => rfl
    | succ i => show (x :: R).getD (i + 1) 0 = _; rw [if_neg (Nat.not_lt_zero _), if_neg (Nat.succ_ne_zero i)]; rfl
  | succ p ih =>
    intro R hp i
    cases R with
    | nil => cases hp
    | cons y R =>
      cases i with
      | zero => rw [if_pos (Nat.succ_pos _)]; rfl
      | succ i =>
        show (R.take p ++ x :: R.drop p).getD i 0 = _
        rw [ih R (Nat.le_of_succ_le_succ hp) i]
        by_cases q : i < p
        · rw [if_pos q, if_pos (by omega)]; rfl
        · rw [if_neg q, if_neg (show ¬ i + 1 < p + 1 by omega)]
          by_cases w : i = p
          · rw [if_pos w, if_pos (show i + 1 = p + 1 by omega)]
          · rw [if_neg w, if_neg (show ¬ i + 1 = p + 1 by omega)]
            cases i with
            | zero => omega
            | succ i => rfl
theorem takeD {R : List Nat} {w i : Nat} (h : i < w) : (R.take w).getD i 0 = R.getD i 0 := by
  rw [List.getD_eq_getElem?_getD, List.getD_eq_getElem?_getD, List.getElem?_take_of_lt h]
theorem inS_mem {x z : Nat} : ∀ R : List Nat, z ∈ inS x R → z = x ∨ z ∈ R := by
  intro R
  induction R with
  | nil => intro h; exact Or.inl (List.mem_singleton.mp h)
  | cons y R ih =>
    intro h
    have h2 : z ∈ (if y ≤ x then y :: inS x R else x :: y :: R) := h
    split at h2
    · rcases List.mem_cons.mp h2 with q | q
      · exact Or.inr (by rw [q]; exact List.mem_cons_self)
      · rcases ih q with w | w
        · exact Or.inl w
        · exact Or.inr (List.mem_cons_of_mem _ w)
    · rcases List.mem_cons.mp h2 with q | q
      · exact Or.inl q
      · exact Or.inr q
theorem inS_len (x : Nat) : ∀ R : List Nat, (inS x R).length = R.length + 1 := by
  intro R
  induction R with
  | nil => rfl
  | cons y R ih =>
    show (if y ≤ x then y :: inS x R else x :: y :: R).length = _
    split
    · show (inS x R).length + 1 = R.length + 1 + 1; rw [ih]
    · rfl
def sor (R : List Nat) : Prop := R.Pairwise (fun a b => a ≤ b)
theorem inS_sor {x : Nat} : ∀ R : List Nat, sor R → sor (inS x R) := by
  intro R
  induction R with
  | nil => intro _; exact List.pairwise_singleton _ _
  | cons y R ih =>
    intro h
    have h2 := List.pairwise_cons.mp h
    show sor (if y ≤ x then y :: inS x R else x :: y :: R)
    split
    · rename_i hy
      refine List.pairwise_cons.mpr ⟨fun z hz => ?_, ih h2.2⟩
      rcases inS_mem R hz with q | q
      · rw [q]; exact hy
      · exact h2.1 z q
    · rename_i hy
      refine List.pairwise_cons.mpr ⟨fun z hz => ?_, h⟩
      rcases List.mem_cons.mp hz with q | q
      · rw [q]; omega
      · have := h2.1 z q; omega
theorem sor_D {R : List Nat} (h : sor R) {i j : Nat} (hij : i ≤ j) (hj : j < R.length) : R.getD i 0 ≤ R.getD j 0 := by
  rcases Nat.lt_or_ge i j with q | q
  · have := (List.pairwise_iff_getElem.mp h) i j (by omega) hj q
    rw [List.getD_eq_getElem?_getD, List.getD_eq_getElem?_getD, List.getElem?_eq_getElem (show i < R.length by omega), List.getElem?_eq_getElem hj]
    exact this
  · have : i = j := by omega
    rw [this]; exact Nat.le_refl _
/-- a row of least lengths: in order, at most w, none too great -/
def rkI (w : Nat) (R : List Nat) : Prop := R.length ≤ w ∧ sor R ∧ ∀ y ∈ R, y ≤ 9998
theorem rkI_C {w x : Nat} {R : List Nat} (h : rkI w R) (hx : x ≤ 9998) : rkI w (rkC w x R) := by
  refine ⟨?_, (inS_sor R h.2.1).sublist (List.take_sublist _ _), fun y hy => ?_⟩
  · unfold rkC; rw [List.length_take]; omega
  · rcases inS_mem R (List.mem_of_mem_take hy) with q | q
    · omega
    · exact h.2.2 y q
theorem rkI_D {w : Nat} {R : List Nat} (h : rkI w R) {i : Nat} (hi : i < R.length) : R.getD i 0 ≤ 9998 := by
  refine h.2.2 _ ?_
  rw [List.getD_eq_getElem?_getD, List.getElem?_eq_getElem hi]
  exact List.getElem_mem hi
theorem rkC_at {w x p : Nat} {R : List Nat} (h : rkI w R) (hp : p ≤ R.length) (h1 : ∀ i, i < p → R.getD i 0 ≤ x) (h2 : p < R.length → x < R.getD p 0) (i : Nat) (hi : i < w) : (rkC w x R).getD i 0 = if i < p then R.getD i 0 else if i = p then x else R.getD (i - 1) 0 := by
  unfold rkC
  rw [takeD hi, inS_at R p hp h1 h2, insD p R hp i]
theorem rkC_len {w x : Nat} {R : List Nat} : (rkC w x R).length = min w (R.length + 1) := by
  unfold rkC
  rw [List.length_take, inS_len]
theorem rkC_full {x : Nat} {R : List Nat} (h : rkI R.length R) (hl : ∀ i, i < R.length → R.getD i 0 ≤ x) : rkC R.length x R = R := by
  unfold rkC
  rw [inS_at R R.length (Nat.le_refl _) hl (fun q => absurd q (Nat.lt_irrefl _)), List.take_length, List.take_left']
  rfl
def FW (mu0 mu : Nat → Nat → Int32) : Prop := (∀ c, c ≠ 15 → c ≠ 17 → c ≠ 18 → mu c = mu0 c) ∧ ∀ j, j ≠ 3 → j ≠ 5 → j ≠ 9 → mu 15 j = mu0 15 j
theorem FW_rfl (mu : Nat → Nat → Int32) : FW mu mu := ⟨fun _ _ _ _ => rfl, fun _ _ _ _ => rfl⟩
theorem FW_tr {a b c : Nat → Nat → Int32} (h1 : FW a b) (h2 : FW b c) : FW a c := ⟨fun x h3 h4 h5 => (h2.1 x h3 h4 h5).trans (h1.1 x h3 h4 h5), fun j h3 h4 h5 => (h2.2 j h3 h4 h5).trans (h1.2 j h3 h4 h5)⟩
def QRk (w x : Nat) (R : List Nat) (mu0 : Nat → Nat → Int32) : rn_Q := fun r mu' _ => r = none ∧ ALs (rkC w x R) (mu' 18) ∧ mu' 15 5 = nI (rkC w x R).length ∧ (∀ c, c ≠ 15 → c ≠ 18 → mu' c = mu0 c) ∧ ∀ j, j ≠ 5 → mu' 15 j = mu0 15 j

set_option maxRecDepth 100000 in
set_option maxHeartbeats 2000000 in
theorem tl_rank (d : Nat) {w x p : Nat} {R : List Nat} (hw : 1 ≤ w) (hw2 : w ≤ 100) (hI : rkI w R) (hx : x ≤ 9998) {mu mu0 : Nat → Nat → Int32} (h : Int64) (hp : p ≤ min R.length (w - 1)) (c1 : ∀ i, i < p → mu 18 i = nI (R.getD i 0)) (c2 : ∀ i, p ≤ i → i < min R.length (w - 1) → mu 18 (i + 1) = nI (R.getD i 0)) (c3 : ∀ i, p ≤ i → i < R.length → x < R.getD i 0) (c4 : ∀ i, i < p → R.getD i 0 ≤ x) (h5 : mu 15 5 = nI R.length) (h6 : mu 15 6 = nI w) (f1 : ∀ c, c ≠ 15 → c ≠ 18 → mu c = mu0 c) (f2 : ∀ j, j ≠ 5 → mu 15 j = mu0 15 j) : rn_R none mX7_rank d 72 [some (.ref 15), some (.int (nI x)), some (.int (nI p))] [] mu h (QRk w x R mu0) := by
  have hl := hI.1
  have key : ∀ i, i < min w (R.length + 1) → upd (mu 18) p (nI x) i = nI ((rkC w x R).getD i 0) := by
    intro i hi
    rw [rkC_at hI (by omega) c4 (fun q => c3 p (Nat.le_refl _) q) i (by omega)]
    by_cases q : i < p
    · rw [if_pos q, pk_un (by omega)]; exact c1 i q
    · rw [if_neg q]
      by_cases q2 : i = p
      · rw [if_pos q2, q2, pk_us]
      · rw [if_neg q2, pk_un q2]
        have := c2 (i - 1) (by omega) (by omega)
        rwa [show i - 1 + 1 = i by omega] at this
  by_cases q : R.length = w
  · skip
    refine rn_aload_n 73 dX7_rank_72 rfl rfl rfl ?_
    refine rn_get 76 (.ref 18) dX7_rank_73 fl_X7_22 rfl rfl rfl rfl ?_
    refine rn_iload_n 77 dX7_rank_76 rfl rfl rfl ?_
    refine rn_iload_n 78 dX7_rank_77 rfl rfl rfl ?_
    refine rn_iast 79 dX7_rank_78 rfl (vp_in_nI (by omega) (by omega)) rfl ?_
    rw [nI_clamp (by omega)]
    refine rn_aload_n 80 dX7_rank_79 rfl rfl rfl ?_
    refine rn_get 83 (.int (mu 15 5)) dX7_rank_80 fl_X7_25 rfl rfl rfl rfl ?_
    refine rn_aload_n 84 dX7_rank_83 rfl rfl rfl ?_
    refine rn_get 87 (.int (mu 15 6)) dX7_rank_84 fl_X7_28 rfl rfl rfl rfl ?_
    refine rn_icmp_ge 100 90 dX7_rank_87 (by decide) rfl (fun _ => ?_) (fun c87 => absurd (by rw [h5, h6]; exact nI_le (by omega) (by omega)) c87)
    exact rn_vret rfl dX7_rank_100 (⟨rfl, fun i hi => by rw [rkC_len] at hi; exact key i hi, by simp [mu_s]; rw [h5, rkC_len]; exact congrArg nI (by omega), fun c h1 h2 => by simp [mu_s, h2]; exact f1 c h1 h2, fun j hj => by simp [mu_s]; exact f2 j hj⟩)
  · skip
    refine rn_aload_n 73 dX7_rank_72 rfl rfl rfl ?_
    refine rn_get 76 (.ref 18) dX7_rank_73 fl_X7_22 rfl rfl rfl rfl ?_
    refine rn_iload_n 77 dX7_rank_76 rfl rfl rfl ?_
    refine rn_iload_n 78 dX7_rank_77 rfl rfl rfl ?_
    refine rn_iast 79 dX7_rank_78 rfl (vp_in_nI (by omega) (by omega)) rfl ?_
    rw [nI_clamp (by omega)]
    refine rn_aload_n 80 dX7_rank_79 rfl rfl rfl ?_
    refine rn_get 83 (.int (mu 15 5)) dX7_rank_80 fl_X7_25 rfl rfl rfl rfl ?_
    refine rn_aload_n 84 dX7_rank_83 rfl rfl rfl ?_
    refine rn_get 87 (.int (mu 15 6)) dX7_rank_84 fl_X7_28 rfl rfl rfl rfl ?_
    refine rn_icmp_ge 100 90 dX7_rank_87 (by decide) rfl (fun c87 => absurd c87 (by rw [h5, h6]; exact nI_ge (by omega) (by omega))) (fun _ => ?_)
    refine rn_aload_n 91 dX7_rank_90 rfl rfl rfl ?_
    refine rn_dup 92 dX7_rank_91 rfl rfl ?_
    refine rn_get 95 (.int (mu 15 5)) dX7_rank_92 fl_X7_25 rfl rfl rfl rfl ?_
    refine rn_iconst (v := 1) 96 dX7_rank_95 (by decide) rfl ?_
    refine rn_iadd 97 dX7_rank_96 rfl ?_
    refine rn_put 100 dX7_rank_97 fp_X7_25 rfl rfl rfl rfl rfl ?_
    exact rn_vret rfl dX7_rank_100 (⟨rfl, fun i hi => by rw [rkC_len] at hi; exact key i hi, by simp [mu_s, upd]; rw [h5, rkC_len, nI_1]; exact congrArg nI (by omega), fun c h1 h2 => by simp [mu_s, h1, h2]; exact f1 c h1 h2, fun j hj => by simp [mu_s, upd, hj]; exact f2 j hj⟩)

set_option maxRecDepth 100000 in
set_option maxHeartbeats 2000000 in
theorem lp_rank (d : Nat) {w x : Nat} {R : List Nat} (hw : 1 ≤ w) (hw2 : w ≤ 100) (hI : rkI w R) (hx : x ≤ 9998) {mu0 : Nat → Nat → Int32} : ∀ (p : Nat) (mu : Nat → Nat → Int32) (h : Int64), p ≤ min R.length (w - 1) → (∀ i, i < p → mu 18 i = nI (R.getD i 0)) → (∀ i, p ≤ i → i < min R.length (w - 1) → mu 18 (i + 1) = nI (R.getD i 0)) → (∀ i, p ≤ i → i < R.length → x < R.getD i 0) → mu 15 5 = nI R.length → mu 15 6 = nI w → (∀ c, c ≠ 15 → c ≠ 18 → mu c = mu0 c) → (∀ j, j ≠ 5 → mu 15 j = mu0 15 j) → rn_R none mX7_rank d 36 [some (.ref 15), some (.int (nI x)), some (.int (nI p))] [] mu h (QRk w x R mu0) := by
  intro p
  induction p with
  | zero =>
    intro mu h hp c1 c2 c3 h5 h6 f1 f2
    refine rn_iload_n 37 dX7_rank_36 rfl rfl rfl ?_
    refine rn_if_le 72 40 dX7_rank_37 (by decide) rfl (fun _ => ?_) (fun c37 => absurd (by decide) c37)
    exact tl_rank d hw hw2 hI hx h hp c1 c2 c3 (fun i hi => absurd hi (Nat.not_lt_zero _)) h5 h6 f1 f2
  | succ p ih =>
    intro mu h hp c1 c2 c3 h5 h6 f1 f2
    have hl := hI.1
    have hD := rkI_D hI (i := p) (by omega)
    by_cases q : R.getD p 0 ≤ x
    · skip
      refine rn_iload_n 37 dX7_rank_36 rfl rfl rfl ?_
      refine rn_if_le 72 40 dX7_rank_37 (by decide) rfl (fun c37 => absurd c37 (nI_nle (by omega) (by omega))) (fun _ => ?_)
      refine rn_aload_n 41 dX7_rank_40 rfl rfl rfl ?_
      refine rn_get 44 (.ref 18) dX7_rank_41 fl_X7_22 rfl rfl rfl rfl ?_
      refine rn_iload_n 45 dX7_rank_44 rfl rfl rfl ?_
      refine rn_iconst (v := 1) 46 dX7_rank_45 (by decide) rfl ?_
      refine rn_isub 47 dX7_rank_46 rfl ?_
      rw [nI_pred]
      refine rn_iald 48 (nI (R.getD p 0)) dX7_rank_47 rfl (vp_in_nI (by omega) (by omega)) (by rw [nI_clamp (by omega)]; exact c1 p (by omega)) rfl ?_
      refine rn_iload_n 49 dX7_rank_48 rfl rfl rfl ?_
      refine rn_icmp_le 72 52 dX7_rank_49 (by decide) rfl (fun _ => ?_) (fun c49 => absurd (nI_le q (by omega)) c49)
      exact tl_rank d hw hw2 hI hx h hp c1 c2 c3 (fun i hi => Nat.le_trans (sor_D hI.2.1 (show i ≤ p by omega) (by omega)) q) h5 h6 f1 f2
    · skip
      refine rn_iload_n 37 dX7_rank_36 rfl rfl rfl ?_
      refine rn_if_le 72 40 dX7_rank_37 (by decide) rfl (fun c37 => absurd c37 (nI_nle (by omega) (by omega))) (fun _ => ?_)
      refine rn_aload_n 41 dX7_rank_40 rfl rfl rfl ?_
      refine rn_get 44 (.ref 18) dX7_rank_41 fl_X7_22 rfl rfl rfl rfl ?_
      refine rn_iload_n 45 dX7_rank_44 rfl rfl rfl ?_
      refine rn_iconst (v := 1) 46 dX7_rank_45 (by decide) rfl ?_
      refine rn_isub 47 dX7_rank_46 rfl ?_
      rw [nI_pred]
      refine rn_iald 48 (nI (R.getD p 0)) dX7_rank_47 rfl (vp_in_nI (by omega) (by omega)) (by rw [nI_clamp (by omega)]; exact c1 p (by omega)) rfl ?_
      refine rn_iload_n 49 dX7_rank_48 rfl rfl rfl ?_
      refine rn_icmp_le 72 52 dX7_rank_49 (by decide) rfl (fun c49 => absurd c49 (nI_ge (by omega) (by omega))) (fun _ => ?_)
      refine rn_aload_n 53 dX7_rank_52 rfl rfl rfl ?_
      refine rn_get 56 (.ref 18) dX7_rank_53 fl_X7_22 rfl rfl rfl rfl ?_
      refine rn_iload_n 57 dX7_rank_56 rfl rfl rfl ?_
      refine rn_aload_n 58 dX7_rank_57 rfl rfl rfl ?_
      refine rn_get 61 (.ref 18) dX7_rank_58 fl_X7_22 rfl rfl rfl rfl ?_
      refine rn_iload_n 62 dX7_rank_61 rfl rfl rfl ?_
      refine rn_iconst (v := 1) 63 dX7_rank_62 (by decide) rfl ?_
      refine rn_isub 64 dX7_rank_63 rfl ?_
      rw [nI_pred]
      refine rn_iald 65 (nI (R.getD p 0)) dX7_rank_64 rfl (vp_in_nI (by omega) (by omega)) (by rw [nI_clamp (by omega)]; exact c1 p (by omega)) rfl ?_
      refine rn_iast 66 dX7_rank_65 rfl (vp_in_nI (by omega) (by omega)) rfl ?_
      rw [nI_clamp (by omega)]
      refine rn_iinc (v := ((nI (p + 1)) + (-1))) 69 [some (.ref 15), some (.int (nI x)), some (.int ((nI (p + 1)) + (-1)))] dX7_rank_66 rfl rfl rfl rfl ?_
      refine rn_goto 36 dX7_rank_69 (by decide) ?_
      rw [pk_m1]
      exact ih (mu_s mu 18 (p + 1) (nI (R.getD p 0))) h (by omega) (fun i hi => by simp [mu_s]; rw [pk_un (by omega)]; exact c1 i (by omega)) (fun i h1 h2 => by simp [mu_s]; by_cases z : i = p; (subst z; rw [pk_us]); (rw [pk_un (by omega)]; exact c2 i (by omega) h2)) (fun i h1 h2 => by by_cases z : i = p; (subst z; omega); exact c3 i (by omega) h2) (by simp [mu_s]; exact h5) (by simp [mu_s]; exact h6) (fun c h1 h2 => by simp [mu_s, h2]; exact f1 c h1 h2) (fun j hj => by simp [mu_s]; exact f2 j hj)

set_option maxRecDepth 100000 in
set_option maxHeartbeats 2000000 in
theorem c_rank (d : Nat) {w x : Nat} {R : List Nat} (hw : 1 ≤ w) (hw2 : w ≤ 100) (hI : rkI w R) (hx : x ≤ 9998) {mu : Nat → Nat → Int32} (h : Int64) (hA : ALs R (mu 18)) (h5 : mu 15 5 = nI R.length) (h6 : mu 15 6 = nI w) : gd_G mX7_rank (d + 1) [.ref 15, .int (nI x)] mu h (QRk w x R mu) := by
  refine gd_of rfl (Nat.le_of_ble_eq_true rfl) ?_
  show rn_R none mX7_rank (d + 1) 0 [some (.ref 15), some (.int (nI x)), none] [] mu h (QRk w x R mu)
  have hl := hI.1
  by_cases q : R.length = w
  · skip
    have hm : min R.length (w - 1) = w - 1 := by omega
    have hD := rkI_D hI (i := w - 1) (by omega)
    by_cases q2 : R.getD (w - 1) 0 ≤ x
    · skip
      refine rn_aload_n 1 dX7_rank_0 rfl rfl rfl ?_
      refine rn_get 4 (.int (mu 15 5)) dX7_rank_1 fl_X7_25 rfl rfl rfl rfl ?_
      refine rn_aload_n 5 dX7_rank_4 rfl rfl rfl ?_
      refine rn_get 8 (.int (mu 15 6)) dX7_rank_5 fl_X7_28 rfl rfl rfl rfl ?_
      refine rn_iconst (v := 1) 9 dX7_rank_8 (by decide) rfl ?_
      refine rn_isub 10 dX7_rank_9 rfl ?_
      rw [h5, h6, nI_sub1 (by omega)]
      refine rn_min 13 dX7_rank_10 cs_X7_52 (by simp [Value.category]) rfl ?_
      rw [min_nI (a := R.length) (b := w - 1) (by omega) (by omega)]
      refine rn_istore_n 14 [some (.ref 15), some (.int (nI x)), some (.int (nI (min R.length (w - 1))))] dX7_rank_13 rfl rfl (Nat.le_of_ble_eq_true rfl) rfl ?_
      refine rn_aload_n 15 dX7_rank_14 rfl rfl rfl ?_
      refine rn_get 18 (.int (mu 15 5)) dX7_rank_15 fl_X7_25 rfl rfl rfl rfl ?_
      refine rn_aload_n 19 dX7_rank_18 rfl rfl rfl ?_
      refine rn_get 22 (.int (mu 15 6)) dX7_rank_19 fl_X7_28 rfl rfl rfl rfl ?_
      refine rn_icmp_ne 36 25 dX7_rank_22 (by decide) rfl (fun c22 => absurd (by rw [h5, h6, q]) c22) (fun _ => ?_)
      refine rn_aload_n 26 dX7_rank_25 rfl rfl rfl ?_
      refine rn_get 29 (.ref 18) dX7_rank_26 fl_X7_22 rfl rfl rfl rfl ?_
      refine rn_iload_n 30 dX7_rank_29 rfl rfl rfl ?_
      refine rn_iald 31 (nI (R.getD (w - 1) 0)) dX7_rank_30 rfl (vp_in_nI (by omega) (by omega)) (by rw [nI_clamp (by omega), hm]; exact hA (w - 1) (by omega)) rfl ?_
      refine rn_iload_n 32 dX7_rank_31 rfl rfl rfl ?_
      refine rn_icmp_gt 36 35 dX7_rank_32 (by decide) rfl (fun c32 => absurd c32 (nI_nlt q2 (by omega))) (fun _ => ?_)
      exact rn_vret rfl dX7_rank_35 (⟨rfl, by subst q; rw [rkC_full hI (fun i hi => Nat.le_trans (sor_D hI.2.1 (show i ≤ R.length - 1 by omega) (by omega)) q2)]; exact hA, by subst q; rw [rkC_full hI (fun i hi => Nat.le_trans (sor_D hI.2.1 (show i ≤ R.length - 1 by omega) (by omega)) q2)]; exact h5, fun _ _ _ => rfl, fun _ _ => rfl⟩)
    · skip
      refine rn_aload_n 1 dX7_rank_0 rfl rfl rfl ?_
      refine rn_get 4 (.int (mu 15 5)) dX7_rank_1 fl_X7_25 rfl rfl rfl rfl ?_
      refine rn_aload_n 5 dX7_rank_4 rfl rfl rfl ?_
      refine rn_get 8 (.int (mu 15 6)) dX7_rank_5 fl_X7_28 rfl rfl rfl rfl ?_
      refine rn_iconst (v := 1) 9 dX7_rank_8 (by decide) rfl ?_
      refine rn_isub 10 dX7_rank_9 rfl ?_
      rw [h5, h6, nI_sub1 (by omega)]
      refine rn_min 13 dX7_rank_10 cs_X7_52 (by simp [Value.category]) rfl ?_
      rw [min_nI (a := R.length) (b := w - 1) (by omega) (by omega)]
      refine rn_istore_n 14 [some (.ref 15), some (.int (nI x)), some (.int (nI (min R.length (w - 1))))] dX7_rank_13 rfl rfl (Nat.le_of_ble_eq_true rfl) rfl ?_
      refine rn_aload_n 15 dX7_rank_14 rfl rfl rfl ?_
      refine rn_get 18 (.int (mu 15 5)) dX7_rank_15 fl_X7_25 rfl rfl rfl rfl ?_
      refine rn_aload_n 19 dX7_rank_18 rfl rfl rfl ?_
      refine rn_get 22 (.int (mu 15 6)) dX7_rank_19 fl_X7_28 rfl rfl rfl rfl ?_
      refine rn_icmp_ne 36 25 dX7_rank_22 (by decide) rfl (fun c22 => absurd (by rw [h5, h6, q]) c22) (fun _ => ?_)
      refine rn_aload_n 26 dX7_rank_25 rfl rfl rfl ?_
      refine rn_get 29 (.ref 18) dX7_rank_26 fl_X7_22 rfl rfl rfl rfl ?_
      refine rn_iload_n 30 dX7_rank_29 rfl rfl rfl ?_
      refine rn_iald 31 (nI (R.getD (w - 1) 0)) dX7_rank_30 rfl (vp_in_nI (by omega) (by omega)) (by rw [nI_clamp (by omega), hm]; exact hA (w - 1) (by omega)) rfl ?_
      refine rn_iload_n 32 dX7_rank_31 rfl rfl rfl ?_
      refine rn_icmp_gt 36 35 dX7_rank_32 (by decide) rfl (fun _ => ?_) (fun c32 => absurd (nI_lt (by omega) (by omega)) c32)
      exact lp_rank (d + 1) hw hw2 hI hx (mu0 := mu) (min R.length (w - 1)) mu h (Nat.le_refl _) (fun i hi => hA i (by omega)) (fun i h1 h2 => by omega) (fun i h1 h2 => by rw [show i = w - 1 by omega]; omega) h5 h6 (fun _ _ _ => rfl) (fun _ _ => rfl)
  · skip
    refine rn_aload_n 1 dX7_rank_0 rfl rfl rfl ?_
    refine rn_get 4 (.int (mu 15 5)) dX7_rank_1 fl_X7_25 rfl rfl rfl rfl ?_
    refine rn_aload_n 5 dX7_rank_4 rfl rfl rfl ?_
    refine rn_get 8 (.int (mu 15 6)) dX7_rank_5 fl_X7_28 rfl rfl rfl rfl ?_
    refine rn_iconst (v := 1) 9 dX7_rank_8 (by decide) rfl ?_
    refine rn_isub 10 dX7_rank_9 rfl ?_
    rw [h5, h6, nI_sub1 (by omega)]
    refine rn_min 13 dX7_rank_10 cs_X7_52 (by simp [Value.category]) rfl ?_
    rw [min_nI (a := R.length) (b := w - 1) (by omega) (by omega)]
    refine rn_istore_n 14 [some (.ref 15), some (.int (nI x)), some (.int (nI (min R.length (w - 1))))] dX7_rank_13 rfl rfl (Nat.le_of_ble_eq_true rfl) rfl ?_
    refine rn_aload_n 15 dX7_rank_14 rfl rfl rfl ?_
    refine rn_get 18 (.int (mu 15 5)) dX7_rank_15 fl_X7_25 rfl rfl rfl rfl ?_
    refine rn_aload_n 19 dX7_rank_18 rfl rfl rfl ?_
    refine rn_get 22 (.int (mu 15 6)) dX7_rank_19 fl_X7_28 rfl rfl rfl rfl ?_
    refine rn_icmp_ne 36 25 dX7_rank_22 (by decide) rfl (fun _ => ?_) (fun c22 => absurd c22 (by rw [h5, h6]; exact fun z => q ((nI_eq (by omega) (by omega)).mp z)))
    exact lp_rank (d + 1) hw hw2 hI hx (mu0 := mu) (min R.length (w - 1)) mu h (Nat.le_refl _) (fun i hi => hA i (by omega)) (fun i h1 h2 => by omega) (fun i h1 h2 => by omega) h5 h6 (fun _ _ _ => rfl) (fun _ _ => rfl)

/-- the count and the least lengths so far -/
def WA (w A : Nat) (R : List Nat) (mu : Nat → Nat → Int32) : Prop := mu 15 9 = nI A ∧ rkI w R ∧ (1 ≤ w → ALs R (mu 18) ∧ mu 15 5 = nI R.length)
def stW (w : Nat) (R : List Nat) (x : Nat) : List Nat := if 1 ≤ w then rkC w x R else R

set_option maxRecDepth 100000 in
set_option maxHeartbeats 2000000 in
theorem c_arrA (d : Nat) {w A x dep : Nat} {R : List Nat} (hw2 : w ≤ 100) (hx : x ≤ 9998) {mu : Nat → Nat → Int32} (h : Int64) (hA : WA w A R mu) (h6 : mu 15 6 = nI w) (h10 : mu 15 10 = 0) : gd_G mX7_arrive (d + 2) [.ref 15, .int (nI x), .int (nI dep)] mu h (fun r mu' _ => r = some (.int 0) ∧ WA w (A + 1) (stW w R x) mu' ∧ FW mu mu') := by
  refine gd_of rfl (Nat.le_of_ble_eq_true rfl) ?_
  show rn_R none mX7_arrive (d + 2) 0 [some (.ref 15), some (.int (nI x)), some (.int (nI dep))] [] mu h (fun r mu' _ => r = some (.int 0) ∧ WA w (A + 1) (stW w R x) mu' ∧ FW mu mu')
  obtain ⟨a1, a2, a3⟩ := id hA
  by_cases q : 1 ≤ w
  · skip
    obtain ⟨a4, a5⟩ := a3 q
    have ew : stW w R x = rkC w x R := if_pos q
    refine rn_aload_n 1 dX7_arrive_0 rfl rfl rfl ?_
    refine rn_dup 2 dX7_arrive_1 rfl rfl ?_
    refine rn_get 5 (.int (mu 15 9)) dX7_arrive_2 fl_X7_37 rfl rfl rfl rfl ?_
    refine rn_iconst (v := 1) 6 dX7_arrive_5 (by decide) rfl ?_
    refine rn_iadd 7 dX7_arrive_6 rfl ?_
    rw [a1, nI_1]
    refine rn_put 10 dX7_arrive_7 fp_X7_37 rfl rfl rfl rfl rfl ?_
    refine rn_aload_n 11 dX7_arrive_10 rfl rfl rfl ?_
    refine rn_iload_n 12 dX7_arrive_11 rfl rfl rfl ?_
    refine rn_put 15 dX7_arrive_12 fp_X7_18 rfl rfl rfl rfl rfl ?_
    refine rn_aload_n 16 dX7_arrive_15 rfl rfl rfl ?_
    refine rn_get 19 (.int (mu 15 6)) dX7_arrive_16 fl_X7_28 rfl rfl rfl rfl ?_
    refine rn_if_le 27 22 dX7_arrive_19 (by decide) rfl (fun c19 => absurd c19 (by rw [h6]; exact nI_nle (by omega) (by omega))) (fun _ => ?_)
    refine rn_aload_n 23 dX7_arrive_22 rfl rfl rfl ?_
    refine rn_iload_n 24 dX7_arrive_23 rfl rfl rfl ?_
    refine rn_callV mX7_rank [.int (nI x)] [] dX7_arrive_24 cv_X7_85 rfl rfl rfl (by simp [Value.category]) (c_rank d q hw2 a2 hx h (mu := mu_s (mu_s mu 15 9 (nI (A + 1))) 15 3 (nI dep)) (by simp [mu_s]; exact a4) (by simp [mu_s, upd]; exact a5) (by simp [mu_s, upd]; exact h6)) (fun r1 m1 h1 qq _ => ?_)
    obtain ⟨e1, b1, b2, b3, b4⟩ := qq
    subst e1
    show rn_R _ mX7_arrive _ 27 [some (.ref 15), some (.int (nI x)), some (.int (nI dep))] [] m1 h1 _
    refine rn_aload_n 28 dX7_arrive_27 rfl rfl rfl ?_
    refine rn_get 31 (.int (m1 15 10)) dX7_arrive_28 fl_X7_40 rfl rfl rfl rfl ?_
    rw [show m1 15 10 = 0 by rw [b4 10 (by omega)]; simp [mu_s, upd]; exact h10]
    exact rn_zret rfl dX7_arrive_31 rfl (⟨rfl, ⟨by rw [b4 9 (by omega)]; simp [mu_s, upd], by rw [ew]; exact rkI_C a2 hx, fun _ => by rw [ew]; exact ⟨b1, b2⟩⟩, fun c h1 h2 h3 => by rw [b3 c h1 h3]; simp [mu_s, h1], fun j h1 h2 h3 => by rw [b4 j h2]; simp [mu_s, upd, h1, h3]⟩)
  · skip
    have ew : stW w R x = R := if_neg q
    refine rn_aload_n 1 dX7_arrive_0 rfl rfl rfl ?_
    refine rn_dup 2 dX7_arrive_1 rfl rfl ?_
    refine rn_get 5 (.int (mu 15 9)) dX7_arrive_2 fl_X7_37 rfl rfl rfl rfl ?_
    refine rn_iconst (v := 1) 6 dX7_arrive_5 (by decide) rfl ?_
    refine rn_iadd 7 dX7_arrive_6 rfl ?_
    rw [a1, nI_1]
    refine rn_put 10 dX7_arrive_7 fp_X7_37 rfl rfl rfl rfl rfl ?_
    refine rn_aload_n 11 dX7_arrive_10 rfl rfl rfl ?_
    refine rn_iload_n 12 dX7_arrive_11 rfl rfl rfl ?_
    refine rn_put 15 dX7_arrive_12 fp_X7_18 rfl rfl rfl rfl rfl ?_
    refine rn_aload_n 16 dX7_arrive_15 rfl rfl rfl ?_
    refine rn_get 19 (.int (mu 15 6)) dX7_arrive_16 fl_X7_28 rfl rfl rfl rfl ?_
    refine rn_if_le 27 22 dX7_arrive_19 (by decide) rfl (fun _ => ?_) (fun c19 => absurd (by rw [h6, show w = 0 by omega]; decide) c19)
    refine rn_aload_n 28 dX7_arrive_27 rfl rfl rfl ?_
    refine rn_get 31 (.int (mu 15 10)) dX7_arrive_28 fl_X7_40 rfl rfl rfl rfl ?_
    rw [h10]
    exact rn_zret rfl dX7_arrive_31 rfl (⟨rfl, ⟨by simp [mu_s, upd], by rw [ew]; exact a2, fun z => absurd z q⟩, fun c h1 h2 h3 => by simp [mu_s, h1], fun j h1 h2 h3 => by simp [mu_s, upd, h1, h3]⟩)

set_option maxRecDepth 100000 in
set_option maxHeartbeats 2000000 in
theorem c_arrF (d : Nat) {x dep : Nat} {mu : Nat → Nat → Int32} (h : Int64) (h6 : mu 15 6 = 0) (h10 : mu 15 10 = 1) : gd_G mX7_arrive d [.ref 15, .int (nI x), .int (nI dep)] mu h (pq (some (.int 1)) (mu_s (mu_s mu 15 9 (mu 15 9 + 1)) 15 3 (nI dep)) h) := by
  refine gd_of rfl (Nat.le_of_ble_eq_true rfl) ?_
  show rn_R none mX7_arrive d 0 [some (.ref 15), some (.int (nI x)), some (.int (nI dep))] [] mu h (pq (some (.int 1)) (mu_s (mu_s mu 15 9 (mu 15 9 + 1)) 15 3 (nI dep)) h)
  refine rn_aload_n 1 dX7_arrive_0 rfl rfl rfl ?_
  refine rn_dup 2 dX7_arrive_1 rfl rfl ?_
  refine rn_get 5 (.int (mu 15 9)) dX7_arrive_2 fl_X7_37 rfl rfl rfl rfl ?_
  refine rn_iconst (v := 1) 6 dX7_arrive_5 (by decide) rfl ?_
  refine rn_iadd 7 dX7_arrive_6 rfl ?_
  refine rn_put 10 dX7_arrive_7 fp_X7_37 rfl rfl rfl rfl rfl ?_
  refine rn_aload_n 11 dX7_arrive_10 rfl rfl rfl ?_
  refine rn_iload_n 12 dX7_arrive_11 rfl rfl rfl ?_
  refine rn_put 15 dX7_arrive_12 fp_X7_18 rfl rfl rfl rfl rfl ?_
  refine rn_aload_n 16 dX7_arrive_15 rfl rfl rfl ?_
  refine rn_get 19 (.int (mu 15 6)) dX7_arrive_16 fl_X7_28 rfl rfl rfl rfl ?_
  refine rn_if_le 27 22 dX7_arrive_19 (by decide) rfl (fun _ => ?_) (fun c19 => absurd (by rw [h6]; decide) c19)
  refine rn_aload_n 28 dX7_arrive_27 rfl rfl rfl ?_
  refine rn_get 31 (.int (mu 15 10)) dX7_arrive_28 fl_X7_40 rfl rfl rfl rfl ?_
  rw [h10]
  exact rn_zret rfl dX7_arrive_31 rfl (⟨rfl, rfl, rfl⟩)
