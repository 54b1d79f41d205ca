/-! BOTH SIDES: count -/
def rpC (g : List Ed) (a : Nat) : Nat → Nat
  | 0 => 0
  | k + 1 => rpC g a k + (if ¬ k / 8 = k % 8 ∧ ¬ xD g a (k / 8) (k % 8) 0 = 9999 then 1 else 0)
theorem rpC_le (g : List Ed) (a : Nat) : ∀ k, rpC g a k ≤ k := by
  intro k
  induction k with
  | zero => exact Nat.le_refl _
  | succ k ih => show rpC g a k + (if ¬ k / 8 = k % 8 ∧ ¬ xD g a (k / 8) (k % 8) 0 = 9999 then 1 else 0) ≤ k + 1; split <;> omega
theorem rpC_1 {g : List Ed} {a s t : Nat} (ht : t < 8) (q : ¬ s = t ∧ ¬ xD g a s t 0 = 9999) : rpC g a (8 * s + (t + 1)) = rpC g a (8 * s + t) + 1 := by
  show rpC g a (8 * s + t) + (if ¬ (8 * s + t) / 8 = (8 * s + t) % 8 ∧ ¬ xD g a ((8 * s + t) / 8) ((8 * s + t) % 8) 0 = 9999 then 1 else 0) = _
  rw [show (8 * s + t) / 8 = s by omega, show (8 * s + t) % 8 = t by omega, if_pos q]
theorem rpC_0 {g : List Ed} {a s t : Nat} (ht : t < 8) (q : ¬ (¬ s = t ∧ ¬ xD g a s t 0 = 9999)) : rpC g a (8 * s + (t + 1)) = rpC g a (8 * s + t) := by
  show rpC g a (8 * s + t) + (if ¬ (8 * s + t) / 8 = (8 * s + t) % 8 ∧ ¬ xD g a ((8 * s + t) / 8) ((8 * s + t) % 8) 0 = 9999 then 1 else 0) = _
  rw [show (8 * s + t) / 8 = s by omega, show (8 * s + t) % 8 = t by omega, if_neg q]
  rfl
theorem ee0 (S : Nat) : (if S = 0 then 0 else 0) = 0 := by split <;> rfl
theorem xD_r (g : List Ed) (S s t : Nat) : xD g S s t 0 = (rlay g S s 0).1 t := by unfold xD; rw [ee0]
def ctV (g : List Ed) (a : Nat) (hs : List Sg) (tx : List Nat) (w : Nat) : Nat := if w = 0 then g.length else if w = 1 then mny a 16 else if w = 2 then cS g a g.length else if w = 3 then hs.length else if w = 4 then tx.length else if w = 5 then lnS g g.length else rpC g a 64

set_option maxRecDepth 100000 in
set_option maxHeartbeats 2000000 in
theorem lp_rp1 (d : Nat) {g : List Ed} {S s : Nat} (hs : s < 8) {mu : Nat → Nat → Int32} {h : Int64} {Q : rn_Q} (ho : ∀ x ∈ g, e_ok x) (hR : RD (rlay g S s 0).1 (rlay g S s 0).2 mu) (kk : rn_R none mX5_reachablePairs d 55 [some (.ref 8), some (.int (nI S)), some (.int (nI (rpC g S (8 * s + 8)))), some (.int (nI s)), none] [] mu h Q) : ∀ (k t : Nat), t + k = 8 → rn_R none mX5_reachablePairs d 20 [some (.ref 8), some (.int (nI S)), some (.int (nI (rpC g S (8 * s + t)))), some (.int (nI s)), some (.int (nI t))] [] mu h (Q) := by
  intro k
  induction k with
  | zero =>
    intro t hek
    refine rn_iload 22 dX5_reachablePairs_20 rfl rfl ?_
    refine rn_bipush (v := 8) 24 dX5_reachablePairs_22 (by decide) rfl ?_
    refine rn_icmp_ge 55 27 dX5_reachablePairs_24 (by decide) rfl (fun _ => ?_) (fun c24 => absurd (nI_le (a := 8) (by omega) (by omega)) c24)
    obtain rfl : t = 8 := by omega
    refine rn_drop 4 [some (.ref 8), some (.int (nI S)), some (.int (nI (rpC g S (8 * s + 8)))), some (.int (nI s)), none] rfl ?_
    exact kk
  | succ k ih =>
    intro t hek
    have ht : t < 8 := by omega
    have bx := xD_le (S := S) (s := s) (rep := 0) ho ht
    refine rn_iload 22 dX5_reachablePairs_20 rfl rfl ?_
    refine rn_bipush (v := 8) 24 dX5_reachablePairs_22 (by decide) rfl ?_
    refine rn_icmp_ge 55 27 dX5_reachablePairs_24 (by decide) rfl (fun c24 => absurd c24 (nI_ge (b := 8) (by omega) (by omega))) (fun _ => ?_)
    refine rn_iload_n 28 dX5_reachablePairs_27 rfl rfl rfl ?_
    refine rn_iload 30 dX5_reachablePairs_28 rfl rfl ?_
    by_cases q : s = t
    · skip
      refine rn_icmp_eq 49 33 dX5_reachablePairs_30 (by decide) rfl (fun _ => ?_) (fun c30 => absurd (congrArg nI q) c30)
      refine rn_iinc (v := (nI (t + 1))) 52 [some (.ref 8), some (.int (nI S)), some (.int (nI (rpC g S (8 * s + t)))), some (.int (nI s)), some (.int (nI (t + 1)))] dX5_reachablePairs_49 rfl (nI_1 _) rfl rfl ?_
      refine rn_goto 20 dX5_reachablePairs_52 (by decide) ?_
      have z := ih (t + 1) (by omega)
      rw [rpC_0 ht (fun z => z.1 q)] at z
      exact z
    · skip
      by_cases q9 : xD g S s t 0 = 9999
      · skip
        refine rn_icmp_eq 49 33 dX5_reachablePairs_30 (by decide) rfl (fun c30 => absurd c30 (fun z => q ((nI_eq (by omega) (by omega)).mp z))) (fun _ => ?_)
        refine rn_aload_n 34 dX5_reachablePairs_33 rfl rfl rfl ?_
        refine rn_get 37 (.ref 10) dX5_reachablePairs_34 fl_X5_15 rfl rfl rfl rfl ?_
        refine rn_iload 39 dX5_reachablePairs_37 rfl rfl ?_
        refine rn_iald 40 (nI (xD g S s t 0)) dX5_reachablePairs_39 rfl (vp_in_nI (by omega) (by omega)) (by rw [nI_clamp (by omega)]; exact (xD_r g S s t ▸ (hR t ht).1)) rfl ?_
        refine rn_sipush (v := 9999) 43 dX5_reachablePairs_40 (by decide) rfl ?_
        refine rn_icmp_eq 49 46 dX5_reachablePairs_43 (by decide) rfl (fun _ => ?_) (fun c43 => absurd (congrArg nI q9) c43)
        refine rn_iinc (v := (nI (t + 1))) 52 [some (.ref 8), some (.int (nI S)), some (.int (nI (rpC g S (8 * s + t)))), some (.int (nI s)), some (.int (nI (t + 1)))] dX5_reachablePairs_49 rfl (nI_1 _) rfl rfl ?_
        refine rn_goto 20 dX5_reachablePairs_52 (by decide) ?_
        have z := ih (t + 1) (by omega)
        rw [rpC_0 ht (fun z => z.2 q9)] at z
        exact z
      · skip
        refine rn_icmp_eq 49 33 dX5_reachablePairs_30 (by decide) rfl (fun c30 => absurd c30 (fun z => q ((nI_eq (by omega) (by omega)).mp z))) (fun _ => ?_)
        refine rn_aload_n 34 dX5_reachablePairs_33 rfl rfl rfl ?_
        refine rn_get 37 (.ref 10) dX5_reachablePairs_34 fl_X5_15 rfl rfl rfl rfl ?_
        refine rn_iload 39 dX5_reachablePairs_37 rfl rfl ?_
        refine rn_iald 40 (nI (xD g S s t 0)) dX5_reachablePairs_39 rfl (vp_in_nI (by omega) (by omega)) (by rw [nI_clamp (by omega)]; exact (xD_r g S s t ▸ (hR t ht).1)) rfl ?_
        refine rn_sipush (v := 9999) 43 dX5_reachablePairs_40 (by decide) rfl ?_
        refine rn_icmp_eq 49 46 dX5_reachablePairs_43 (by decide) rfl (fun c43 => absurd c43 (fun z => q9 ((nI_eq (b := 9999) (by omega) (by omega)).mp z))) (fun _ => ?_)
        refine rn_iinc (v := (nI ((rpC g S (8 * s + t)) + 1))) 49 [some (.ref 8), some (.int (nI S)), some (.int (nI ((rpC g S (8 * s + t)) + 1))), some (.int (nI s)), some (.int (nI t))] dX5_reachablePairs_46 rfl (nI_1 _) rfl rfl ?_
        refine rn_iinc (v := (nI (t + 1))) 52 [some (.ref 8), some (.int (nI S)), some (.int (nI ((rpC g S (8 * s + t)) + 1))), some (.int (nI s)), some (.int (nI (t + 1)))] dX5_reachablePairs_49 rfl (nI_1 _) rfl rfl ?_
        refine rn_goto 20 dX5_reachablePairs_52 (by decide) ?_
        have z := ih (t + 1) (by omega)
        rw [rpC_1 ht ⟨q, q9⟩] at z
        exact z

set_option maxRecDepth 100000 in
set_option maxHeartbeats 2000000 in
theorem lp_rp2 (d : Nat) {g : List Ed} {S : Nat} (hS : S < 2 ^ 31) {mu0 : Nat → Nat → Int32} : ∀ (k s : Nat) (mu : Nat → Nat → Int32) (h : Int64), s + k = 8 → (xg g mu) → (∀ c, (c < 9 ∨ 13 < c) → mu c = mu0 c) → rn_R none mX5_reachablePairs (d + 2) 4 [some (.ref 8), some (.int (nI S)), some (.int (nI (rpC g S (8 * s)))), some (.int (nI s)), none] [] mu h (fun r mu' _ => r = some (.int (nI (rpC g S 64))) ∧ ∀ c, (c < 9 ∨ 13 < c) → mu' c = mu0 c) := by
  intro k
  induction k with
  | zero =>
    intro s mu h hek hg hfr
    refine rn_iload_n 5 dX5_reachablePairs_4 rfl rfl rfl ?_
    refine rn_bipush (v := 8) 7 dX5_reachablePairs_5 (by decide) rfl ?_
    refine rn_icmp_ge 61 10 dX5_reachablePairs_7 (by decide) rfl (fun _ => ?_) (fun c7 => absurd (nI_le (a := 8) (by omega) (by omega)) c7)
    refine rn_iload_n 62 dX5_reachablePairs_61 rfl rfl rfl ?_
    exact rn_iret rfl dX5_reachablePairs_62 (⟨by rw [show s = 8 by omega], hfr⟩)
  | succ k ih =>
    intro s mu h hek hg hfr
    refine rn_iload_n 5 dX5_reachablePairs_4 rfl rfl rfl ?_
    refine rn_bipush (v := 8) 7 dX5_reachablePairs_5 (by decide) rfl ?_
    refine rn_icmp_ge 61 10 dX5_reachablePairs_7 (by decide) rfl (fun c7 => absurd c7 (nI_ge (b := 8) (by omega) (by omega))) (fun _ => ?_)
    refine rn_aload_n 11 dX5_reachablePairs_10 rfl rfl rfl ?_
    refine rn_iload_n 12 dX5_reachablePairs_11 rfl rfl rfl ?_
    refine rn_iload_n 13 dX5_reachablePairs_12 rfl rfl rfl ?_
    refine rn_iconst (v := 0) 14 dX5_reachablePairs_13 (by decide) rfl ?_
    refine rn_callV mX5_run [.int (nI s), .int (nI S), .int 0] [] dX5_reachablePairs_14 cv_X5_34 rfl rfl rfl (by simp [Value.category]) (c_run (d) (S := S) (s := s) (rep := 0) hS (by omega) (by omega) h hg) (fun r1 m1 h1 q1 _ => ?_)
    obtain ⟨e1, R1, W1, f1⟩ := q1
    subst e1
    have hg1 : xg g m1 := xg_fr hg f1
    show rn_R _ mX5_reachablePairs _ 17 [some (.ref 8), some (.int (nI S)), some (.int (nI (rpC g S (8 * s)))), some (.int (nI s)), none] [] m1 h1 _
    refine rn_iconst (v := 0) 18 dX5_reachablePairs_17 (by decide) rfl ?_
    refine rn_istore 20 [some (.ref 8), some (.int (nI S)), some (.int (nI (rpC g S (8 * s)))), some (.int (nI s)), some (.int 0)] dX5_reachablePairs_18 rfl (Nat.le_of_ble_eq_true rfl) rfl ?_
    rw [ee0] at R1
    refine lp_rp1 (d + 2) (S := S) (s := s) (by omega) hg.2.1 R1 ?_ 8 0 (by omega)
    refine rn_iinc (v := (nI (s + 1))) 58 [some (.ref 8), some (.int (nI S)), some (.int (nI (rpC g S (8 * s + 8)))), some (.int (nI (s + 1))), none] dX5_reachablePairs_55 rfl (nI_1 _) rfl rfl ?_
    refine rn_goto 4 dX5_reachablePairs_58 (by decide) ?_
    exact ih (s + 1) m1 h1 (by omega) hg1 (fun c hc => by rw [f1 c hc]; exact hfr c hc)

set_option maxRecDepth 100000 in
set_option maxHeartbeats 2000000 in
theorem c_reachPairs (d : Nat) {g : List Ed} {S : Nat} (hS : S < 2 ^ 31) {mu : Nat → Nat → Int32} (h : Int64) (hg : xg g mu) : gd_G mX5_reachablePairs (d + 2) [.ref 8, .int (nI S)] mu h (fun r mu' _ => r = some (.int (nI (rpC g S 64))) ∧ ∀ c, (c < 9 ∨ 13 < c) → mu' c = mu c) := by
  refine gd_of rfl (Nat.le_of_ble_eq_true rfl) ?_
  show rn_R none mX5_reachablePairs (d + 2) 0 [some (.ref 8), some (.int (nI S)), none, none, none] [] mu h (fun r mu' _ => r = some (.int (nI (rpC g S 64))) ∧ ∀ c, (c < 9 ∨ 13 < c) → mu' c = mu c)
  refine rn_iconst (v := 0) 1 dX5_reachablePairs_0 (by decide) rfl ?_
  refine rn_istore_n 2 [some (.ref 8), some (.int (nI S)), some (.int 0), none, none] dX5_reachablePairs_1 rfl rfl (Nat.le_of_ble_eq_true rfl) rfl ?_
  refine rn_iconst (v := 0) 3 dX5_reachablePairs_2 (by decide) rfl ?_
  refine rn_istore_n 4 [some (.ref 8), some (.int (nI S)), some (.int 0), some (.int 0), none] dX5_reachablePairs_3 rfl rfl (Nat.le_of_ble_eq_true rfl) rfl ?_
  exact lp_rp2 d hS (mu0 := mu) 8 0 mu h (by omega) hg (fun _ _ => rfl)

set_option maxRecDepth 100000 in
set_option maxHeartbeats 2000000 in
theorem lp_mrp (d : Nat) {g : List Ed} {a : Nat} (ha2 : a < 2 ^ g.length) {mu0 : Nat → Nat → Int32} (h : Int64) : ∀ (k j : Nat) (mu : Nat → Nat → Int32), j + k = 64 → (mg g mu) → (mu 23 81 = nI a) → (∀ c, c ≠ 27 → mu c = mu0 c) → rn_R none mX9_reachable (d + 5) 4 [some (.ref 22), some (.int (nI (rpC g a j))), some (.int (nI j))] [] mu h (fun r mu' h' => r = some (.int (nI (rpC g a 64))) ∧ h' = h ∧ ∀ c, c ≠ 27 → mu' c = mu0 c) := by
  intro k
  induction k with
  | zero =>
    intro j mu hek hg ha hfr
    refine rn_iload_n 5 dX9_reachable_4 rfl rfl rfl ?_
    refine rn_bipush (v := 64) 7 dX9_reachable_5 (by decide) rfl ?_
    refine rn_icmp_ge 61 10 dX9_reachable_7 (by decide) rfl (fun _ => ?_) (fun c7 => absurd (nI_le (a := 64) (by omega) (by omega)) c7)
    refine rn_iload_n 62 dX9_reachable_61 rfl rfl rfl ?_
    exact rn_iret rfl dX9_reachable_62 (⟨by rw [show j = 64 by omega], rfl, hfr⟩)
  | succ k ih =>
    intro j mu hek hg ha hfr
    have hj : j < 64 := by omega
    have hp := pw_le hg.1
    have bx := xD_le (S := a) (s := j / 8) (t := j % 8) (rep := 0) hg.2.1 (by omega)
    have bc := rpC_le g a j
    have edv : nI j / 8 = nI (j / 8) := pk_div (d := 8) (by omega) (by omega) (by omega)
    have erm : nI j - nI j / 8 * 8 = nI (j % 8) := pk_rem (d := 8) (by omega) (by omega) (by omega)
    refine rn_iload_n 5 dX9_reachable_4 rfl rfl rfl ?_
    refine rn_bipush (v := 64) 7 dX9_reachable_5 (by decide) rfl ?_
    refine rn_icmp_ge 61 10 dX9_reachable_7 (by decide) rfl (fun c7 => absurd c7 (nI_ge (b := 64) (by omega) (by omega))) (fun _ => ?_)
    refine rn_iload_n 11 dX9_reachable_10 rfl rfl rfl ?_
    refine rn_iload_n 12 dX9_reachable_11 rfl rfl rfl ?_
    refine rn_bipush (v := 8) 14 dX9_reachable_12 (by decide) rfl ?_
    refine rn_idiv 15 dX9_reachable_14 (by decide) rfl ?_
    refine rn_iload_n 16 dX9_reachable_15 rfl rfl rfl ?_
    refine rn_bipush (v := 8) 18 dX9_reachable_16 (by decide) rfl ?_
    refine rn_irem 19 dX9_reachable_18 (by decide) rfl ?_
    rw [erm, edv]
    by_cases q : j / 8 = j % 8
    · skip
      refine rn_icmp_eq 52 22 dX9_reachable_19 (by decide) rfl (fun _ => ?_) (fun c19 => absurd (congrArg nI q.symm.symm) c19)
      refine rn_iconst (v := 0) 53 dX9_reachable_52 (by decide) rfl ?_
      refine rn_iadd 54 dX9_reachable_53 rfl ?_
      rw [show nI (rpC g a j) + 0 = nI (rpC g a j) from nI_add _ 0]
      refine rn_istore_n 55 [some (.ref 22), some (.int (nI (rpC g a j))), some (.int (nI j))] dX9_reachable_54 rfl rfl (Nat.le_of_ble_eq_true rfl) rfl ?_
      refine rn_iinc (v := (nI (j + 1))) 58 [some (.ref 22), some (.int (nI (rpC g a j))), some (.int (nI (j + 1)))] dX9_reachable_55 rfl (nI_1 _) rfl rfl ?_
      refine rn_goto 4 dX9_reachable_58 (by decide) ?_
      have z := ih (j + 1) mu (by omega) hg ha hfr
      rw [show rpC g a (j + 1) = rpC g a j from by show rpC g a j + (if ¬ j / 8 = j % 8 ∧ ¬ xD g a (j / 8) (j % 8) 0 = 9999 then 1 else 0) = _; rw [if_neg (fun z => z.1 q)]; rfl] at z
      exact z
    · skip
      refine rn_icmp_eq 52 22 dX9_reachable_19 (by decide) rfl (fun c19 => absurd c19 (fun z => q ((nI_eq (by omega) (by omega)).mp z))) (fun _ => ?_)
      refine rn_aload_n 23 dX9_reachable_22 rfl rfl rfl ?_
      refine rn_iload_n 24 dX9_reachable_23 rfl rfl rfl ?_
      refine rn_bipush (v := 8) 26 dX9_reachable_24 (by decide) rfl ?_
      refine rn_idiv 27 dX9_reachable_26 (by decide) rfl ?_
      refine rn_iload_n 28 dX9_reachable_27 rfl rfl rfl ?_
      refine rn_bipush (v := 8) 30 dX9_reachable_28 (by decide) rfl ?_
      refine rn_irem 31 dX9_reachable_30 (by decide) rfl ?_
      refine rn_aload_n 32 dX9_reachable_31 rfl rfl rfl ?_
      refine rn_get 35 (.ref 23) dX9_reachable_32 fl_X9_7 rfl rfl rfl rfl ?_
      refine rn_bipush (v := 81) 37 dX9_reachable_35 (by decide) rfl ?_
      refine rn_iald 38 (mu 23 81) dX9_reachable_37 rfl (vp_in_nI (n := 81) (by decide) (by decide)) rfl rfl ?_
      rw [ha, erm, edv]
      refine rn_iconst (v := 0) 39 dX9_reachable_38 (by decide) rfl ?_
      refine rn_callV mX9_far [.int (nI (j / 8)), .int (nI (j % 8)), .int (nI a), .int 0] [.int (nI (rpC g a j))] dX9_reachable_39 cv_X9_134 rfl rfl rfl (by simp [Value.category]) (c_far (d) (S := a) (s := j / 8) (t := j % 8) (rep := 0) (by omega) (by omega) (by omega) (by omega) h hg) (fun r1 m1 h1 q1 _ => ?_)
      obtain ⟨e1, k1, f1⟩ := q1
      rw [e1, k1]
      have hg1 : mg g m1 := mg_of hg (f1 23 (by omega))
      show rn_R _ mX9_reachable _ 42 [some (.ref 22), some (.int (nI (rpC g a j))), some (.int (nI j))] [.int (nI (xD g a (j / 8) (j % 8) 0)), .int (nI (rpC g a j))] m1 h _
      refine rn_sipush (v := 9999) 45 dX9_reachable_42 (by decide) rfl ?_
      by_cases q9 : xD g a (j / 8) (j % 8) 0 = 9999
      · skip
        refine rn_icmp_ge 52 48 dX9_reachable_45 (by decide) rfl (fun _ => ?_) (fun c45 => absurd (nI_le (a := 9999) (by omega) (by omega)) c45)
        refine rn_iconst (v := 0) 53 dX9_reachable_52 (by decide) rfl ?_
        refine rn_iadd 54 dX9_reachable_53 rfl ?_
        rw [show nI (rpC g a j) + 0 = nI (rpC g a j) from nI_add _ 0]
        refine rn_istore_n 55 [some (.ref 22), some (.int (nI (rpC g a j))), some (.int (nI j))] dX9_reachable_54 rfl rfl (Nat.le_of_ble_eq_true rfl) rfl ?_
        refine rn_iinc (v := (nI (j + 1))) 58 [some (.ref 22), some (.int (nI (rpC g a j))), some (.int (nI (j + 1)))] dX9_reachable_55 rfl (nI_1 _) rfl rfl ?_
        refine rn_goto 4 dX9_reachable_58 (by decide) ?_
        have z := ih (j + 1) m1 (by omega) hg1 (by rw [f1 23 (by omega)]; exact ha) (fun c hc => by rw [f1 c hc]; exact hfr c hc)
        rw [show rpC g a (j + 1) = rpC g a j from by show rpC g a j + (if ¬ j / 8 = j % 8 ∧ ¬ xD g a (j / 8) (j % 8) 0 = 9999 then 1 else 0) = _; rw [if_neg (fun z => z.2 q9)]; rfl] at z
        exact z
      · skip
        refine rn_icmp_ge 52 48 dX9_reachable_45 (by decide) rfl (fun c45 => absurd c45 (nI_ge (b := 9999) (by omega) (by omega))) (fun _ => ?_)
        refine rn_iconst (v := 1) 49 dX9_reachable_48 (by decide) rfl ?_
        refine rn_goto 53 dX9_reachable_49 (by decide) ?_
        refine rn_iadd 54 dX9_reachable_53 rfl ?_
        rw [nI_1]
        refine rn_istore_n 55 [some (.ref 22), some (.int (nI (rpC g a j + 1))), some (.int (nI j))] dX9_reachable_54 rfl rfl (Nat.le_of_ble_eq_true rfl) rfl ?_
        refine rn_iinc (v := (nI (j + 1))) 58 [some (.ref 22), some (.int (nI (rpC g a j + 1))), some (.int (nI (j + 1)))] dX9_reachable_55 rfl (nI_1 _) rfl rfl ?_
        refine rn_goto 4 dX9_reachable_58 (by decide) ?_
        have z := ih (j + 1) m1 (by omega) hg1 (by rw [f1 23 (by omega)]; exact ha) (fun c hc => by rw [f1 c hc]; exact hfr c hc)
        rw [show rpC g a (j + 1) = rpC g a j + 1 from by show rpC g a j + (if ¬ j / 8 = j % 8 ∧ ¬ xD g a (j / 8) (j % 8) 0 = 9999 then 1 else 0) = _; rw [if_pos ⟨q, q9⟩]] at z
        exact z

set_option maxRecDepth 100000 in
set_option maxHeartbeats 2000000 in
theorem c_mreach (d : Nat) {g : List Ed} {a : Nat} (ha2 : a < 2 ^ g.length) {mu : Nat → Nat → Int32} (h : Int64) (hg : mg g mu) (ha : mu 23 81 = nI a) : gd_G mX9_reachable (d + 5) [.ref 22] mu h (fun r mu' h' => r = some (.int (nI (rpC g a 64))) ∧ h' = h ∧ ∀ c, c ≠ 27 → mu' c = mu c) := by
  refine gd_of rfl (Nat.le_of_ble_eq_true rfl) ?_
  show rn_R none mX9_reachable (d + 5) 0 [some (.ref 22), none, none] [] mu h (fun r mu' h' => r = some (.int (nI (rpC g a 64))) ∧ h' = h ∧ ∀ c, c ≠ 27 → mu' c = mu c)
  refine rn_iconst (v := 0) 1 dX9_reachable_0 (by decide) rfl ?_
  refine rn_istore_n 2 [some (.ref 22), some (.int 0), none] dX9_reachable_1 rfl rfl (Nat.le_of_ble_eq_true rfl) rfl ?_
  refine rn_iconst (v := 0) 3 dX9_reachable_2 (by decide) rfl ?_
  refine rn_istore_n 4 [some (.ref 22), some (.int 0), some (.int 0)] dX9_reachable_3 rfl rfl (Nat.le_of_ble_eq_true rfl) rfl ?_
  exact lp_mrp d ha2 (mu0 := mu) h 64 0 mu (by omega) hg ha (fun _ _ => rfl)
