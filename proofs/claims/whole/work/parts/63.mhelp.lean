/-! THE REFERENCE: budgetFor, neverHelps; both sides -/
def okB (g : List Ed) (u v m c T : Nat) : Prop := cS g T g.length = c ∧ m ≤ xD g T u v 0

set_option maxRecDepth 100000 in
set_option maxHeartbeats 2000000 in
theorem lp_bi (d : Nat) {g : List Ed} {u v m : Nat} (hu : u < 8) (hv : v < 8) (hm : m ≤ 9999) {c K : Nat} (hc : c ≤ 5) (hK : K ≤ 2 ^ g.length) (hn : ∀ T, T < K → ¬ okB g u v m c T) {mu0 : Nat → Nat → Int32} {h : Int64} {Q : rn_Q} (kk : ∀ mu2 : Nat → Nat → Int32, mg g mu2 → (∀ c2, c2 ≠ 27 → mu2 c2 = mu0 c2) → rn_R none mX9_budgetFor (d + 5) 34 [some (.ref 22), some (.int (nI u)), some (.int (nI v)), some (.int (nI m)), some (.int (nI c)), some (.int (nI K))] [] mu2 h Q) : ∀ (k j : Nat) (mu : Nat → Nat → Int32), j + k = K → (mg g mu) → (∀ c2, c2 ≠ 27 → mu c2 = mu0 c2) → rn_R none mX9_budgetFor (d + 5) 34 [some (.ref 22), some (.int (nI u)), some (.int (nI v)), some (.int (nI m)), some (.int (nI c)), some (.int (nI j))] [] mu h Q := by
  intro k
  induction k with
  | zero =>
    intro j mu hek hg hfr
    obtain rfl : j = K := by omega
    exact kk mu hg hfr
  | succ k ih =>
    intro j mu hek hg hfr
    have h16 := hg.1
    have hp := pw_le hg.1
    have hlt : j < 2 ^ g.length := by omega
    have hno := hn j (by omega)
    have hcs := cS_le hg.2.1 j g.length (Nat.le_refl _)
    have bx := xD_le (S := j) (s := u) (rep := 0) hg.2.1 hv
    by_cases q1 : cS g j g.length = c
    · skip
      have q2 : ¬ m ≤ xD g j u v 0 := fun z => hno ⟨q1, z⟩
      refine rn_iload 36 dX9_budgetFor_34 rfl rfl ?_
      refine rn_iconst (v := 1) 37 dX9_budgetFor_36 (by decide) rfl ?_
      refine rn_aload_n 38 dX9_budgetFor_37 rfl rfl rfl ?_
      refine rn_get 41 (.ref 23) dX9_budgetFor_38 fl_X9_7 rfl rfl rfl rfl ?_
      refine rn_bipush (v := 80) 43 dX9_budgetFor_41 (by decide) rfl ?_
      refine rn_iald 44 (mu 23 80) dX9_budgetFor_43 rfl (vp_in_nI (n := 80) (by decide) (by decide)) rfl rfl ?_
      refine rn_ishl 45 dX9_budgetFor_44 rfl ?_
      rw [hg.2.2.1, nb_1 (by omega)]
      refine rn_icmp_ge 87 48 dX9_budgetFor_45 (by decide) rfl (fun c45 => absurd c45 (nI_ge hlt (by omega))) (fun _ => ?_)
      refine rn_aload_n 49 dX9_budgetFor_48 rfl rfl rfl ?_
      refine rn_iload 51 dX9_budgetFor_49 rfl rfl ?_
      refine rn_cvp mX9_costOf [.int (nI j)] [] 54 (.int (nI (cS g j g.length))) dX9_budgetFor_51 cv_X9_118 rfl rfl rfl (by simp [Value.category]) rfl (c_costOf (d + 2) h hg (S := j) (by omega)) ?_
      refine rn_iload 56 dX9_budgetFor_54 rfl rfl ?_
      refine rn_icmp_ne 81 59 dX9_budgetFor_56 (by decide) rfl (fun c56 => absurd (congrArg nI q1) c56) (fun _ => ?_)
      refine rn_aload_n 60 dX9_budgetFor_59 rfl rfl rfl ?_
      refine rn_iload_n 61 dX9_budgetFor_60 rfl rfl rfl ?_
      refine rn_iload_n 62 dX9_budgetFor_61 rfl rfl rfl ?_
      refine rn_iload 64 dX9_budgetFor_62 rfl rfl ?_
      refine rn_iconst (v := 0) 65 dX9_budgetFor_64 (by decide) rfl ?_
      refine rn_callV mX9_far [.int (nI u), .int (nI v), .int (nI j), .int 0] [] dX9_budgetFor_65 cv_X9_134 rfl rfl rfl (by simp [Value.category]) (c_far (d) (S := j) (s := u) (t := v) (rep := 0) (by omega) hu hv (by omega) h hg) (fun r1 m1 h1 q1 _ => ?_)
      obtain ⟨e1, k1, f1⟩ := q1
      rw [e1, k1]
      have hg1 : mg g m1 := mg_of hg (f1 23 (by omega))
      show rn_R _ mX9_budgetFor _ 68 [some (.ref 22), some (.int (nI u)), some (.int (nI v)), some (.int (nI m)), some (.int (nI c)), some (.int (nI j))] [.int (nI (xD g j u v 0))] m1 h _
      refine rn_iload_n 69 dX9_budgetFor_68 rfl rfl rfl ?_
      refine rn_icmp_lt 81 72 dX9_budgetFor_69 (by decide) rfl (fun _ => ?_) (fun c69 => absurd (nI_lt (by omega) (by omega)) c69)
      refine rn_iinc (v := (nI (j + 1))) 84 [some (.ref 22), some (.int (nI u)), some (.int (nI v)), some (.int (nI m)), some (.int (nI c)), some (.int (nI (j + 1)))] dX9_budgetFor_81 rfl (nI_1 _) rfl rfl ?_
      refine rn_goto 34 dX9_budgetFor_84 (by decide) ?_
      exact ih (j + 1) m1 (by omega) hg1 (fun c2 h2 => by rw [f1 c2 h2]; exact hfr c2 h2)
    · skip
      refine rn_iload 36 dX9_budgetFor_34 rfl rfl ?_
      refine rn_iconst (v := 1) 37 dX9_budgetFor_36 (by decide) rfl ?_
      refine rn_aload_n 38 dX9_budgetFor_37 rfl rfl rfl ?_
      refine rn_get 41 (.ref 23) dX9_budgetFor_38 fl_X9_7 rfl rfl rfl rfl ?_
      refine rn_bipush (v := 80) 43 dX9_budgetFor_41 (by decide) rfl ?_
      refine rn_iald 44 (mu 23 80) dX9_budgetFor_43 rfl (vp_in_nI (n := 80) (by decide) (by decide)) rfl rfl ?_
      refine rn_ishl 45 dX9_budgetFor_44 rfl ?_
      rw [hg.2.2.1, nb_1 (by omega)]
      refine rn_icmp_ge 87 48 dX9_budgetFor_45 (by decide) rfl (fun c45 => absurd c45 (nI_ge hlt (by omega))) (fun _ => ?_)
      refine rn_aload_n 49 dX9_budgetFor_48 rfl rfl rfl ?_
      refine rn_iload 51 dX9_budgetFor_49 rfl rfl ?_
      refine rn_cvp mX9_costOf [.int (nI j)] [] 54 (.int (nI (cS g j g.length))) dX9_budgetFor_51 cv_X9_118 rfl rfl rfl (by simp [Value.category]) rfl (c_costOf (d + 2) h hg (S := j) (by omega)) ?_
      refine rn_iload 56 dX9_budgetFor_54 rfl rfl ?_
      refine rn_icmp_ne 81 59 dX9_budgetFor_56 (by decide) rfl (fun _ => ?_) (fun c56 => absurd c56 (fun z => q1 ((nI_eq (by omega) (by omega)).mp z)))
      refine rn_iinc (v := (nI (j + 1))) 84 [some (.ref 22), some (.int (nI u)), some (.int (nI v)), some (.int (nI m)), some (.int (nI c)), some (.int (nI (j + 1)))] dX9_budgetFor_81 rfl (nI_1 _) rfl rfl ?_
      refine rn_goto 34 dX9_budgetFor_84 (by decide) ?_
      exact ih (j + 1) mu (by omega) hg hfr

set_option maxRecDepth 100000 in
set_option maxHeartbeats 2000000 in
theorem lp_bo (d : Nat) {g : List Ed} {u v m : Nat} (hu : u < 8) (hv : v < 8) (hm : m ≤ 9999) {C : Nat} (hC : C ≤ 6) (hn : ∀ c, c < C → ∀ T, T < 2 ^ g.length → ¬ okB g u v m c T) {mu0 : Nat → Nat → Int32} {h : Int64} {Q : rn_Q} (kk : ∀ mu2 : Nat → Nat → Int32, mg g mu2 → (∀ c2, c2 ≠ 27 → mu2 c2 = mu0 c2) → rn_R none mX9_budgetFor (d + 5) 25 [some (.ref 22), some (.int (nI u)), some (.int (nI v)), some (.int (nI m)), some (.int (nI C)), none] [] mu2 h Q) : ∀ (k c : Nat) (mu : Nat → Nat → Int32), c + k = C → (mg g mu) → (∀ c2, c2 ≠ 27 → mu c2 = mu0 c2) → rn_R none mX9_budgetFor (d + 5) 25 [some (.ref 22), some (.int (nI u)), some (.int (nI v)), some (.int (nI m)), some (.int (nI c)), none] [] mu h Q := by
  intro k
  induction k with
  | zero =>
    intro c mu hek hg hfr
    obtain rfl : c = C := by omega
    exact kk mu hg hfr
  | succ k ih =>
    intro c mu hek hg hfr
    refine rn_iload 27 dX9_budgetFor_25 rfl rfl ?_
    refine rn_iconst (v := 5) 28 dX9_budgetFor_27 (by decide) rfl ?_
    refine rn_icmp_gt 93 31 dX9_budgetFor_28 (by decide) rfl (fun c28 => absurd c28 (nI_nlt (a := 5) (by omega) (by omega))) (fun _ => ?_)
    refine rn_iconst (v := 0) 32 dX9_budgetFor_31 (by decide) rfl ?_
    refine rn_istore 34 [some (.ref 22), some (.int (nI u)), some (.int (nI v)), some (.int (nI m)), some (.int (nI c)), some (.int 0)] dX9_budgetFor_32 rfl (Nat.le_of_ble_eq_true rfl) rfl ?_
    refine lp_bi d hu hv hm (c := c) (K := 2 ^ g.length) (by omega) (Nat.le_refl _) (hn c (by omega)) (mu0 := mu0) (fun m1 hg1 hfr1 => ?_) (2 ^ g.length) 0 mu (by omega) hg hfr
    have h16 := hg1.1
    have hp := pw_le hg1.1
    refine rn_iload 36 dX9_budgetFor_34 rfl rfl ?_
    refine rn_iconst (v := 1) 37 dX9_budgetFor_36 (by decide) rfl ?_
    refine rn_aload_n 38 dX9_budgetFor_37 rfl rfl rfl ?_
    refine rn_get 41 (.ref 23) dX9_budgetFor_38 fl_X9_7 rfl rfl rfl rfl ?_
    refine rn_bipush (v := 80) 43 dX9_budgetFor_41 (by decide) rfl ?_
    refine rn_iald 44 (m1 23 80) dX9_budgetFor_43 rfl (vp_in_nI (n := 80) (by decide) (by decide)) rfl rfl ?_
    refine rn_ishl 45 dX9_budgetFor_44 rfl ?_
    rw [hg1.2.2.1, nb_1 (by omega)]
    refine rn_icmp_ge 87 48 dX9_budgetFor_45 (by decide) rfl (fun _ => ?_) (fun c45 => absurd (nI_le (Nat.le_refl _) (by omega)) c45)
    refine rn_iinc (v := (nI (c + 1))) 90 [some (.ref 22), some (.int (nI u)), some (.int (nI v)), some (.int (nI m)), some (.int (nI (c + 1))), some (.int (nI (2 ^ g.length)))] dX9_budgetFor_87 rfl (nI_1 _) rfl rfl ?_
    refine rn_goto 25 dX9_budgetFor_90 (by decide) ?_
    refine rn_drop 5 [some (.ref 22), some (.int (nI u)), some (.int (nI v)), some (.int (nI m)), some (.int (nI (c + 1))), none] rfl ?_
    exact ih (c + 1) m1 (by omega) hg1 hfr1

set_option maxRecDepth 100000 in
set_option maxHeartbeats 2000000 in
theorem m_bud_b (d : Nat) {g : List Ed} {a : Nat} {hs : List Sg} {tx : List Nat} {f : Int32} {v1 v2 v3 : Int32} (hv : ¬ ((isin v1 8 ∧ isin v2 8) ∧ isin v3 (9999 + 1))) : MC mX9_budgetFor (d + 2) [.int v1, .int v2, .int v3] (g, a, hs, tx, f) (g, a, hs, tx, f) (.int (-2)) := by
  intro mu h hs0
  obtain ⟨hg, ha, hh, ht, hf⟩ := id hs0
  simp only at hg ha hh ht hf
  refine gd_of rfl (Nat.le_of_ble_eq_true rfl) ?_
  show rn_R none mX9_budgetFor (d + 2) 0 [some (.ref 22), some (.int v1), some (.int v2), some (.int v3), none, none] [] mu h (fun r mu' _ => r = some (.int (-2)) ∧ mS (g, a, hs, tx, f) mu' ∧ ∀ c, c < 22 → mu' c = mu c)
  by_cases qq0 : isin v1 8 ∧ isin v2 8
  · skip
    have qq1 : ¬ (isin v3 (9999 + 1)) := fun z => hv ⟨qq0, z⟩
    refine rn_iload_n 1 dX9_budgetFor_0 rfl rfl rfl ?_
    refine rn_iload_n 2 dX9_budgetFor_1 rfl rfl rfl ?_
    refine rn_csp mX9_areNodes [.int v1, .int v2] [] 5 (.int 1) dX9_budgetFor_2 cs_X9_53 rfl rfl (by simp [Value.category]) rfl (c_mareNodes_t (d) mu h qq0.1 qq0.2) ?_
    refine rn_if_eq 19 8 dX9_budgetFor_5 (by decide) rfl (fun c5 => absurd c5 (by decide)) (fun _ => ?_)
    refine rn_iload_n 9 dX9_budgetFor_8 rfl rfl rfl ?_
    refine rn_iconst (v := 0) 10 dX9_budgetFor_9 (by decide) rfl ?_
    refine rn_sipush (v := 9999) 13 dX9_budgetFor_10 (by decide) rfl ?_
    refine rn_csp mX9_in [.int v3, .int 0, .int 9999] [] 16 (.int 0) dX9_budgetFor_13 cs_X9_38 rfl rfl (by simp [Value.category]) rfl (c_in_f (d + 1) mu h (nisin (n := 9999) (by omega) qq1)) ?_
    refine rn_if_ne 22 19 dX9_budgetFor_16 (by decide) rfl (fun c16 => absurd (rfl) c16) (fun _ => ?_)
    refine rn_bipush (v := (-2)) 21 dX9_budgetFor_19 (by decide) rfl ?_
    exact rn_iret rfl dX9_budgetFor_21 (⟨rfl, hs0, fun _ _ => rfl⟩)
  · skip
    refine rn_iload_n 1 dX9_budgetFor_0 rfl rfl rfl ?_
    refine rn_iload_n 2 dX9_budgetFor_1 rfl rfl rfl ?_
    refine rn_csp mX9_areNodes [.int v1, .int v2] [] 5 (.int 0) dX9_budgetFor_2 cs_X9_53 rfl rfl (by simp [Value.category]) rfl (c_mareNodes_f (d) mu h qq0) ?_
    refine rn_if_eq 19 8 dX9_budgetFor_5 (by decide) rfl (fun _ => ?_) (fun c5 => absurd (by decide) c5)
    refine rn_bipush (v := (-2)) 21 dX9_budgetFor_19 (by decide) rfl ?_
    exact rn_iret rfl dX9_budgetFor_21 (⟨rfl, hs0, fun _ _ => rfl⟩)

set_option maxRecDepth 100000 in
set_option maxHeartbeats 2000000 in
theorem m_bud_n (d : Nat) {g : List Ed} {a : Nat} {hs : List Sg} {tx : List Nat} {f : Int32} {u v : Nat} (hu : u < 8) (hv : v < 8) {m : Nat} (hm : m < 9999 + 1) {q : Kx} (hq : bst g 5 0 (vA g u v 0 m) q) (hn : q.1 < m) : MC mX9_budgetFor (d + 5) [.int (nI u), .int (nI v), .int (nI m)] (g, a, hs, tx, f) (g, a, hs, tx, f) (.int (-1)) := by
  intro mu h hs0
  obtain ⟨hg, ha, hh, ht, hf⟩ := id hs0
  simp only at hg ha hh ht hf
  refine gd_of rfl (Nat.le_of_ble_eq_true rfl) ?_
  show rn_R none mX9_budgetFor (d + 5) 0 [some (.ref 22), some (.int (nI u)), some (.int (nI v)), some (.int (nI m)), none, none] [] mu h (fun r mu' _ => r = some (.int (-1)) ∧ mS (g, a, hs, tx, f) mu' ∧ ∀ c, c < 22 → mu' c = mu c)
  have hno : ∀ c, c < 6 → ∀ T, T < 2 ^ g.length → ¬ okB g u v m c T := by
    intro c hc T hT ⟨k1, k2⟩
    have z := hq.2 T ⟨hT, by omega, djs_r0 T⟩
    have e : vA g u v 0 m T = m := by unfold vA; omega
    simp only [KG, e] at z
    omega
  refine rn_iload_n 1 dX9_budgetFor_0 rfl rfl rfl ?_
  refine rn_iload_n 2 dX9_budgetFor_1 rfl rfl rfl ?_
  refine rn_csp mX9_areNodes [.int (nI u), .int (nI v)] [] 5 (.int 1) dX9_budgetFor_2 cs_X9_53 rfl rfl (by simp [Value.category]) rfl (c_mareNodes_t (d + 3) mu h ⟨u, hu, rfl⟩ ⟨v, hv, rfl⟩) ?_
  refine rn_if_eq 19 8 dX9_budgetFor_5 (by decide) rfl (fun c5 => absurd c5 (by decide)) (fun _ => ?_)
  refine rn_iload_n 9 dX9_budgetFor_8 rfl rfl rfl ?_
  refine rn_iconst (v := 0) 10 dX9_budgetFor_9 (by decide) rfl ?_
  refine rn_sipush (v := 9999) 13 dX9_budgetFor_10 (by decide) rfl ?_
  refine rn_csp mX9_in [.int (nI m), .int 0, .int 9999] [] 16 (.int 1) dX9_budgetFor_13 cs_X9_38 rfl rfl (by simp [Value.category]) rfl (c_in_i (d + 4) mu h (M := 9999) (⟨m, hm, rfl⟩) (by omega)) ?_
  refine rn_if_ne 22 19 dX9_budgetFor_16 (by decide) rfl (fun _ => ?_) (fun c16 => absurd c16 (by decide))
  refine rn_iconst (v := 0) 23 dX9_budgetFor_22 (by decide) rfl ?_
  refine rn_istore 25 [some (.ref 22), some (.int (nI u)), some (.int (nI v)), some (.int (nI m)), some (.int 0), none] dX9_budgetFor_23 rfl (Nat.le_of_ble_eq_true rfl) rfl ?_
  refine lp_bo d hu hv (m := m) (by omega) (C := 6) (by omega) hno (mu0 := mu) (fun m1 hg1 hfr1 => ?_) 6 0 mu (by omega) hg (fun _ _ => rfl)
  refine rn_iload 27 dX9_budgetFor_25 rfl rfl ?_
  refine rn_iconst (v := 5) 28 dX9_budgetFor_27 (by decide) rfl ?_
  refine rn_icmp_gt 93 31 dX9_budgetFor_28 (by decide) rfl (fun _ => ?_) (fun c28 => absurd (by decide) c28)
  refine rn_iconst (v := (-1)) 94 dX9_budgetFor_93 (by decide) rfl ?_
  exact rn_iret rfl dX9_budgetFor_94 (⟨rfl, mS_fr hs0 (fun c c1 c2 => hfr1 c (by omega)), fun c hc => hfr1 c (by omega)⟩)

set_option maxRecDepth 100000 in
set_option maxHeartbeats 2000000 in
theorem m_bud_t (d : Nat) {g : List Ed} {a : Nat} {hs : List Sg} {tx : List Nat} {f : Int32} {u v : Nat} (hu : u < 8) (hv : v < 8) {m : Nat} (hm : m < 9999 + 1) {q : Kx} (hq : bst g 5 0 (vA g u v 0 m) q) (hn : ¬ q.1 < m) : MC mX9_budgetFor (d + 5) [.int (nI u), .int (nI v), .int (nI m)] (g, a, hs, tx, f) (g, a, hs, tx, nI q.2.2) (.int (nI q.2.1)) := by
  intro mu h hs0
  obtain ⟨hg, ha, hh, ht, hf⟩ := id hs0
  simp only at hg ha hh ht hf
  refine gd_of rfl (Nat.le_of_ble_eq_true rfl) ?_
  show rn_R none mX9_budgetFor (d + 5) 0 [some (.ref 22), some (.int (nI u)), some (.int (nI v)), some (.int (nI m)), none, none] [] mu h (fun r mu' _ => r = some (.int (nI q.2.1)) ∧ mS (g, a, hs, tx, nI q.2.2) mu' ∧ ∀ c, c < 22 → mu' c = mu c)
  obtain ⟨⟨T, t1, t2⟩, kq⟩ := id hq
  subst t2
  have hvA : ¬ min (xD g T u v 0) m < m := hn
  have hT2 := t1.2.1
  have hTl := t1.1
  have h16 := hg.1
  have hp := pw_le hg.1
  have no1 : ∀ c, c < cS g T g.length → ∀ R, R < 2 ^ g.length → ¬ okB g u v m c R := by
    intro c hc R hR ⟨k1, k2⟩
    have z := kq R ⟨hR, by omega, djs_r0 R⟩
    have e : vA g u v 0 m R = m := by unfold vA; omega
    have e2 : vA g u v 0 m T = m := by unfold vA; omega
    simp only [KG, e, e2] at z
    omega
  have no2 : ∀ R, R < T → ¬ okB g u v m (cS g T g.length) R := by
    intro R hR ⟨k1, k2⟩
    have z := kq R ⟨by omega, by omega, djs_r0 R⟩
    have e : vA g u v 0 m R = m := by unfold vA; omega
    have e2 : vA g u v 0 m T = m := by unfold vA; omega
    simp only [KG, e, e2] at z
    omega
  show rn_R _ _ _ _ _ _ _ _ (fun r mu2 _ => r = some (.int (nI (cS g T g.length))) ∧ mS (g, a, hs, tx, nI T) mu2 ∧ ∀ c, c < 22 → mu2 c = mu c)
  refine rn_iload_n 1 dX9_budgetFor_0 rfl rfl rfl ?_
  refine rn_iload_n 2 dX9_budgetFor_1 rfl rfl rfl ?_
  refine rn_csp mX9_areNodes [.int (nI u), .int (nI v)] [] 5 (.int 1) dX9_budgetFor_2 cs_X9_53 rfl rfl (by simp [Value.category]) rfl (c_mareNodes_t (d + 3) mu h ⟨u, hu, rfl⟩ ⟨v, hv, rfl⟩) ?_
  refine rn_if_eq 19 8 dX9_budgetFor_5 (by decide) rfl (fun c5 => absurd c5 (by decide)) (fun _ => ?_)
  refine rn_iload_n 9 dX9_budgetFor_8 rfl rfl rfl ?_
  refine rn_iconst (v := 0) 10 dX9_budgetFor_9 (by decide) rfl ?_
  refine rn_sipush (v := 9999) 13 dX9_budgetFor_10 (by decide) rfl ?_
  refine rn_csp mX9_in [.int (nI m), .int 0, .int 9999] [] 16 (.int 1) dX9_budgetFor_13 cs_X9_38 rfl rfl (by simp [Value.category]) rfl (c_in_i (d + 4) mu h (M := 9999) (⟨m, hm, rfl⟩) (by omega)) ?_
  refine rn_if_ne 22 19 dX9_budgetFor_16 (by decide) rfl (fun _ => ?_) (fun c16 => absurd c16 (by decide))
  refine rn_iconst (v := 0) 23 dX9_budgetFor_22 (by decide) rfl ?_
  refine rn_istore 25 [some (.ref 22), some (.int (nI u)), some (.int (nI v)), some (.int (nI m)), some (.int 0), none] dX9_budgetFor_23 rfl (Nat.le_of_ble_eq_true rfl) rfl ?_
  refine lp_bo d hu hv (m := m) (by omega) (C := cS g T g.length) (by omega) no1 (mu0 := mu) (fun m1 hg1 hfr1 => ?_) (cS g T g.length) 0 mu (by omega) hg (fun _ _ => rfl)
  refine rn_iload 27 dX9_budgetFor_25 rfl rfl ?_
  refine rn_iconst (v := 5) 28 dX9_budgetFor_27 (by decide) rfl ?_
  refine rn_icmp_gt 93 31 dX9_budgetFor_28 (by decide) rfl (fun c28 => absurd c28 (nI_nlt (a := 5) (by omega) (by omega))) (fun _ => ?_)
  refine rn_iconst (v := 0) 32 dX9_budgetFor_31 (by decide) rfl ?_
  refine rn_istore 34 [some (.ref 22), some (.int (nI u)), some (.int (nI v)), some (.int (nI m)), some (.int (nI (cS g T g.length))), some (.int 0)] dX9_budgetFor_32 rfl (Nat.le_of_ble_eq_true rfl) rfl ?_
  refine lp_bi d hu hv (m := m) (by omega) (c := cS g T g.length) (K := T) (by omega) (by omega) no2 (mu0 := mu) (fun m2 hg2 hfr2 => ?_) T 0 m1 (by omega) hg1 hfr1
  have bx := xD_le (S := T) (s := u) (rep := 0) hg.2.1 hv
  refine rn_iload 36 dX9_budgetFor_34 rfl rfl ?_
  refine rn_iconst (v := 1) 37 dX9_budgetFor_36 (by decide) rfl ?_
  refine rn_aload_n 38 dX9_budgetFor_37 rfl rfl rfl ?_
  refine rn_get 41 (.ref 23) dX9_budgetFor_38 fl_X9_7 rfl rfl rfl rfl ?_
  refine rn_bipush (v := 80) 43 dX9_budgetFor_41 (by decide) rfl ?_
  refine rn_iald 44 (m2 23 80) dX9_budgetFor_43 rfl (vp_in_nI (n := 80) (by decide) (by decide)) rfl rfl ?_
  refine rn_ishl 45 dX9_budgetFor_44 rfl ?_
  rw [hg2.2.2.1, nb_1 (by omega)]
  refine rn_icmp_ge 87 48 dX9_budgetFor_45 (by decide) rfl (fun c45 => absurd c45 (nI_ge hTl (by omega))) (fun _ => ?_)
  refine rn_aload_n 49 dX9_budgetFor_48 rfl rfl rfl ?_
  refine rn_iload 51 dX9_budgetFor_49 rfl rfl ?_
  refine rn_cvp mX9_costOf [.int (nI T)] [] 54 (.int (nI (cS g T g.length))) dX9_budgetFor_51 cv_X9_118 rfl rfl rfl (by simp [Value.category]) rfl (c_costOf (d + 2) h hg2 (S := T) (by omega)) ?_
  refine rn_iload 56 dX9_budgetFor_54 rfl rfl ?_
  refine rn_icmp_ne 81 59 dX9_budgetFor_56 (by decide) rfl (fun c56 => absurd (rfl) c56) (fun _ => ?_)
  refine rn_aload_n 60 dX9_budgetFor_59 rfl rfl rfl ?_
  refine rn_iload_n 61 dX9_budgetFor_60 rfl rfl rfl ?_
  refine rn_iload_n 62 dX9_budgetFor_61 rfl rfl rfl ?_
  refine rn_iload 64 dX9_budgetFor_62 rfl rfl ?_
  refine rn_iconst (v := 0) 65 dX9_budgetFor_64 (by decide) rfl ?_
  refine rn_callV mX9_far [.int (nI u), .int (nI v), .int (nI T), .int 0] [] dX9_budgetFor_65 cv_X9_134 rfl rfl rfl (by simp [Value.category]) (c_far (d) (S := T) (s := u) (t := v) (rep := 0) (by omega) hu hv (by omega) h hg2) (fun r3 m3 h3 q3 _ => ?_)
  obtain ⟨e3, k3, f3⟩ := q3
  rw [e3, k3]
  have hg3 : mg g m3 := mg_of hg2 (f3 23 (by omega))
  show rn_R _ mX9_budgetFor _ 68 [some (.ref 22), some (.int (nI u)), some (.int (nI v)), some (.int (nI m)), some (.int (nI (cS g T g.length))), some (.int (nI T))] [.int (nI (xD g T u v 0))] m3 h _
  refine rn_iload_n 69 dX9_budgetFor_68 rfl rfl rfl ?_
  refine rn_icmp_lt 81 72 dX9_budgetFor_69 (by decide) rfl (fun c69 => absurd c69 (nI_nlt (by omega) (by omega))) (fun _ => ?_)
  refine rn_aload_n 73 dX9_budgetFor_72 rfl rfl rfl ?_
  refine rn_iload 75 dX9_budgetFor_73 rfl rfl ?_
  refine rn_put 78 dX9_budgetFor_75 fp_X9_16 rfl rfl rfl rfl rfl ?_
  refine rn_iload 80 dX9_budgetFor_78 rfl rfl ?_
  exact rn_iret rfl dX9_budgetFor_80 (⟨rfl, mS_fd hs0 (fun c c1 c2 => by simp [mu_s, show c ≠ 22 by omega]; rw [f3 c (by omega)]; exact hfr2 c (by omega)) (by simp [mu_s, upd]; rw [f3 22 (by omega), hfr2 22 (by omega)]) (by simp [mu_s, upd]; rw [f3 22 (by omega), hfr2 22 (by omega)]) (by simp [mu_s, upd]), fun c hc => by simp [mu_s, show c ≠ 22 by omega]; rw [f3 c (by omega)]; exact hfr2 c (by omega)⟩)

def mmL (g : List Ed) (s t S : Nat) : Nat → Nat → Nat → Nat
  | 0, _, H => H
  | k + 1, e, H => mmL g s t S k (e + 1) (if S.testBit e = true ∧ ¬ H.testBit e = true ∧ xD g (nd S (2 ^ e)) s t 0 < xD g S s t 0 then H ||| 2 ^ e else H)
theorem mmL_bit {g : List Ed} {s t S i : Nat} : ∀ k e H, (mmL g s t S k e H).testBit i = true ↔ H.testBit i = true ∨ (e ≤ i ∧ i < e + k ∧ S.testBit i = true ∧ xD g (nd S (2 ^ i)) s t 0 < xD g S s t 0) := by
  intro k
  induction k with
  | zero => intro e H; constructor; exact fun h => Or.inl h; rintro (h | h); exact h; omega
  | succ k ih =>
    intro e H
    show (mmL g s t S k (e + 1) (if S.testBit e = true ∧ ¬ H.testBit e = true ∧ xD g (nd S (2 ^ e)) s t 0 < xD g S s t 0 then H ||| 2 ^ e else H)).testBit i = true ↔ _
    rw [ih]
    by_cases q : S.testBit e = true ∧ ¬ H.testBit e = true ∧ xD g (nd S (2 ^ e)) s t 0 < xD g S s t 0
    · rw [if_pos q, tb_or1]
      constructor
      · rintro ((h | h) | ⟨h1, h2, h3⟩)
        · exact Or.inl h
        · subst h; exact Or.inr ⟨Nat.le_refl _, by omega, q.1, q.2.2⟩
        · exact Or.inr ⟨by omega, by omega, h3⟩
      · rintro (h | ⟨h1, h2, h3⟩)
        · exact Or.inl (Or.inl h)
        · by_cases z : e = i
          · exact Or.inl (Or.inr z)
          · exact Or.inr ⟨by omega, by omega, h3⟩
    · rw [if_neg q]
      constructor
      · rintro (h | ⟨h1, h2, h3⟩)
        · exact Or.inl h
        · exact Or.inr ⟨by omega, by omega, h3⟩
      · rintro (h | ⟨h1, h2, h3⟩)
        · exact Or.inl h
        · by_cases z : e = i
          · subst z
            by_cases w : H.testBit e = true
            · exact Or.inl w
            · exact absurd ⟨h3.1, w, h3.2⟩ q
          · exact Or.inr ⟨by omega, by omega, h3⟩
def nhH (g : List Ed) (s t B : Nat) : Nat → Nat
  | 0 => 0
  | j + 1 => if cS g j g.length ≤ B then mmL g s t j g.length 0 (nhH g s t B j) else nhH g s t B j
theorem nhH_bit {g : List Ed} {s t B i : Nat} : ∀ j, (nhH g s t B j).testBit i = true ↔ ∃ T, T < j ∧ cS g T g.length ≤ B ∧ hps g s t T i := by
  intro j
  induction j with
  | zero =>
    constructor
    · intro h
      have h2 : (0 : Nat).testBit i = true := h
      rw [Nat.zero_testBit] at h2; cases h2
    · rintro ⟨T, h, -⟩; omega
  | succ j ih =>
    by_cases q : cS g j g.length ≤ B
    · have e : nhH g s t B (j + 1) = mmL g s t j g.length 0 (nhH g s t B j) := if_pos q
      rw [e, mmL_bit, ih]
      constructor
      · rintro (⟨T, h1, h2, h3⟩ | ⟨h1, h2, h3, h4⟩)
        · exact ⟨T, by omega, h2, h3⟩
        · exact ⟨j, by omega, q, by omega, h3, h4⟩
      · rintro ⟨T, h1, h2, h3⟩
        by_cases z : T = j
        · subst z; exact Or.inr ⟨Nat.zero_le _, by have := h3.1; omega, h3.2⟩
        · exact Or.inl ⟨T, by omega, h2, h3⟩
    · have e : nhH g s t B (j + 1) = nhH g s t B j := if_neg q
      rw [e, ih]
      constructor
      · rintro ⟨T, h1, h2, h3⟩
        exact ⟨T, by omega, h2, h3⟩
      · rintro ⟨T, h1, h2, h3⟩
        by_cases z : T = j
        · subst z; exact absurd h2 q
        · exact ⟨T, by omega, h2, h3⟩
theorem nhH_lt {g : List Ed} {s t B : Nat} (j : Nat) : nhH g s t B j < 2 ^ g.length := by
  refine Nat.lt_pow_two_of_testBit _ (fun i hi => ?_)
  cases a : (nhH g s t B j).testBit i
  · rfl
  · obtain ⟨T, -, -, h⟩ := (nhH_bit j).mp a
    have := h.1
    omega
theorem nhH_1 (g : List Ed) (s t B : Nat) : nhH g s t B 1 = 0 := by
  refine tb_ext (fun i => ?_)
  rw [Nat.zero_testBit]
  cases a : (nhH g s t B 1).testBit i
  · rfl
  · obtain ⟨T, h1, -, -, h, -⟩ := (nhH_bit 1).mp a
    have : T = 0 := by omega
    rw [this, Nat.zero_testBit] at h
    cases h
theorem nhH_hlp {g : List Ed} {s t B : Nat} (ho : ∀ x ∈ g, e_ok x) (ht : t < 8) (hB : B ≤ 16) : nhH g s t B (2 ^ g.length) = hlpF g s t B := by
  refine sbs_ext (fun i hi => ?_) (fun i hi => ?_)
  · obtain ⟨T, h1, h2, h3⟩ := (nhH_bit _).mp hi
    exact (grow_help ho ht hB).mpr ⟨T, ⟨h1, h2, djs_r0 T⟩, h3⟩
  · obtain ⟨T, h1, h2⟩ := (grow_help ho ht hB).mp hi
    exact (nhH_bit _).mpr ⟨T, h1.1, h1.2.1, h2⟩
theorem or_z (H : Nat) : nI H ||| 0 = nI H := by
  have := nb_or H 0
  rwa [Nat.or_zero] at this

set_option maxRecDepth 100000 in
set_option maxHeartbeats 2000000 in
theorem lp_ni (d : Nat) {g : List Ed} {u v B S : Nat} (hu : u < 8) (hv : v < 8) (hS : S < 2 ^ g.length) {mu0 : Nat → Nat → Int32} {h : Int64} {Q : rn_Q} : ∀ (k e : Nat) (H : Nat) (mu : Nat → Nat → Int32), e + k = g.length → (H < 65536) → (mg g mu) → (∀ c2, c2 ≠ 27 → mu c2 = mu0 c2) → (∀ mu2 : Nat → Nat → Int32, mg g mu2 → (∀ c2, c2 ≠ 27 → mu2 c2 = mu0 c2) → rn_R none mX9_neverHelps (d + 5) 148 [some (.ref 22), some (.int (nI u)), some (.int (nI v)), some (.int (nI B)), some (.int (nI (mmL g u v S k e H))), some (.int (nI S)), none, none, none] [] mu2 h Q) → rn_R none mX9_neverHelps (d + 5) 64 [some (.ref 22), some (.int (nI u)), some (.int (nI v)), some (.int (nI B)), some (.int (nI H)), some (.int (nI S)), some (.int (nI (xD g S u v 0))), some (.int (nI e)), none] [] mu h Q := by
  intro k
  induction k with
  | zero =>
    intro e H mu hek hH hg hfr kk
    refine rn_iload 66 dX9_neverHelps_64 rfl rfl ?_
    refine rn_aload_n 67 dX9_neverHelps_66 rfl rfl rfl ?_
    refine rn_get 70 (.ref 23) dX9_neverHelps_67 fl_X9_7 rfl rfl rfl rfl ?_
    refine rn_bipush (v := 80) 72 dX9_neverHelps_70 (by decide) rfl ?_
    refine rn_iald 73 (mu 23 80) dX9_neverHelps_72 rfl (vp_in_nI (n := 80) (by decide) (by decide)) rfl rfl ?_
    refine rn_icmp_ge 148 76 dX9_neverHelps_73 (by decide) rfl (fun _ => ?_) (fun c73 => absurd (by rw [hg.2.2.1]; exact nI_le (by omega) (by have := hg.1; omega)) c73)
    refine rn_drop 6 [some (.ref 22), some (.int (nI u)), some (.int (nI v)), some (.int (nI B)), some (.int (nI H)), some (.int (nI S)), none, some (.int (nI e)), none] rfl ?_
    refine rn_drop 7 [some (.ref 22), some (.int (nI u)), some (.int (nI v)), some (.int (nI B)), some (.int (nI H)), some (.int (nI S)), none, none, none] rfl ?_
    exact kk mu hg hfr
  | succ k ih =>
    intro e H mu hek hH hg hfr kk
    have h16 := hg.1
    have hp := pw_le hg.1
    have hlt : e < g.length := by omega
    have bx := xD_le (S := S) (s := u) (rep := 0) hg.2.1 hv
    have by2 := xD_le (S := nd S (2 ^ e)) (s := u) (rep := 0) hg.2.1 hv
    have hn : nd S (2 ^ e) < 2 ^ g.length := nd_lt hS
    have hm1 := c_mhas (d + 4) mu h (S := S) (e := e) (by omega) (by omega)
    have hm2 := c_mhas (d + 4) mu h (S := H) (e := e) (by omega) (by omega)
    by_cases q1 : S.testBit e = true
    · skip
      rw [if_pos q1] at hm1
      by_cases q2 : H.testBit e = true
      · skip
        rw [if_pos q2] at hm2
        refine rn_iload 66 dX9_neverHelps_64 rfl rfl ?_
        refine rn_aload_n 67 dX9_neverHelps_66 rfl rfl rfl ?_
        refine rn_get 70 (.ref 23) dX9_neverHelps_67 fl_X9_7 rfl rfl rfl rfl ?_
        refine rn_bipush (v := 80) 72 dX9_neverHelps_70 (by decide) rfl ?_
        refine rn_iald 73 (mu 23 80) dX9_neverHelps_72 rfl (vp_in_nI (n := 80) (by decide) (by decide)) rfl rfl ?_
        refine rn_icmp_ge 148 76 dX9_neverHelps_73 (by decide) rfl (fun c73 => absurd c73 (by rw [hg.2.2.1]; exact nI_ge hlt (by omega))) (fun _ => ?_)
        refine rn_iload 78 dX9_neverHelps_76 rfl rfl ?_
        refine rn_iload 80 dX9_neverHelps_78 rfl rfl ?_
        refine rn_csp mX9_has [.int (nI S), .int (nI e)] [] 83 (.int 1) dX9_neverHelps_80 cs_X9_42 rfl rfl (by simp [Value.category]) rfl (hm1) ?_
        refine rn_if_eq 100 86 dX9_neverHelps_83 (by decide) rfl (fun c83 => absurd c83 (by decide)) (fun _ => ?_)
        refine rn_iload 88 dX9_neverHelps_86 rfl rfl ?_
        refine rn_iload 90 dX9_neverHelps_88 rfl rfl ?_
        refine rn_csp mX9_has [.int (nI H), .int (nI e)] [] 93 (.int 1) dX9_neverHelps_90 cs_X9_42 rfl rfl (by simp [Value.category]) rfl (hm2) ?_
        refine rn_if_ne 100 96 dX9_neverHelps_93 (by decide) rfl (fun _ => ?_) (fun c93 => absurd c93 (by decide))
        refine rn_iconst (v := 0) 101 dX9_neverHelps_100 (by decide) rfl ?_
        refine rn_istore 103 [some (.ref 22), some (.int (nI u)), some (.int (nI v)), some (.int (nI B)), some (.int (nI H)), some (.int (nI S)), some (.int (nI (xD g S u v 0))), some (.int (nI e)), some (.int 0)] dX9_neverHelps_101 rfl (Nat.le_of_ble_eq_true rfl) rfl ?_
        refine rn_iload 105 dX9_neverHelps_103 rfl rfl ?_
        refine rn_iload 107 dX9_neverHelps_105 rfl rfl ?_
        refine rn_if_eq 138 110 dX9_neverHelps_107 (by decide) rfl (fun _ => ?_) (fun c107 => absurd (by decide) c107)
        refine rn_iconst (v := 0) 139 dX9_neverHelps_138 (by decide) rfl ?_
        refine rn_ior 140 dX9_neverHelps_139 rfl ?_
        rw [or_z]
        refine rn_istore 142 [some (.ref 22), some (.int (nI u)), some (.int (nI v)), some (.int (nI B)), some (.int (nI H)), some (.int (nI S)), some (.int (nI (xD g S u v 0))), some (.int (nI e)), some (.int 0)] dX9_neverHelps_140 rfl (Nat.le_of_ble_eq_true rfl) rfl ?_
        refine rn_iinc (v := (nI (e + 1))) 145 [some (.ref 22), some (.int (nI u)), some (.int (nI v)), some (.int (nI B)), some (.int (nI H)), some (.int (nI S)), some (.int (nI (xD g S u v 0))), some (.int (nI (e + 1))), some (.int 0)] dX9_neverHelps_142 rfl (nI_1 _) rfl rfl ?_
        refine rn_goto 64 dX9_neverHelps_145 (by decide) ?_
        refine rn_drop 8 [some (.ref 22), some (.int (nI u)), some (.int (nI v)), some (.int (nI B)), some (.int (nI H)), some (.int (nI S)), some (.int (nI (xD g S u v 0))), some (.int (nI (e + 1))), none] rfl ?_
        have em : mmL g u v S (k + 1) e H = mmL g u v S k (e + 1) H := by show mmL g u v S k (e + 1) (if _ then _ else _) = _; rw [if_neg (fun z => z.2.1 q2)]
        rw [em] at kk
        exact ih (e + 1) H mu (by omega) hH hg hfr kk
      · skip
        rw [if_neg q2] at hm2
        by_cases q3 : xD g (nd S (2 ^ e)) u v 0 < xD g S u v 0
        · skip
          refine rn_iload 66 dX9_neverHelps_64 rfl rfl ?_
          refine rn_aload_n 67 dX9_neverHelps_66 rfl rfl rfl ?_
          refine rn_get 70 (.ref 23) dX9_neverHelps_67 fl_X9_7 rfl rfl rfl rfl ?_
          refine rn_bipush (v := 80) 72 dX9_neverHelps_70 (by decide) rfl ?_
          refine rn_iald 73 (mu 23 80) dX9_neverHelps_72 rfl (vp_in_nI (n := 80) (by decide) (by decide)) rfl rfl ?_
          refine rn_icmp_ge 148 76 dX9_neverHelps_73 (by decide) rfl (fun c73 => absurd c73 (by rw [hg.2.2.1]; exact nI_ge hlt (by omega))) (fun _ => ?_)
          refine rn_iload 78 dX9_neverHelps_76 rfl rfl ?_
          refine rn_iload 80 dX9_neverHelps_78 rfl rfl ?_
          refine rn_csp mX9_has [.int (nI S), .int (nI e)] [] 83 (.int 1) dX9_neverHelps_80 cs_X9_42 rfl rfl (by simp [Value.category]) rfl (hm1) ?_
          refine rn_if_eq 100 86 dX9_neverHelps_83 (by decide) rfl (fun c83 => absurd c83 (by decide)) (fun _ => ?_)
          refine rn_iload 88 dX9_neverHelps_86 rfl rfl ?_
          refine rn_iload 90 dX9_neverHelps_88 rfl rfl ?_
          refine rn_csp mX9_has [.int (nI H), .int (nI e)] [] 93 (.int 0) dX9_neverHelps_90 cs_X9_42 rfl rfl (by simp [Value.category]) rfl (hm2) ?_
          refine rn_if_ne 100 96 dX9_neverHelps_93 (by decide) rfl (fun c93 => absurd (rfl) c93) (fun _ => ?_)
          refine rn_iconst (v := 1) 97 dX9_neverHelps_96 (by decide) rfl ?_
          refine rn_goto 101 dX9_neverHelps_97 (by decide) ?_
          refine rn_istore 103 [some (.ref 22), some (.int (nI u)), some (.int (nI v)), some (.int (nI B)), some (.int (nI H)), some (.int (nI S)), some (.int (nI (xD g S u v 0))), some (.int (nI e)), some (.int 1)] dX9_neverHelps_101 rfl (Nat.le_of_ble_eq_true rfl) rfl ?_
          refine rn_iload 105 dX9_neverHelps_103 rfl rfl ?_
          refine rn_iload 107 dX9_neverHelps_105 rfl rfl ?_
          refine rn_if_eq 138 110 dX9_neverHelps_107 (by decide) rfl (fun c107 => absurd c107 (by decide)) (fun _ => ?_)
          refine rn_iload 112 dX9_neverHelps_110 rfl rfl ?_
          refine rn_aload_n 113 dX9_neverHelps_112 rfl rfl rfl ?_
          refine rn_iload_n 114 dX9_neverHelps_113 rfl rfl rfl ?_
          refine rn_iload_n 115 dX9_neverHelps_114 rfl rfl rfl ?_
          refine rn_iload 117 dX9_neverHelps_115 rfl rfl ?_
          refine rn_iconst (v := 1) 118 dX9_neverHelps_117 (by decide) rfl ?_
          refine rn_iload 120 dX9_neverHelps_118 rfl rfl ?_
          refine rn_ishl 121 dX9_neverHelps_120 rfl ?_
          refine rn_iconst (v := (-1)) 122 dX9_neverHelps_121 (by decide) rfl ?_
          refine rn_ixor 123 dX9_neverHelps_122 rfl ?_
          refine rn_iand 124 dX9_neverHelps_123 rfl ?_
          rw [nb_1 (by omega), nb_andn]
          refine rn_iconst (v := 0) 125 dX9_neverHelps_124 (by decide) rfl ?_
          refine rn_callV mX9_far [.int (nI u), .int (nI v), .int (nI (nd S (2 ^ e))), .int 0] [.int (nI (xD g S u v 0)), .int (nI H)] dX9_neverHelps_125 cv_X9_134 rfl rfl rfl (by simp [Value.category]) (c_far (d) (S := nd S (2 ^ e)) (s := u) (t := v) (rep := 0) (by omega) hu hv (by omega) h hg) (fun r1 m1 h1 q1 _ => ?_)
          obtain ⟨e1, k1, f1⟩ := q1
          rw [e1, k1]
          have hg1 : mg g m1 := mg_of hg (f1 23 (by omega))
          show rn_R _ mX9_neverHelps _ 128 [some (.ref 22), some (.int (nI u)), some (.int (nI v)), some (.int (nI B)), some (.int (nI H)), some (.int (nI S)), some (.int (nI (xD g S u v 0))), some (.int (nI e)), some (.int 1)] [.int (nI (xD g (nd S (2 ^ e)) u v 0)), .int (nI (xD g S u v 0)), .int (nI H)] m1 h _
          refine rn_icmp_le 138 131 dX9_neverHelps_128 (by decide) rfl (fun c128 => absurd c128 (nI_ge q3 (by omega))) (fun _ => ?_)
          refine rn_iconst (v := 1) 132 dX9_neverHelps_131 (by decide) rfl ?_
          refine rn_iload 134 dX9_neverHelps_132 rfl rfl ?_
          refine rn_ishl 135 dX9_neverHelps_134 rfl ?_
          refine rn_goto 139 dX9_neverHelps_135 (by decide) ?_
          refine rn_ior 140 dX9_neverHelps_139 rfl ?_
          rw [nb_1 (by omega), nb_or]
          refine rn_istore 142 [some (.ref 22), some (.int (nI u)), some (.int (nI v)), some (.int (nI B)), some (.int (nI (H ||| 2 ^ e))), some (.int (nI S)), some (.int (nI (xD g S u v 0))), some (.int (nI e)), some (.int 1)] dX9_neverHelps_140 rfl (Nat.le_of_ble_eq_true rfl) rfl ?_
          refine rn_iinc (v := (nI (e + 1))) 145 [some (.ref 22), some (.int (nI u)), some (.int (nI v)), some (.int (nI B)), some (.int (nI (H ||| 2 ^ e))), some (.int (nI S)), some (.int (nI (xD g S u v 0))), some (.int (nI (e + 1))), some (.int 1)] dX9_neverHelps_142 rfl (nI_1 _) rfl rfl ?_
          refine rn_goto 64 dX9_neverHelps_145 (by decide) ?_
          refine rn_drop 8 [some (.ref 22), some (.int (nI u)), some (.int (nI v)), some (.int (nI B)), some (.int (nI (H ||| 2 ^ e))), some (.int (nI S)), some (.int (nI (xD g S u v 0))), some (.int (nI (e + 1))), none] rfl ?_
          have em : mmL g u v S (k + 1) e H = mmL g u v S k (e + 1) (H ||| 2 ^ e) := by show mmL g u v S k (e + 1) (if _ then _ else _) = _; rw [if_pos ⟨q1, q2, q3⟩]
          rw [em] at kk
          exact ih (e + 1) (H ||| 2 ^ e) m1 (by omega) (tb_add_lt (n := 16) hH (by omega)) hg1 (fun c2 h2 => by rw [f1 c2 h2]; exact hfr c2 h2) kk
        · skip
          refine rn_iload 66 dX9_neverHelps_64 rfl rfl ?_
          refine rn_aload_n 67 dX9_neverHelps_66 rfl rfl rfl ?_
          refine rn_get 70 (.ref 23) dX9_neverHelps_67 fl_X9_7 rfl rfl rfl rfl ?_
          refine rn_bipush (v := 80) 72 dX9_neverHelps_70 (by decide) rfl ?_
          refine rn_iald 73 (mu 23 80) dX9_neverHelps_72 rfl (vp_in_nI (n := 80) (by decide) (by decide)) rfl rfl ?_
          refine rn_icmp_ge 148 76 dX9_neverHelps_73 (by decide) rfl (fun c73 => absurd c73 (by rw [hg.2.2.1]; exact nI_ge hlt (by omega))) (fun _ => ?_)
          refine rn_iload 78 dX9_neverHelps_76 rfl rfl ?_
          refine rn_iload 80 dX9_neverHelps_78 rfl rfl ?_
          refine rn_csp mX9_has [.int (nI S), .int (nI e)] [] 83 (.int 1) dX9_neverHelps_80 cs_X9_42 rfl rfl (by simp [Value.category]) rfl (hm1) ?_
          refine rn_if_eq 100 86 dX9_neverHelps_83 (by decide) rfl (fun c83 => absurd c83 (by decide)) (fun _ => ?_)
          refine rn_iload 88 dX9_neverHelps_86 rfl rfl ?_
          refine rn_iload 90 dX9_neverHelps_88 rfl rfl ?_
          refine rn_csp mX9_has [.int (nI H), .int (nI e)] [] 93 (.int 0) dX9_neverHelps_90 cs_X9_42 rfl rfl (by simp [Value.category]) rfl (hm2) ?_
          refine rn_if_ne 100 96 dX9_neverHelps_93 (by decide) rfl (fun c93 => absurd (rfl) c93) (fun _ => ?_)
          refine rn_iconst (v := 1) 97 dX9_neverHelps_96 (by decide) rfl ?_
          refine rn_goto 101 dX9_neverHelps_97 (by decide) ?_
          refine rn_istore 103 [some (.ref 22), some (.int (nI u)), some (.int (nI v)), some (.int (nI B)), some (.int (nI H)), some (.int (nI S)), some (.int (nI (xD g S u v 0))), some (.int (nI e)), some (.int 1)] dX9_neverHelps_101 rfl (Nat.le_of_ble_eq_true rfl) rfl ?_
          refine rn_iload 105 dX9_neverHelps_103 rfl rfl ?_
          refine rn_iload 107 dX9_neverHelps_105 rfl rfl ?_
          refine rn_if_eq 138 110 dX9_neverHelps_107 (by decide) rfl (fun c107 => absurd c107 (by decide)) (fun _ => ?_)
          refine rn_iload 112 dX9_neverHelps_110 rfl rfl ?_
          refine rn_aload_n 113 dX9_neverHelps_112 rfl rfl rfl ?_
          refine rn_iload_n 114 dX9_neverHelps_113 rfl rfl rfl ?_
          refine rn_iload_n 115 dX9_neverHelps_114 rfl rfl rfl ?_
          refine rn_iload 117 dX9_neverHelps_115 rfl rfl ?_
          refine rn_iconst (v := 1) 118 dX9_neverHelps_117 (by decide) rfl ?_
          refine rn_iload 120 dX9_neverHelps_118 rfl rfl ?_
          refine rn_ishl 121 dX9_neverHelps_120 rfl ?_
          refine rn_iconst (v := (-1)) 122 dX9_neverHelps_121 (by decide) rfl ?_
          refine rn_ixor 123 dX9_neverHelps_122 rfl ?_
          refine rn_iand 124 dX9_neverHelps_123 rfl ?_
          rw [nb_1 (by omega), nb_andn]
          refine rn_iconst (v := 0) 125 dX9_neverHelps_124 (by decide) rfl ?_
          refine rn_callV mX9_far [.int (nI u), .int (nI v), .int (nI (nd S (2 ^ e))), .int 0] [.int (nI (xD g S u v 0)), .int (nI H)] dX9_neverHelps_125 cv_X9_134 rfl rfl rfl (by simp [Value.category]) (c_far (d) (S := nd S (2 ^ e)) (s := u) (t := v) (rep := 0) (by omega) hu hv (by omega) h hg) (fun r1 m1 h1 q1 _ => ?_)
          obtain ⟨e1, k1, f1⟩ := q1
          rw [e1, k1]
          have hg1 : mg g m1 := mg_of hg (f1 23 (by omega))
          show rn_R _ mX9_neverHelps _ 128 [some (.ref 22), some (.int (nI u)), some (.int (nI v)), some (.int (nI B)), some (.int (nI H)), some (.int (nI S)), some (.int (nI (xD g S u v 0))), some (.int (nI e)), some (.int 1)] [.int (nI (xD g (nd S (2 ^ e)) u v 0)), .int (nI (xD g S u v 0)), .int (nI H)] m1 h _
          refine rn_icmp_le 138 131 dX9_neverHelps_128 (by decide) rfl (fun _ => ?_) (fun c128 => absurd (nI_le (by omega) (by omega)) c128)
          refine rn_iconst (v := 0) 139 dX9_neverHelps_138 (by decide) rfl ?_
          refine rn_ior 140 dX9_neverHelps_139 rfl ?_
          rw [or_z]
          refine rn_istore 142 [some (.ref 22), some (.int (nI u)), some (.int (nI v)), some (.int (nI B)), some (.int (nI H)), some (.int (nI S)), some (.int (nI (xD g S u v 0))), some (.int (nI e)), some (.int 1)] dX9_neverHelps_140 rfl (Nat.le_of_ble_eq_true rfl) rfl ?_
          refine rn_iinc (v := (nI (e + 1))) 145 [some (.ref 22), some (.int (nI u)), some (.int (nI v)), some (.int (nI B)), some (.int (nI H)), some (.int (nI S)), some (.int (nI (xD g S u v 0))), some (.int (nI (e + 1))), some (.int 1)] dX9_neverHelps_142 rfl (nI_1 _) rfl rfl ?_
          refine rn_goto 64 dX9_neverHelps_145 (by decide) ?_
          refine rn_drop 8 [some (.ref 22), some (.int (nI u)), some (.int (nI v)), some (.int (nI B)), some (.int (nI H)), some (.int (nI S)), some (.int (nI (xD g S u v 0))), some (.int (nI (e + 1))), none] rfl ?_
          have em : mmL g u v S (k + 1) e H = mmL g u v S k (e + 1) H := by show mmL g u v S k (e + 1) (if _ then _ else _) = _; rw [if_neg (fun z => q3 z.2.2)]
          rw [em] at kk
          exact ih (e + 1) H m1 (by omega) hH hg1 (fun c2 h2 => by rw [f1 c2 h2]; exact hfr c2 h2) kk
    · skip
      rw [if_neg q1] at hm1
      refine rn_iload 66 dX9_neverHelps_64 rfl rfl ?_
      refine rn_aload_n 67 dX9_neverHelps_66 rfl rfl rfl ?_
      refine rn_get 70 (.ref 23) dX9_neverHelps_67 fl_X9_7 rfl rfl rfl rfl ?_
      refine rn_bipush (v := 80) 72 dX9_neverHelps_70 (by decide) rfl ?_
      refine rn_iald 73 (mu 23 80) dX9_neverHelps_72 rfl (vp_in_nI (n := 80) (by decide) (by decide)) rfl rfl ?_
      refine rn_icmp_ge 148 76 dX9_neverHelps_73 (by decide) rfl (fun c73 => absurd c73 (by rw [hg.2.2.1]; exact nI_ge hlt (by omega))) (fun _ => ?_)
      refine rn_iload 78 dX9_neverHelps_76 rfl rfl ?_
      refine rn_iload 80 dX9_neverHelps_78 rfl rfl ?_
      refine rn_csp mX9_has [.int (nI S), .int (nI e)] [] 83 (.int 0) dX9_neverHelps_80 cs_X9_42 rfl rfl (by simp [Value.category]) rfl (hm1) ?_
      refine rn_if_eq 100 86 dX9_neverHelps_83 (by decide) rfl (fun _ => ?_) (fun c83 => absurd (by decide) c83)
      refine rn_iconst (v := 0) 101 dX9_neverHelps_100 (by decide) rfl ?_
      refine rn_istore 103 [some (.ref 22), some (.int (nI u)), some (.int (nI v)), some (.int (nI B)), some (.int (nI H)), some (.int (nI S)), some (.int (nI (xD g S u v 0))), some (.int (nI e)), some (.int 0)] dX9_neverHelps_101 rfl (Nat.le_of_ble_eq_true rfl) rfl ?_
      refine rn_iload 105 dX9_neverHelps_103 rfl rfl ?_
      refine rn_iload 107 dX9_neverHelps_105 rfl rfl ?_
      refine rn_if_eq 138 110 dX9_neverHelps_107 (by decide) rfl (fun _ => ?_) (fun c107 => absurd (by decide) c107)
      refine rn_iconst (v := 0) 139 dX9_neverHelps_138 (by decide) rfl ?_
      refine rn_ior 140 dX9_neverHelps_139 rfl ?_
      rw [or_z]
      refine rn_istore 142 [some (.ref 22), some (.int (nI u)), some (.int (nI v)), some (.int (nI B)), some (.int (nI H)), some (.int (nI S)), some (.int (nI (xD g S u v 0))), some (.int (nI e)), some (.int 0)] dX9_neverHelps_140 rfl (Nat.le_of_ble_eq_true rfl) rfl ?_
      refine rn_iinc (v := (nI (e + 1))) 145 [some (.ref 22), some (.int (nI u)), some (.int (nI v)), some (.int (nI B)), some (.int (nI H)), some (.int (nI S)), some (.int (nI (xD g S u v 0))), some (.int (nI (e + 1))), some (.int 0)] dX9_neverHelps_142 rfl (nI_1 _) rfl rfl ?_
      refine rn_goto 64 dX9_neverHelps_145 (by decide) ?_
      refine rn_drop 8 [some (.ref 22), some (.int (nI u)), some (.int (nI v)), some (.int (nI B)), some (.int (nI H)), some (.int (nI S)), some (.int (nI (xD g S u v 0))), some (.int (nI (e + 1))), none] rfl ?_
      have em : mmL g u v S (k + 1) e H = mmL g u v S k (e + 1) H := by show mmL g u v S k (e + 1) (if _ then _ else _) = _; rw [if_neg (fun z => q1 z.1)]
      rw [em] at kk
      exact ih (e + 1) H mu (by omega) hH hg hfr kk

set_option maxRecDepth 100000 in
set_option maxHeartbeats 2000000 in
theorem lp_no (d : Nat) {g : List Ed} {u v B : Nat} (hu : u < 8) (hv : v < 8) (hB : B ≤ 5) {mu0 : Nat → Nat → Int32} {h : Int64} : ∀ (k j : Nat) (mu : Nat → Nat → Int32), j + k = 2 ^ g.length → (mg g mu) → (∀ c2, c2 ≠ 27 → mu c2 = mu0 c2) → rn_R none mX9_neverHelps (d + 5) 26 [some (.ref 22), some (.int (nI u)), some (.int (nI v)), some (.int (nI B)), some (.int (nI (nhH g u v B j))), some (.int (nI j)), none, none, none] [] mu h (fun r mu' h' => r = some (.int (nI (nd (2 ^ g.length - 1) (nhH g u v B (2 ^ g.length))))) ∧ h' = h ∧ ∀ c2, c2 ≠ 27 → mu' c2 = mu0 c2) := by
  intro k
  induction k with
  | zero =>
    intro j mu hek hg hfr
    have h16 := hg.1
    have hp := pw_le hg.1
    obtain rfl : j = 2 ^ g.length := by omega
    refine rn_iload 28 dX9_neverHelps_26 rfl rfl ?_
    refine rn_iconst (v := 1) 29 dX9_neverHelps_28 (by decide) rfl ?_
    refine rn_aload_n 30 dX9_neverHelps_29 rfl rfl rfl ?_
    refine rn_get 33 (.ref 23) dX9_neverHelps_30 fl_X9_7 rfl rfl rfl rfl ?_
    refine rn_bipush (v := 80) 35 dX9_neverHelps_33 (by decide) rfl ?_
    refine rn_iald 36 (mu 23 80) dX9_neverHelps_35 rfl (vp_in_nI (n := 80) (by decide) (by decide)) rfl rfl ?_
    refine rn_ishl 37 dX9_neverHelps_36 rfl ?_
    rw [hg.2.2.1, nb_1 (by omega)]
    refine rn_icmp_ge 154 40 dX9_neverHelps_37 (by decide) rfl (fun _ => ?_) (fun c37 => absurd (nI_le (Nat.le_refl _) (by omega)) c37)
    refine rn_iconst (v := 1) 155 dX9_neverHelps_154 (by decide) rfl ?_
    refine rn_aload_n 156 dX9_neverHelps_155 rfl rfl rfl ?_
    refine rn_get 159 (.ref 23) dX9_neverHelps_156 fl_X9_7 rfl rfl rfl rfl ?_
    refine rn_bipush (v := 80) 161 dX9_neverHelps_159 (by decide) rfl ?_
    refine rn_iald 162 (mu 23 80) dX9_neverHelps_161 rfl (vp_in_nI (n := 80) (by decide) (by decide)) rfl rfl ?_
    refine rn_ishl 163 dX9_neverHelps_162 rfl ?_
    refine rn_iconst (v := 1) 164 dX9_neverHelps_163 (by decide) rfl ?_
    refine rn_isub 165 dX9_neverHelps_164 rfl ?_
    refine rn_iload 167 dX9_neverHelps_165 rfl rfl ?_
    refine rn_iconst (v := (-1)) 168 dX9_neverHelps_167 (by decide) rfl ?_
    refine rn_ixor 169 dX9_neverHelps_168 rfl ?_
    refine rn_iand 170 dX9_neverHelps_169 rfl ?_
    exact rn_iret rfl dX9_neverHelps_170 (⟨by rw [hg.2.2.1, nb_1 (by omega), nI_sub1 (pw_pos _), nb_andn], rfl, hfr⟩)
  | succ k ih =>
    intro j mu hek hg hfr
    have h16 := hg.1
    have hp := pw_le hg.1
    have hlt : j < 2 ^ g.length := by omega
    have hcs := cS_le hg.2.1 j g.length (Nat.le_refl _)
    have hH := nhH_lt (g := g) (s := u) (t := v) (B := B) j
    by_cases q1 : cS g j g.length ≤ B
    · skip
      refine rn_iload 28 dX9_neverHelps_26 rfl rfl ?_
      refine rn_iconst (v := 1) 29 dX9_neverHelps_28 (by decide) rfl ?_
      refine rn_aload_n 30 dX9_neverHelps_29 rfl rfl rfl ?_
      refine rn_get 33 (.ref 23) dX9_neverHelps_30 fl_X9_7 rfl rfl rfl rfl ?_
      refine rn_bipush (v := 80) 35 dX9_neverHelps_33 (by decide) rfl ?_
      refine rn_iald 36 (mu 23 80) dX9_neverHelps_35 rfl (vp_in_nI (n := 80) (by decide) (by decide)) rfl rfl ?_
      refine rn_ishl 37 dX9_neverHelps_36 rfl ?_
      rw [hg.2.2.1, nb_1 (by omega)]
      refine rn_icmp_ge 154 40 dX9_neverHelps_37 (by decide) rfl (fun c37 => absurd c37 (nI_ge hlt (by omega))) (fun _ => ?_)
      refine rn_aload_n 41 dX9_neverHelps_40 rfl rfl rfl ?_
      refine rn_iload 43 dX9_neverHelps_41 rfl rfl ?_
      refine rn_cvp mX9_costOf [.int (nI j)] [] 46 (.int (nI (cS g j g.length))) dX9_neverHelps_43 cv_X9_118 rfl rfl rfl (by simp [Value.category]) rfl (c_costOf (d + 2) h hg (S := j) (by omega)) ?_
      refine rn_iload_n 47 dX9_neverHelps_46 rfl rfl rfl ?_
      refine rn_icmp_gt 148 50 dX9_neverHelps_47 (by decide) rfl (fun c47 => absurd c47 (nI_nlt (by omega) (by omega))) (fun _ => ?_)
      refine rn_aload_n 51 dX9_neverHelps_50 rfl rfl rfl ?_
      refine rn_iload_n 52 dX9_neverHelps_51 rfl rfl rfl ?_
      refine rn_iload_n 53 dX9_neverHelps_52 rfl rfl rfl ?_
      refine rn_iload 55 dX9_neverHelps_53 rfl rfl ?_
      refine rn_iconst (v := 0) 56 dX9_neverHelps_55 (by decide) rfl ?_
      refine rn_callV mX9_far [.int (nI u), .int (nI v), .int (nI j), .int 0] [] dX9_neverHelps_56 cv_X9_134 rfl rfl rfl (by simp [Value.category]) (c_far (d) (S := j) (s := u) (t := v) (rep := 0) (by omega) hu hv (by omega) h hg) (fun r1 m1 h1 q1 _ => ?_)
      obtain ⟨e1, k1, f1⟩ := q1
      rw [e1, k1]
      have hg1 : mg g m1 := mg_of hg (f1 23 (by omega))
      show rn_R _ mX9_neverHelps _ 59 [some (.ref 22), some (.int (nI u)), some (.int (nI v)), some (.int (nI B)), some (.int (nI (nhH g u v B j))), some (.int (nI j)), none, none, none] [.int (nI (xD g j u v 0))] m1 h _
      refine rn_istore 61 [some (.ref 22), some (.int (nI u)), some (.int (nI v)), some (.int (nI B)), some (.int (nI (nhH g u v B j))), some (.int (nI j)), some (.int (nI (xD g j u v 0))), none, none] dX9_neverHelps_59 rfl (Nat.le_of_ble_eq_true rfl) rfl ?_
      refine rn_iconst (v := 0) 62 dX9_neverHelps_61 (by decide) rfl ?_
      refine rn_istore 64 [some (.ref 22), some (.int (nI u)), some (.int (nI v)), some (.int (nI B)), some (.int (nI (nhH g u v B j))), some (.int (nI j)), some (.int (nI (xD g j u v 0))), some (.int 0), none] dX9_neverHelps_62 rfl (Nat.le_of_ble_eq_true rfl) rfl ?_
      refine lp_ni d hu hv (S := j) hlt (mu0 := mu0) g.length 0 (nhH g u v B j) m1 (by omega) (by omega) hg1 (fun c2 h2 => by rw [f1 c2 h2]; exact hfr c2 h2) (fun m2 hg2 hfr2 => ?_)
      refine rn_iinc (v := (nI (j + 1))) 151 [some (.ref 22), some (.int (nI u)), some (.int (nI v)), some (.int (nI B)), some (.int (nI (mmL g u v j g.length 0 (nhH g u v B j)))), some (.int (nI (j + 1))), none, none, none] dX9_neverHelps_148 rfl (nI_1 _) rfl rfl ?_
      refine rn_goto 26 dX9_neverHelps_151 (by decide) ?_
      have em : nhH g u v B (j + 1) = mmL g u v j g.length 0 (nhH g u v B j) := if_pos q1
      have z := ih (j + 1) m2 (by omega) hg2 hfr2
      rw [em] at z
      exact z
    · skip
      refine rn_iload 28 dX9_neverHelps_26 rfl rfl ?_
      refine rn_iconst (v := 1) 29 dX9_neverHelps_28 (by decide) rfl ?_
      refine rn_aload_n 30 dX9_neverHelps_29 rfl rfl rfl ?_
      refine rn_get 33 (.ref 23) dX9_neverHelps_30 fl_X9_7 rfl rfl rfl rfl ?_
      refine rn_bipush (v := 80) 35 dX9_neverHelps_33 (by decide) rfl ?_
      refine rn_iald 36 (mu 23 80) dX9_neverHelps_35 rfl (vp_in_nI (n := 80) (by decide) (by decide)) rfl rfl ?_
      refine rn_ishl 37 dX9_neverHelps_36 rfl ?_
      rw [hg.2.2.1, nb_1 (by omega)]
      refine rn_icmp_ge 154 40 dX9_neverHelps_37 (by decide) rfl (fun c37 => absurd c37 (nI_ge hlt (by omega))) (fun _ => ?_)
      refine rn_aload_n 41 dX9_neverHelps_40 rfl rfl rfl ?_
      refine rn_iload 43 dX9_neverHelps_41 rfl rfl ?_
      refine rn_cvp mX9_costOf [.int (nI j)] [] 46 (.int (nI (cS g j g.length))) dX9_neverHelps_43 cv_X9_118 rfl rfl rfl (by simp [Value.category]) rfl (c_costOf (d + 2) h hg (S := j) (by omega)) ?_
      refine rn_iload_n 47 dX9_neverHelps_46 rfl rfl rfl ?_
      refine rn_icmp_gt 148 50 dX9_neverHelps_47 (by decide) rfl (fun _ => ?_) (fun c47 => absurd (nI_lt (by omega) (by omega)) c47)
      refine rn_iinc (v := (nI (j + 1))) 151 [some (.ref 22), some (.int (nI u)), some (.int (nI v)), some (.int (nI B)), some (.int (nI (nhH g u v B j))), some (.int (nI (j + 1))), none, none, none] dX9_neverHelps_148 rfl (nI_1 _) rfl rfl ?_
      refine rn_goto 26 dX9_neverHelps_151 (by decide) ?_
      have em : nhH g u v B (j + 1) = nhH g u v B j := if_neg q1
      have z := ih (j + 1) mu (by omega) hg hfr
      rw [em] at z
      exact z

set_option maxRecDepth 100000 in
set_option maxHeartbeats 2000000 in
theorem m_nev_b (d : Nat) {g : List Ed} {a : Nat} {hs : List Sg} {tx : List Nat} {f : Int32} {v1 v2 v3 : Int32} (hv : ¬ ((isin v1 8 ∧ isin v2 8) ∧ isin v3 (5 + 1))) : MC mX9_neverHelps (d + 2) [.int v1, .int v2, .int v3] (g, a, hs, tx, f) (g, a, hs, tx, f) (.int (-2)) := by
  intro mu h hs0
  obtain ⟨hg, ha, hh, ht, hf⟩ := id hs0
  simp only at hg ha hh ht hf
  refine gd_of rfl (Nat.le_of_ble_eq_true rfl) ?_
  show rn_R none mX9_neverHelps (d + 2) 0 [some (.ref 22), some (.int v1), some (.int v2), some (.int v3), none, none, none, none, none] [] mu h (fun r mu' _ => r = some (.int (-2)) ∧ mS (g, a, hs, tx, f) mu' ∧ ∀ c, c < 22 → mu' c = mu c)
  by_cases qq0 : isin v1 8 ∧ isin v2 8
  · skip
    have qq1 : ¬ (isin v3 (5 + 1)) := fun z => hv ⟨qq0, z⟩
    refine rn_iload_n 1 dX9_neverHelps_0 rfl rfl rfl ?_
    refine rn_iload_n 2 dX9_neverHelps_1 rfl rfl rfl ?_
    refine rn_csp mX9_areNodes [.int v1, .int v2] [] 5 (.int 1) dX9_neverHelps_2 cs_X9_53 rfl rfl (by simp [Value.category]) rfl (c_mareNodes_t (d) mu h qq0.1 qq0.2) ?_
    refine rn_if_eq 17 8 dX9_neverHelps_5 (by decide) rfl (fun c5 => absurd c5 (by decide)) (fun _ => ?_)
    refine rn_iload_n 9 dX9_neverHelps_8 rfl rfl rfl ?_
    refine rn_iconst (v := 0) 10 dX9_neverHelps_9 (by decide) rfl ?_
    refine rn_iconst (v := 5) 11 dX9_neverHelps_10 (by decide) rfl ?_
    refine rn_csp mX9_in [.int v3, .int 0, .int 5] [] 14 (.int 0) dX9_neverHelps_11 cs_X9_38 rfl rfl (by simp [Value.category]) rfl (c_in_f (d + 1) mu h (nisin (n := 5) (by omega) qq1)) ?_
    refine rn_if_ne 20 17 dX9_neverHelps_14 (by decide) rfl (fun c14 => absurd (rfl) c14) (fun _ => ?_)
    refine rn_bipush (v := (-2)) 19 dX9_neverHelps_17 (by decide) rfl ?_
    exact rn_iret rfl dX9_neverHelps_19 (⟨rfl, hs0, fun _ _ => rfl⟩)
  · skip
    refine rn_iload_n 1 dX9_neverHelps_0 rfl rfl rfl ?_
    refine rn_iload_n 2 dX9_neverHelps_1 rfl rfl rfl ?_
    refine rn_csp mX9_areNodes [.int v1, .int v2] [] 5 (.int 0) dX9_neverHelps_2 cs_X9_53 rfl rfl (by simp [Value.category]) rfl (c_mareNodes_f (d) mu h qq0) ?_
    refine rn_if_eq 17 8 dX9_neverHelps_5 (by decide) rfl (fun _ => ?_) (fun c5 => absurd (by decide) c5)
    refine rn_bipush (v := (-2)) 19 dX9_neverHelps_17 (by decide) rfl ?_
    exact rn_iret rfl dX9_neverHelps_19 (⟨rfl, hs0, fun _ _ => rfl⟩)

set_option maxRecDepth 100000 in
set_option maxHeartbeats 2000000 in
theorem m_nev_t (d : Nat) {g : List Ed} {a : Nat} {hs : List Sg} {tx : List Nat} {f : Int32} {u v : Nat} (hu : u < 8) (hv : v < 8) {B : Nat} (hB : B < 6) : MC mX9_neverHelps (d + 5) [.int (nI u), .int (nI v), .int (nI B)] (g, a, hs, tx, f) (g, a, hs, tx, f) (.int (nI (nd (2 ^ g.length - 1) (hlpF g u v B)))) := by
  intro mu h hs0
  obtain ⟨hg, ha, hh, ht, hf⟩ := id hs0
  simp only at hg ha hh ht hf
  refine gd_of rfl (Nat.le_of_ble_eq_true rfl) ?_
  show rn_R none mX9_neverHelps (d + 5) 0 [some (.ref 22), some (.int (nI u)), some (.int (nI v)), some (.int (nI B)), none, none, none, none, none] [] mu h (fun r mu' _ => r = some (.int (nI (nd (2 ^ g.length - 1) (hlpF g u v B)))) ∧ mS (g, a, hs, tx, f) mu' ∧ ∀ c, c < 22 → mu' c = mu c)
  have en := nhH_hlp (g := g) (s := u) (t := v) (B := B) hg.2.1 hv (by omega)
  refine rn_iload_n 1 dX9_neverHelps_0 rfl rfl rfl ?_
  refine rn_iload_n 2 dX9_neverHelps_1 rfl rfl rfl ?_
  refine rn_csp mX9_areNodes [.int (nI u), .int (nI v)] [] 5 (.int 1) dX9_neverHelps_2 cs_X9_53 rfl rfl (by simp [Value.category]) rfl (c_mareNodes_t (d + 3) mu h ⟨u, hu, rfl⟩ ⟨v, hv, rfl⟩) ?_
  refine rn_if_eq 17 8 dX9_neverHelps_5 (by decide) rfl (fun c5 => absurd c5 (by decide)) (fun _ => ?_)
  refine rn_iload_n 9 dX9_neverHelps_8 rfl rfl rfl ?_
  refine rn_iconst (v := 0) 10 dX9_neverHelps_9 (by decide) rfl ?_
  refine rn_iconst (v := 5) 11 dX9_neverHelps_10 (by decide) rfl ?_
  refine rn_csp mX9_in [.int (nI B), .int 0, .int 5] [] 14 (.int 1) dX9_neverHelps_11 cs_X9_38 rfl rfl (by simp [Value.category]) rfl (c_in_i (d + 4) mu h (M := 5) (⟨B, hB, rfl⟩) (by omega)) ?_
  refine rn_if_ne 20 17 dX9_neverHelps_14 (by decide) rfl (fun _ => ?_) (fun c14 => absurd c14 (by decide))
  refine rn_iconst (v := 0) 21 dX9_neverHelps_20 (by decide) rfl ?_
  refine rn_istore 23 [some (.ref 22), some (.int (nI u)), some (.int (nI v)), some (.int (nI B)), some (.int 0), none, none, none, none] dX9_neverHelps_21 rfl (Nat.le_of_ble_eq_true rfl) rfl ?_
  refine rn_iconst (v := 1) 24 dX9_neverHelps_23 (by decide) rfl ?_
  refine rn_istore 26 [some (.ref 22), some (.int (nI u)), some (.int (nI v)), some (.int (nI B)), some (.int 0), some (.int 1), none, none, none] dX9_neverHelps_24 rfl (Nat.le_of_ble_eq_true rfl) rfl ?_
  have z := lp_no d hu hv (B := B) (by omega) (mu0 := mu) (h := h) (2 ^ g.length - 1) 1 mu (by have := pw_pos g.length; omega) hg (fun _ _ => rfl)
  rw [nhH_1, en] at z
  exact rn_mono z (fun r m2 h2 q => ⟨q.1, mS_fr hs0 (fun c c1 c2 => q.2.2 c (by omega)), fun c hc => q.2.2 c (by omega)⟩)

theorem op_budgetFor (v1 v2 v3 : Int32) : OP mX8_budgetFor mX9_budgetFor [.int v1, .int v2, .int v3] := by
  rintro ⟨g, a, hs, tx, f⟩
  by_cases hn : ∀ x ∈ g, e_ok x
  · by_cases hv : (isin v1 8 ∧ isin v2 8) ∧ isin v3 (9999 + 1)
    · obtain ⟨⟨⟨u, hu, rfl⟩, v, hv, rfl⟩, m, hm, rfl⟩ := hv
      obtain ⟨q, -, hq⟩ := grow_best (s := u) (rep := 0) (aim := m) (F := 0) hn hv (show 5 ≤ 16 by omega)
      by_cases z : q.1 < m
      · exact ⟨_, _, x_bud_n 79 hu hv hm hq z, m_bud_n 95 hu hv hm hq z⟩
      · exact ⟨_, _, x_bud_t 79 hu hv hm hq z, m_bud_t 95 hu hv hm hq z⟩
    · exact ⟨_, _, x_bud_b 98 hv, m_bud_b 98 hv⟩
  · exact OP_no hn
theorem op_neverHelps (v1 v2 v3 : Int32) : OP mX8_neverHelps mX9_neverHelps [.int v1, .int v2, .int v3] := by
  rintro ⟨g, a, hs, tx, f⟩
  by_cases hv : (isin v1 8 ∧ isin v2 8) ∧ isin v3 (5 + 1)
  · obtain ⟨⟨⟨u, hu, rfl⟩, v, hv, rfl⟩, B, hB, rfl⟩ := hv
    exact ⟨_, _, x_nev_t 79 hu hv hB, m_nev_t 95 hu hv hB⟩
  · exact ⟨_, _, x_nev_b 98 hv, m_nev_b 98 hv⟩
