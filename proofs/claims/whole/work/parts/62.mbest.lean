/-! THE REFERENCE: bestFar; interdict, interdictResponse, both sides -/
def bfF (g : List Ed) (s t rep B F : Nat) : Nat → Option Kx
  | 0 => none
  | j + 1 => if j &&& F = 0 ∧ cS g j g.length ≤ B then wgh (bfF g s t rep B F j) (xD g j s t rep, cS g j g.length, j) else bfF g s t rep B F j
def mst (b : Option Kx) : Int32 := match b with
  | none => -1
  | some q => nI q.1
def chp (b : Option Kx) : Int32 := match b with
  | none => 0
  | some q => nI q.2.1
theorem and_djs {S F : Nat} : S &&& F = 0 ↔ djs S F := by
  constructor
  · intro h i h1 h2
    have := congrArg (fun n => n.testBit i) h
    simp [Nat.testBit_and, h1, h2] at this
  · intro h
    refine tb_ext (fun i => ?_)
    rw [Nat.testBit_and, Nat.zero_testBit]
    cases a : S.testBit i
    · rfl
    · cases b : F.testBit i
      · rfl
      · exact absurd b (h i a)
theorem bfF_ok {g : List Ed} {s t rep B F : Nat} : ∀ j, (∀ q, bfF g s t rep B F j = some q → ∃ T, T < j ∧ T &&& F = 0 ∧ cS g T g.length ≤ B ∧ q = (xD g T s t rep, cS g T g.length, T)) ∧ ∀ T, T < j → T &&& F = 0 → cS g T g.length ≤ B → ∃ q, bfF g s t rep B F j = some q ∧ KG q (xD g T s t rep, cS g T g.length, T) := by
  intro j
  induction j with
  | zero => exact ⟨fun q h => (by cases h), fun T h => absurd h (Nat.not_lt_zero T)⟩
  | succ j ih =>
    obtain ⟨i1, i2⟩ := ih
    by_cases c : j &&& F = 0 ∧ cS g j g.length ≤ B
    · have e : bfF g s t rep B F (j + 1) = wgh (bfF g s t rep B F j) (xD g j s t rep, cS g j g.length, j) := if_pos c
      rw [e]
      cases hb : bfF g s t rep B F j with
      | none =>
        refine ⟨fun q h => ?_, fun T h1 h2 h3 => ?_⟩
        · cases h; exact ⟨j, by omega, c.1, c.2, rfl⟩
        · by_cases z : T = j
          · subst z; exact ⟨_, rfl, KG_rfl _⟩
          · obtain ⟨q, q1, -⟩ := i2 T (by omega) h2 h3
            rw [hb] at q1; cases q1
      | some p =>
        obtain ⟨r, r1, r2, r3, r4⟩ := wgh_some p (xD g j s t rep, cS g j g.length, j)
        rw [r1]
        refine ⟨fun q h => ?_, fun T h1 h2 h3 => ?_⟩
        · cases h
          rcases r2 with z | z
          · obtain ⟨T, t1, t2⟩ := i1 p hb
            exact ⟨T, by omega, by rw [z]; exact t2⟩
          · exact ⟨j, by omega, c.1, c.2, z⟩
        · by_cases z : T = j
          · subst z; exact ⟨_, rfl, r4⟩
          · obtain ⟨q, q1, q2⟩ := i2 T (by omega) h2 h3
            rw [hb] at q1; cases q1
            exact ⟨_, rfl, KG_tr r3 q2⟩
    · have e : bfF g s t rep B F (j + 1) = bfF g s t rep B F j := if_neg c
      rw [e]
      refine ⟨fun q h => ?_, fun T h1 h2 h3 => ?_⟩
      · obtain ⟨T, t1, t2⟩ := i1 q h
        exact ⟨T, by omega, t2⟩
      · by_cases z : T = j
        · subst z; exact absurd ⟨h2, h3⟩ c
        · exact i2 T (by omega) h2 h3
theorem bfF_bst {g : List Ed} {s t rep B F : Nat} {q : Kx} (hq : bst g B F (fun S => xD g S s t rep) q) : bfF g s t rep B F (2 ^ g.length) = some q := by
  obtain ⟨i1, i2⟩ := bfF_ok (g := g) (s := s) (t := t) (rep := rep) (B := B) (F := F) (2 ^ g.length)
  obtain ⟨⟨T, t1, t2⟩, h2⟩ := id hq
  obtain ⟨p, p1, p2⟩ := i2 T t1.1 (and_djs.mpr t1.2.2) t1.2.1
  have : bst g B F (fun S => xD g S s t rep) p := by
    obtain ⟨R, r1, r2, r3, r4⟩ := i1 p p1
    refine ⟨⟨R, ⟨r1, r3, and_djs.mp r2⟩, r4⟩, fun T2 hT2 => ?_⟩
    obtain ⟨p3, p4, p5⟩ := i2 T2 hT2.1 (and_djs.mpr hT2.2.2) hT2.2.1
    rw [p1] at p4; cases p4
    exact p5
  rw [p1, bst_u this hq]
theorem vA_9 {g : List Ed} {s t rep : Nat} (ho : ∀ x ∈ g, e_ok x) (ht : t < 8) : vA g s t rep 9999 = fun S => xD g S s t rep := by
  funext S
  have := xD_le (S := S) (s := s) (rep := rep) ho ht
  unfold vA
  omega
theorem mS_fd {g : List Ed} {a : Nat} {hs : List Sg} {tx : List Nat} {f f2 : Int32} {mu mu' : Nat → Nat → Int32} (h : mS (g, a, hs, tx, f) mu) (fr : ∀ c, 23 ≤ c → c < 26 → mu' c = mu c) (e2 : mu' 22 2 = mu 22 2) (e5 : mu' 22 5 = mu 22 5) (hf : mu' 22 3 = f2) : mS (g, a, hs, tx, f2) mu' := by
  obtain ⟨h1, h2, h3, h4, h5⟩ := h
  have e23 := fr 23 (by omega) (by omega)
  have e24 := fr 24 (by omega) (by omega)
  have e25 := fr 25 (by omega) (by omega)
  unfold ma at h2
  unfold mh at h3
  unfold mt at h4
  refine ⟨mg_of h1 e23, ?_, ?_, ?_, hf⟩
  · unfold ma; rw [e23]; exact h2
  · unfold mh; rw [e2, e24]; exact h3
  · unfold mt; rw [e5, e25]; exact h4
/-- what bestFar leaves as it is -/
def FB (mu0 mu : Nat → Nat → Int32) : Prop := (∀ c, c ≠ 27 → c ≠ 22 → mu c = mu0 c) ∧ ∀ j, j ≠ 17 → mu 22 j = mu0 22 j
theorem FB_rfl (mu : Nat → Nat → Int32) : FB mu mu := ⟨fun _ _ _ => rfl, fun _ _ => rfl⟩
theorem FB_tr {a b c : Nat → Nat → Int32} (h1 : FB a b) (h2 : FB b c) : FB a c := ⟨fun x h3 h4 => (h2.1 x h3 h4).trans (h1.1 x h3 h4), fun j hj => (h2.2 j hj).trans (h1.2 j hj)⟩
theorem FB_far {a b : Nat → Nat → Int32} (h : ∀ c, c ≠ 27 → b c = a c) : FB a b := ⟨fun x h3 _ => h x h3, fun j _ => by rw [h 22 (by omega)]⟩

theorem cS_le {g : List Ed} (ho : ∀ x ∈ g, e_ok x) (S : Nat) : ∀ k, k ≤ g.length → cS g S k ≤ 9 * k := by
  intro k
  induction k with
  | zero => intro _; exact Nat.le_refl _
  | succ k ih =>
    intro hk
    have := ih (by omega)
    have := (e_at ho (show k < g.length by omega)).2.2.2.2.2
    show cS g S k + (if S.testBit k then eC g k else 0) ≤ 9 * (k + 1)
    split <;> omega

set_option maxRecDepth 100000 in
set_option maxHeartbeats 2000000 in
theorem lp_best (d : Nat) {g : List Ed} {s t rep B F : Nat} (hs : s < 8) (ht : t < 8) (hrep : rep ≤ 3) (hB : B ≤ 5) {mu0 : Nat → Nat → Int32} {h : Int64} : ∀ (k j : Nat) (mu : Nat → Nat → Int32), j + k = 2 ^ g.length → (mg g mu) → (∀ q, bfF g s t rep B F j = some q → mu 22 17 = nI q.2.2) → (FB mu0 mu) → rn_R none mX9_bestFar (d + 5) 9 [some (.ref 22), some (.int (nI s)), some (.int (nI t)), some (.int (nI B)), some (.int (nI F)), some (.int (nI rep)), some (.int (mst (bfF g s t rep B F j))), some (.int (chp (bfF g s t rep B F j))), some (.int (nI j)), none, none] [] mu h (fun r mu' h' => r = some (.int (mst (bfF g s t rep B F (2 ^ g.length)))) ∧ (∀ q, bfF g s t rep B F (2 ^ g.length) = some q → mu' 22 17 = nI q.2.2) ∧ h' = h ∧ FB mu0 mu') := by
  intro k
  induction k with
  | zero =>
    intro j mu hek hg hb hfb
    have h16 := hg.1
    have hp := pw_le hg.1
    obtain rfl : j = 2 ^ g.length := by omega
    refine rn_iload 11 dX9_bestFar_9 rfl rfl ?_
    refine rn_iconst (v := 1) 12 dX9_bestFar_11 (by decide) rfl ?_
    refine rn_aload_n 13 dX9_bestFar_12 rfl rfl rfl ?_
    refine rn_get 16 (.ref 23) dX9_bestFar_13 fl_X9_7 rfl rfl rfl rfl ?_
    refine rn_bipush (v := 80) 18 dX9_bestFar_16 (by decide) rfl ?_
    refine rn_iald 19 (mu 23 80) dX9_bestFar_18 rfl (vp_in_nI (n := 80) (by decide) (by decide)) rfl rfl ?_
    refine rn_ishl 20 dX9_bestFar_19 rfl ?_
    rw [hg.2.2.1, nb_1 (by omega)]
    refine rn_icmp_ge 103 23 dX9_bestFar_20 (by decide) rfl (fun _ => ?_) (fun c20 => absurd (nI_le (Nat.le_refl _) (by omega)) c20)
    refine rn_iload 105 dX9_bestFar_103 rfl rfl ?_
    exact rn_iret rfl dX9_bestFar_105 (⟨rfl, hb, rfl, hfb⟩)
  | succ k ih =>
    intro j mu hek hg hb hfb
    have h16 := hg.1
    have hp := pw_le hg.1
    have hlt : j < 2 ^ g.length := by omega
    by_cases qd : j &&& F = 0
    · skip
      have hcs := cS_le hg.2.1 j g.length (Nat.le_refl _)
      by_cases qb : cS g j g.length ≤ B
      · skip
        have bx := xD_le (S := j) (s := s) (rep := rep) hg.2.1 ht
        have em0 : bfF g s t rep B F (j + 1) = wgh (bfF g s t rep B F j) (xD g j s t rep, cS g j g.length, j) := if_pos ⟨qd, qb⟩
        refine rn_iload 11 dX9_bestFar_9 rfl rfl ?_
        refine rn_iconst (v := 1) 12 dX9_bestFar_11 (by decide) rfl ?_
        refine rn_aload_n 13 dX9_bestFar_12 rfl rfl rfl ?_
        refine rn_get 16 (.ref 23) dX9_bestFar_13 fl_X9_7 rfl rfl rfl rfl ?_
        refine rn_bipush (v := 80) 18 dX9_bestFar_16 (by decide) rfl ?_
        refine rn_iald 19 (mu 23 80) dX9_bestFar_18 rfl (vp_in_nI (n := 80) (by decide) (by decide)) rfl rfl ?_
        refine rn_ishl 20 dX9_bestFar_19 rfl ?_
        rw [hg.2.2.1, nb_1 (by omega)]
        refine rn_icmp_ge 103 23 dX9_bestFar_20 (by decide) rfl (fun c20 => absurd c20 (nI_ge hlt (by omega))) (fun _ => ?_)
        refine rn_iload 25 dX9_bestFar_23 rfl rfl ?_
        refine rn_iload 27 dX9_bestFar_25 rfl rfl ?_
        refine rn_iand 28 dX9_bestFar_27 rfl ?_
        rw [nb_and]
        refine rn_if_ne 40 31 dX9_bestFar_28 (by decide) rfl (fun c28 => absurd (by rw [qd]; rfl) c28) (fun _ => ?_)
        refine rn_aload_n 32 dX9_bestFar_31 rfl rfl rfl ?_
        refine rn_iload 34 dX9_bestFar_32 rfl rfl ?_
        refine rn_cvp mX9_costOf [.int (nI j)] [] 37 (.int (nI (cS g j g.length))) dX9_bestFar_34 cv_X9_118 rfl rfl rfl (by simp [Value.category]) rfl (c_costOf (d + 2) h hg (S := j) (by omega)) ?_
        refine rn_goto 42 dX9_bestFar_37 (by decide) ?_
        refine rn_istore 44 [some (.ref 22), some (.int (nI s)), some (.int (nI t)), some (.int (nI B)), some (.int (nI F)), some (.int (nI rep)), some (.int (mst (bfF g s t rep B F j))), some (.int (chp (bfF g s t rep B F j))), some (.int (nI j)), some (.int (nI (cS g j g.length))), none] dX9_bestFar_42 rfl (Nat.le_of_ble_eq_true rfl) rfl ?_
        refine rn_iload 46 dX9_bestFar_44 rfl rfl ?_
        refine rn_iload_n 47 dX9_bestFar_46 rfl rfl rfl ?_
        refine rn_icmp_gt 97 50 dX9_bestFar_47 (by decide) rfl (fun c47 => absurd c47 (nI_nlt qb (by omega))) (fun _ => ?_)
        refine rn_aload_n 51 dX9_bestFar_50 rfl rfl rfl ?_
        refine rn_iload_n 52 dX9_bestFar_51 rfl rfl rfl ?_
        refine rn_iload_n 53 dX9_bestFar_52 rfl rfl rfl ?_
        refine rn_iload 55 dX9_bestFar_53 rfl rfl ?_
        refine rn_iload 57 dX9_bestFar_55 rfl rfl ?_
        refine rn_callV mX9_far [.int (nI s), .int (nI t), .int (nI j), .int (nI rep)] [] dX9_bestFar_57 cv_X9_134 rfl rfl rfl (by simp [Value.category]) (c_far (d) (S := j) (s := s) (t := t) (rep := rep) (by omega) hs ht hrep h hg) (fun r1 m1 h1 q1 _ => ?_)
        obtain ⟨e1, k1, f1⟩ := q1
        rw [e1, k1]
        have hg1 : mg g m1 := mg_of hg (f1 23 (by omega))
        show rn_R _ mX9_bestFar _ 60 [some (.ref 22), some (.int (nI s)), some (.int (nI t)), some (.int (nI B)), some (.int (nI F)), some (.int (nI rep)), some (.int (mst (bfF g s t rep B F j))), some (.int (chp (bfF g s t rep B F j))), some (.int (nI j)), some (.int (nI (cS g j g.length))), none] [.int (nI (xD g j s t rep))] m1 h _
        refine rn_istore 62 [some (.ref 22), some (.int (nI s)), some (.int (nI t)), some (.int (nI B)), some (.int (nI F)), some (.int (nI rep)), some (.int (mst (bfF g s t rep B F j))), some (.int (chp (bfF g s t rep B F j))), some (.int (nI j)), some (.int (nI (cS g j g.length))), some (.int (nI (xD g j s t rep)))] dX9_bestFar_60 rfl (Nat.le_of_ble_eq_true rfl) rfl ?_
        cases hbj : bfF g s t rep B F j with
        | none =>
          show rn_R _ mX9_bestFar _ 62 [some (.ref 22), some (.int (nI s)), some (.int (nI t)), some (.int (nI B)), some (.int (nI F)), some (.int (nI rep)), some (.int (mst none)), some (.int (chp none)), some (.int (nI j)), some (.int (nI (cS g j g.length))), some (.int (nI (xD g j s t rep)))] [] m1 h _
          refine rn_iload 64 dX9_bestFar_62 rfl rfl ?_
          refine rn_iload 66 dX9_bestFar_64 rfl rfl ?_
          refine rn_icmp_gt 83 69 dX9_bestFar_66 (by decide) rfl (fun _ => ?_) (fun c66 => absurd (ng1 (by omega)) c66)
          refine rn_iload 85 dX9_bestFar_83 rfl rfl ?_
          refine rn_istore 87 [some (.ref 22), some (.int (nI s)), some (.int (nI t)), some (.int (nI B)), some (.int (nI F)), some (.int (nI rep)), some (.int (nI (xD g j s t rep))), some (.int (chp none)), some (.int (nI j)), some (.int (nI (cS g j g.length))), some (.int (nI (xD g j s t rep)))] dX9_bestFar_85 rfl (Nat.le_of_ble_eq_true rfl) rfl ?_
          refine rn_iload 89 dX9_bestFar_87 rfl rfl ?_
          refine rn_istore 91 [some (.ref 22), some (.int (nI s)), some (.int (nI t)), some (.int (nI B)), some (.int (nI F)), some (.int (nI rep)), some (.int (nI (xD g j s t rep))), some (.int (nI (cS g j g.length))), some (.int (nI j)), some (.int (nI (cS g j g.length))), some (.int (nI (xD g j s t rep)))] dX9_bestFar_89 rfl (Nat.le_of_ble_eq_true rfl) rfl ?_
          refine rn_aload_n 92 dX9_bestFar_91 rfl rfl rfl ?_
          refine rn_iload 94 dX9_bestFar_92 rfl rfl ?_
          refine rn_put 97 dX9_bestFar_94 fp_X9_163 rfl rfl rfl rfl rfl ?_
          refine rn_iinc (v := (nI (j + 1))) 100 [some (.ref 22), some (.int (nI s)), some (.int (nI t)), some (.int (nI B)), some (.int (nI F)), some (.int (nI rep)), some (.int (nI (xD g j s t rep))), some (.int (nI (cS g j g.length))), some (.int (nI (j + 1))), some (.int (nI (cS g j g.length))), some (.int (nI (xD g j s t rep)))] dX9_bestFar_97 rfl (nI_1 _) rfl rfl ?_
          refine rn_goto 9 dX9_bestFar_100 (by decide) ?_
          refine rn_drop 9 [some (.ref 22), some (.int (nI s)), some (.int (nI t)), some (.int (nI B)), some (.int (nI F)), some (.int (nI rep)), some (.int (nI (xD g j s t rep))), some (.int (nI (cS g j g.length))), some (.int (nI (j + 1))), none, some (.int (nI (xD g j s t rep)))] rfl ?_
          refine rn_drop 10 [some (.ref 22), some (.int (nI s)), some (.int (nI t)), some (.int (nI B)), some (.int (nI F)), some (.int (nI rep)), some (.int (nI (xD g j s t rep))), some (.int (nI (cS g j g.length))), some (.int (nI (j + 1))), none, none] rfl ?_
          have em : bfF g s t rep B F (j + 1) = some (xD g j s t rep, cS g j g.length, j) := by rw [em0, hbj]; exact rfl
          have z := ih (j + 1) (mu_s m1 22 17 (nI j)) (by omega) (mg_of hg1 (by simp [mu_s])) (fun q hq => by rw [em] at hq; cases hq; simp [mu_s, upd]) (FB_tr hfb (FB_tr (FB_far f1) ⟨fun x _ hx => by simp [mu_s, hx], fun i hi => by simp [mu_s, upd, hi]⟩))
          rw [em] at z
          exact z
        | some p =>
          obtain ⟨p1, p2, p3⟩ := p
          obtain ⟨T, t1, t2, t3, t4⟩ := (bfF_ok j).1 _ hbj
          have e1 : p1 = xD g T s t rep := congrArg Prod.fst t4
          have e2 : p2 = cS g T g.length := congrArg (fun q => q.2.1) t4
          have e3 : p3 = T := congrArg (fun q => q.2.2) t4
          have bT := xD_le (S := T) (s := s) (rep := rep) hg.2.1 ht
          show rn_R _ mX9_bestFar _ 62 [some (.ref 22), some (.int (nI s)), some (.int (nI t)), some (.int (nI B)), some (.int (nI F)), some (.int (nI rep)), some (.int (nI p1)), some (.int (nI p2)), some (.int (nI j)), some (.int (nI (cS g j g.length))), some (.int (nI (xD g j s t rep)))] [] m1 h _
          by_cases q1 : p1 < xD g j s t rep
          · skip
            refine rn_iload 64 dX9_bestFar_62 rfl rfl ?_
            refine rn_iload 66 dX9_bestFar_64 rfl rfl ?_
            refine rn_icmp_gt 83 69 dX9_bestFar_66 (by decide) rfl (fun _ => ?_) (fun c66 => absurd (nI_lt q1 (by omega)) c66)
            refine rn_iload 85 dX9_bestFar_83 rfl rfl ?_
            refine rn_istore 87 [some (.ref 22), some (.int (nI s)), some (.int (nI t)), some (.int (nI B)), some (.int (nI F)), some (.int (nI rep)), some (.int (nI (xD g j s t rep))), some (.int (nI p2)), some (.int (nI j)), some (.int (nI (cS g j g.length))), some (.int (nI (xD g j s t rep)))] dX9_bestFar_85 rfl (Nat.le_of_ble_eq_true rfl) rfl ?_
            refine rn_iload 89 dX9_bestFar_87 rfl rfl ?_
            refine rn_istore 91 [some (.ref 22), some (.int (nI s)), some (.int (nI t)), some (.int (nI B)), some (.int (nI F)), some (.int (nI rep)), some (.int (nI (xD g j s t rep))), some (.int (nI (cS g j g.length))), some (.int (nI j)), some (.int (nI (cS g j g.length))), some (.int (nI (xD g j s t rep)))] dX9_bestFar_89 rfl (Nat.le_of_ble_eq_true rfl) rfl ?_
            refine rn_aload_n 92 dX9_bestFar_91 rfl rfl rfl ?_
            refine rn_iload 94 dX9_bestFar_92 rfl rfl ?_
            refine rn_put 97 dX9_bestFar_94 fp_X9_163 rfl rfl rfl rfl rfl ?_
            refine rn_iinc (v := (nI (j + 1))) 100 [some (.ref 22), some (.int (nI s)), some (.int (nI t)), some (.int (nI B)), some (.int (nI F)), some (.int (nI rep)), some (.int (nI (xD g j s t rep))), some (.int (nI (cS g j g.length))), some (.int (nI (j + 1))), some (.int (nI (cS g j g.length))), some (.int (nI (xD g j s t rep)))] dX9_bestFar_97 rfl (nI_1 _) rfl rfl ?_
            refine rn_goto 9 dX9_bestFar_100 (by decide) ?_
            refine rn_drop 9 [some (.ref 22), some (.int (nI s)), some (.int (nI t)), some (.int (nI B)), some (.int (nI F)), some (.int (nI rep)), some (.int (nI (xD g j s t rep))), some (.int (nI (cS g j g.length))), some (.int (nI (j + 1))), none, some (.int (nI (xD g j s t rep)))] rfl ?_
            refine rn_drop 10 [some (.ref 22), some (.int (nI s)), some (.int (nI t)), some (.int (nI B)), some (.int (nI F)), some (.int (nI rep)), some (.int (nI (xD g j s t rep))), some (.int (nI (cS g j g.length))), some (.int (nI (j + 1))), none, none] rfl ?_
            have em : bfF g s t rep B F (j + 1) = some (xD g j s t rep, cS g j g.length, j) := by rw [em0, hbj]; exact if_pos (Or.inl q1)
            have z := ih (j + 1) (mu_s m1 22 17 (nI j)) (by omega) (mg_of hg1 (by simp [mu_s])) (fun q hq => by rw [em] at hq; cases hq; simp [mu_s, upd]) (FB_tr hfb (FB_tr (FB_far f1) ⟨fun x _ hx => by simp [mu_s, hx], fun i hi => by simp [mu_s, upd, hi]⟩))
            rw [em] at z
            exact z
          · skip
            by_cases q2 : xD g j s t rep = p1
            · skip
              by_cases q3 : cS g j g.length < p2
              · skip
                refine rn_iload 64 dX9_bestFar_62 rfl rfl ?_
                refine rn_iload 66 dX9_bestFar_64 rfl rfl ?_
                refine rn_icmp_gt 83 69 dX9_bestFar_66 (by decide) rfl (fun c66 => absurd c66 (nI_nlt (by omega) (by omega))) (fun _ => ?_)
                refine rn_iload 71 dX9_bestFar_69 rfl rfl ?_
                refine rn_iload 73 dX9_bestFar_71 rfl rfl ?_
                refine rn_icmp_ne 97 76 dX9_bestFar_73 (by decide) rfl (fun c73 => absurd (congrArg nI q2) c73) (fun _ => ?_)
                refine rn_iload 78 dX9_bestFar_76 rfl rfl ?_
                refine rn_iload 80 dX9_bestFar_78 rfl rfl ?_
                refine rn_icmp_ge 97 83 dX9_bestFar_80 (by decide) rfl (fun c80 => absurd c80 (nI_ge q3 (by omega))) (fun _ => ?_)
                refine rn_iload 85 dX9_bestFar_83 rfl rfl ?_
                refine rn_istore 87 [some (.ref 22), some (.int (nI s)), some (.int (nI t)), some (.int (nI B)), some (.int (nI F)), some (.int (nI rep)), some (.int (nI (xD g j s t rep))), some (.int (nI p2)), some (.int (nI j)), some (.int (nI (cS g j g.length))), some (.int (nI (xD g j s t rep)))] dX9_bestFar_85 rfl (Nat.le_of_ble_eq_true rfl) rfl ?_
                refine rn_iload 89 dX9_bestFar_87 rfl rfl ?_
                refine rn_istore 91 [some (.ref 22), some (.int (nI s)), some (.int (nI t)), some (.int (nI B)), some (.int (nI F)), some (.int (nI rep)), some (.int (nI (xD g j s t rep))), some (.int (nI (cS g j g.length))), some (.int (nI j)), some (.int (nI (cS g j g.length))), some (.int (nI (xD g j s t rep)))] dX9_bestFar_89 rfl (Nat.le_of_ble_eq_true rfl) rfl ?_
                refine rn_aload_n 92 dX9_bestFar_91 rfl rfl rfl ?_
                refine rn_iload 94 dX9_bestFar_92 rfl rfl ?_
                refine rn_put 97 dX9_bestFar_94 fp_X9_163 rfl rfl rfl rfl rfl ?_
                refine rn_iinc (v := (nI (j + 1))) 100 [some (.ref 22), some (.int (nI s)), some (.int (nI t)), some (.int (nI B)), some (.int (nI F)), some (.int (nI rep)), some (.int (nI (xD g j s t rep))), some (.int (nI (cS g j g.length))), some (.int (nI (j + 1))), some (.int (nI (cS g j g.length))), some (.int (nI (xD g j s t rep)))] dX9_bestFar_97 rfl (nI_1 _) rfl rfl ?_
                refine rn_goto 9 dX9_bestFar_100 (by decide) ?_
                refine rn_drop 9 [some (.ref 22), some (.int (nI s)), some (.int (nI t)), some (.int (nI B)), some (.int (nI F)), some (.int (nI rep)), some (.int (nI (xD g j s t rep))), some (.int (nI (cS g j g.length))), some (.int (nI (j + 1))), none, some (.int (nI (xD g j s t rep)))] rfl ?_
                refine rn_drop 10 [some (.ref 22), some (.int (nI s)), some (.int (nI t)), some (.int (nI B)), some (.int (nI F)), some (.int (nI rep)), some (.int (nI (xD g j s t rep))), some (.int (nI (cS g j g.length))), some (.int (nI (j + 1))), none, none] rfl ?_
                have em : bfF g s t rep B F (j + 1) = some (xD g j s t rep, cS g j g.length, j) := by rw [em0, hbj]; exact if_pos (Or.inr ⟨q2, Or.inl q3⟩)
                have z := ih (j + 1) (mu_s m1 22 17 (nI j)) (by omega) (mg_of hg1 (by simp [mu_s])) (fun q hq => by rw [em] at hq; cases hq; simp [mu_s, upd]) (FB_tr hfb (FB_tr (FB_far f1) ⟨fun x _ hx => by simp [mu_s, hx], fun i hi => by simp [mu_s, upd, hi]⟩))
                rw [em] at z
                exact z
              · skip
                refine rn_iload 64 dX9_bestFar_62 rfl rfl ?_
                refine rn_iload 66 dX9_bestFar_64 rfl rfl ?_
                refine rn_icmp_gt 83 69 dX9_bestFar_66 (by decide) rfl (fun c66 => absurd c66 (nI_nlt (by omega) (by omega))) (fun _ => ?_)
                refine rn_iload 71 dX9_bestFar_69 rfl rfl ?_
                refine rn_iload 73 dX9_bestFar_71 rfl rfl ?_
                refine rn_icmp_ne 97 76 dX9_bestFar_73 (by decide) rfl (fun c73 => absurd (congrArg nI q2) c73) (fun _ => ?_)
                refine rn_iload 78 dX9_bestFar_76 rfl rfl ?_
                refine rn_iload 80 dX9_bestFar_78 rfl rfl ?_
                refine rn_icmp_ge 97 83 dX9_bestFar_80 (by decide) rfl (fun _ => ?_) (fun c80 => absurd (nI_le (by omega) (by omega)) c80)
                refine rn_iinc (v := (nI (j + 1))) 100 [some (.ref 22), some (.int (nI s)), some (.int (nI t)), some (.int (nI B)), some (.int (nI F)), some (.int (nI rep)), some (.int (nI p1)), some (.int (nI p2)), some (.int (nI (j + 1))), some (.int (nI (cS g j g.length))), some (.int (nI (xD g j s t rep)))] dX9_bestFar_97 rfl (nI_1 _) rfl rfl ?_
                refine rn_goto 9 dX9_bestFar_100 (by decide) ?_
                refine rn_drop 9 [some (.ref 22), some (.int (nI s)), some (.int (nI t)), some (.int (nI B)), some (.int (nI F)), some (.int (nI rep)), some (.int (nI p1)), some (.int (nI p2)), some (.int (nI (j + 1))), none, some (.int (nI (xD g j s t rep)))] rfl ?_
                refine rn_drop 10 [some (.ref 22), some (.int (nI s)), some (.int (nI t)), some (.int (nI B)), some (.int (nI F)), some (.int (nI rep)), some (.int (nI p1)), some (.int (nI p2)), some (.int (nI (j + 1))), none, none] rfl ?_
                have em : bfF g s t rep B F (j + 1) = some (p1, p2, p3) := by rw [em0, hbj]; exact if_neg (fun z => by rcases z with z | ⟨-, z | ⟨-, z⟩⟩; exact q1 z; exact q3 z; (have z2 : j < p3 := z; omega))
                have z := ih (j + 1) m1 (by omega) hg1 (fun q hq => by rw [em] at hq; cases hq; rw [f1 22 (by omega)]; exact hb _ hbj) (FB_tr hfb (FB_far f1))
                rw [em] at z
                exact z
            · skip
              refine rn_iload 64 dX9_bestFar_62 rfl rfl ?_
              refine rn_iload 66 dX9_bestFar_64 rfl rfl ?_
              refine rn_icmp_gt 83 69 dX9_bestFar_66 (by decide) rfl (fun c66 => absurd c66 (nI_nlt (by omega) (by omega))) (fun _ => ?_)
              refine rn_iload 71 dX9_bestFar_69 rfl rfl ?_
              refine rn_iload 73 dX9_bestFar_71 rfl rfl ?_
              refine rn_icmp_ne 97 76 dX9_bestFar_73 (by decide) rfl (fun _ => ?_) (fun c73 => absurd c73 (fun z => q2 ((nI_eq (by omega) (by omega)).mp z)))
              refine rn_iinc (v := (nI (j + 1))) 100 [some (.ref 22), some (.int (nI s)), some (.int (nI t)), some (.int (nI B)), some (.int (nI F)), some (.int (nI rep)), some (.int (nI p1)), some (.int (nI p2)), some (.int (nI (j + 1))), some (.int (nI (cS g j g.length))), some (.int (nI (xD g j s t rep)))] dX9_bestFar_97 rfl (nI_1 _) rfl rfl ?_
              refine rn_goto 9 dX9_bestFar_100 (by decide) ?_
              refine rn_drop 9 [some (.ref 22), some (.int (nI s)), some (.int (nI t)), some (.int (nI B)), some (.int (nI F)), some (.int (nI rep)), some (.int (nI p1)), some (.int (nI p2)), some (.int (nI (j + 1))), none, some (.int (nI (xD g j s t rep)))] rfl ?_
              refine rn_drop 10 [some (.ref 22), some (.int (nI s)), some (.int (nI t)), some (.int (nI B)), some (.int (nI F)), some (.int (nI rep)), some (.int (nI p1)), some (.int (nI p2)), some (.int (nI (j + 1))), none, none] rfl ?_
              have em : bfF g s t rep B F (j + 1) = some (p1, p2, p3) := by rw [em0, hbj]; exact if_neg (fun z => by rcases z with z | ⟨z, -⟩; exact q1 z; exact q2 z)
              have z := ih (j + 1) m1 (by omega) hg1 (fun q hq => by rw [em] at hq; cases hq; rw [f1 22 (by omega)]; exact hb _ hbj) (FB_tr hfb (FB_far f1))
              rw [em] at z
              exact z
      · skip
        refine rn_iload 11 dX9_bestFar_9 rfl rfl ?_
        refine rn_iconst (v := 1) 12 dX9_bestFar_11 (by decide) rfl ?_
        refine rn_aload_n 13 dX9_bestFar_12 rfl rfl rfl ?_
        refine rn_get 16 (.ref 23) dX9_bestFar_13 fl_X9_7 rfl rfl rfl rfl ?_
        refine rn_bipush (v := 80) 18 dX9_bestFar_16 (by decide) rfl ?_
        refine rn_iald 19 (mu 23 80) dX9_bestFar_18 rfl (vp_in_nI (n := 80) (by decide) (by decide)) rfl rfl ?_
        refine rn_ishl 20 dX9_bestFar_19 rfl ?_
        rw [hg.2.2.1, nb_1 (by omega)]
        refine rn_icmp_ge 103 23 dX9_bestFar_20 (by decide) rfl (fun c20 => absurd c20 (nI_ge hlt (by omega))) (fun _ => ?_)
        refine rn_iload 25 dX9_bestFar_23 rfl rfl ?_
        refine rn_iload 27 dX9_bestFar_25 rfl rfl ?_
        refine rn_iand 28 dX9_bestFar_27 rfl ?_
        rw [nb_and]
        refine rn_if_ne 40 31 dX9_bestFar_28 (by decide) rfl (fun c28 => absurd (by rw [qd]; rfl) c28) (fun _ => ?_)
        refine rn_aload_n 32 dX9_bestFar_31 rfl rfl rfl ?_
        refine rn_iload 34 dX9_bestFar_32 rfl rfl ?_
        refine rn_cvp mX9_costOf [.int (nI j)] [] 37 (.int (nI (cS g j g.length))) dX9_bestFar_34 cv_X9_118 rfl rfl rfl (by simp [Value.category]) rfl (c_costOf (d + 2) h hg (S := j) (by omega)) ?_
        refine rn_goto 42 dX9_bestFar_37 (by decide) ?_
        refine rn_istore 44 [some (.ref 22), some (.int (nI s)), some (.int (nI t)), some (.int (nI B)), some (.int (nI F)), some (.int (nI rep)), some (.int (mst (bfF g s t rep B F j))), some (.int (chp (bfF g s t rep B F j))), some (.int (nI j)), some (.int (nI (cS g j g.length))), none] dX9_bestFar_42 rfl (Nat.le_of_ble_eq_true rfl) rfl ?_
        refine rn_iload 46 dX9_bestFar_44 rfl rfl ?_
        refine rn_iload_n 47 dX9_bestFar_46 rfl rfl rfl ?_
        refine rn_icmp_gt 97 50 dX9_bestFar_47 (by decide) rfl (fun _ => ?_) (fun c47 => absurd (nI_lt (by omega) (by omega)) c47)
        refine rn_iinc (v := (nI (j + 1))) 100 [some (.ref 22), some (.int (nI s)), some (.int (nI t)), some (.int (nI B)), some (.int (nI F)), some (.int (nI rep)), some (.int (mst (bfF g s t rep B F j))), some (.int (chp (bfF g s t rep B F j))), some (.int (nI (j + 1))), some (.int (nI (cS g j g.length))), none] dX9_bestFar_97 rfl (nI_1 _) rfl rfl ?_
        refine rn_goto 9 dX9_bestFar_100 (by decide) ?_
        refine rn_drop 9 [some (.ref 22), some (.int (nI s)), some (.int (nI t)), some (.int (nI B)), some (.int (nI F)), some (.int (nI rep)), some (.int (mst (bfF g s t rep B F j))), some (.int (chp (bfF g s t rep B F j))), some (.int (nI (j + 1))), none, none] rfl ?_
        have em : bfF g s t rep B F (j + 1) = bfF g s t rep B F j := if_neg (fun z => qb z.2)
        have z := ih (j + 1) mu (by omega) hg (fun q hq => hb q (by rw [← hq]; exact em.symm)) hfb
        rw [em] at z
        exact z
    · skip
      refine rn_iload 11 dX9_bestFar_9 rfl rfl ?_
      refine rn_iconst (v := 1) 12 dX9_bestFar_11 (by decide) rfl ?_
      refine rn_aload_n 13 dX9_bestFar_12 rfl rfl rfl ?_
      refine rn_get 16 (.ref 23) dX9_bestFar_13 fl_X9_7 rfl rfl rfl rfl ?_
      refine rn_bipush (v := 80) 18 dX9_bestFar_16 (by decide) rfl ?_
      refine rn_iald 19 (mu 23 80) dX9_bestFar_18 rfl (vp_in_nI (n := 80) (by decide) (by decide)) rfl rfl ?_
      refine rn_ishl 20 dX9_bestFar_19 rfl ?_
      rw [hg.2.2.1, nb_1 (by omega)]
      refine rn_icmp_ge 103 23 dX9_bestFar_20 (by decide) rfl (fun c20 => absurd c20 (nI_ge hlt (by omega))) (fun _ => ?_)
      refine rn_iload 25 dX9_bestFar_23 rfl rfl ?_
      refine rn_iload 27 dX9_bestFar_25 rfl rfl ?_
      refine rn_iand 28 dX9_bestFar_27 rfl ?_
      rw [nb_and]
      refine rn_if_ne 40 31 dX9_bestFar_28 (by decide) rfl (fun _ => ?_) (fun c28 => absurd c28 (nI_ne0 (Nat.pos_of_ne_zero qd) (by have := @Nat.and_le_left j F; omega)))
      refine rn_bipush (v := 100) 42 dX9_bestFar_40 (by decide) rfl ?_
      refine rn_istore 44 [some (.ref 22), some (.int (nI s)), some (.int (nI t)), some (.int (nI B)), some (.int (nI F)), some (.int (nI rep)), some (.int (mst (bfF g s t rep B F j))), some (.int (chp (bfF g s t rep B F j))), some (.int (nI j)), some (.int 100), none] dX9_bestFar_42 rfl (Nat.le_of_ble_eq_true rfl) rfl ?_
      refine rn_iload 46 dX9_bestFar_44 rfl rfl ?_
      refine rn_iload_n 47 dX9_bestFar_46 rfl rfl rfl ?_
      refine rn_icmp_gt 97 50 dX9_bestFar_47 (by decide) rfl (fun _ => ?_) (fun c47 => absurd (nI_lt (b := 100) (by omega) (by omega)) c47)
      refine rn_iinc (v := (nI (j + 1))) 100 [some (.ref 22), some (.int (nI s)), some (.int (nI t)), some (.int (nI B)), some (.int (nI F)), some (.int (nI rep)), some (.int (mst (bfF g s t rep B F j))), some (.int (chp (bfF g s t rep B F j))), some (.int (nI (j + 1))), some (.int 100), none] dX9_bestFar_97 rfl (nI_1 _) rfl rfl ?_
      refine rn_goto 9 dX9_bestFar_100 (by decide) ?_
      refine rn_drop 9 [some (.ref 22), some (.int (nI s)), some (.int (nI t)), some (.int (nI B)), some (.int (nI F)), some (.int (nI rep)), some (.int (mst (bfF g s t rep B F j))), some (.int (chp (bfF g s t rep B F j))), some (.int (nI (j + 1))), none, none] rfl ?_
      have em : bfF g s t rep B F (j + 1) = bfF g s t rep B F j := if_neg (fun z => qd z.1)
      have z := ih (j + 1) mu (by omega) hg (fun q hq => hb q (by rw [← hq]; exact em.symm)) hfb
      rw [em] at z
      exact z

set_option maxRecDepth 100000 in
set_option maxHeartbeats 2000000 in
theorem c_best (d : Nat) {g : List Ed} {s t rep B F : Nat} (hs : s < 8) (ht : t < 8) (hrep : rep ≤ 3) (hB : B ≤ 5) {q : Kx} (hq : bst g B F (fun S => xD g S s t rep) q) {mu : Nat → Nat → Int32} (h : Int64) (hg : mg g mu) : gd_G mX9_bestFar (d + 5) [.ref 22, .int (nI s), .int (nI t), .int (nI B), .int (nI F), .int (nI rep)] mu h (fun r mu' h' => r = some (.int (nI q.1)) ∧ mu' 22 17 = nI q.2.2 ∧ h' = h ∧ FB mu mu') := by
  refine gd_of rfl (Nat.le_of_ble_eq_true rfl) ?_
  show rn_R none mX9_bestFar (d + 5) 0 [some (.ref 22), some (.int (nI s)), some (.int (nI t)), some (.int (nI B)), some (.int (nI F)), some (.int (nI rep)), none, none, none, none, none] [] mu h (fun r mu' h' => r = some (.int (nI q.1)) ∧ mu' 22 17 = nI q.2.2 ∧ h' = h ∧ FB mu mu')
  have eb := bfF_bst hq
  refine rn_iconst (v := (-1)) 1 dX9_bestFar_0 (by decide) rfl ?_
  refine rn_istore 3 [some (.ref 22), some (.int (nI s)), some (.int (nI t)), some (.int (nI B)), some (.int (nI F)), some (.int (nI rep)), some (.int (-1)), none, none, none, none] dX9_bestFar_1 rfl (Nat.le_of_ble_eq_true rfl) rfl ?_
  refine rn_iconst (v := 0) 4 dX9_bestFar_3 (by decide) rfl ?_
  refine rn_istore 6 [some (.ref 22), some (.int (nI s)), some (.int (nI t)), some (.int (nI B)), some (.int (nI F)), some (.int (nI rep)), some (.int (-1)), some (.int 0), none, none, none] dX9_bestFar_4 rfl (Nat.le_of_ble_eq_true rfl) rfl ?_
  refine rn_iconst (v := 0) 7 dX9_bestFar_6 (by decide) rfl ?_
  refine rn_istore 9 [some (.ref 22), some (.int (nI s)), some (.int (nI t)), some (.int (nI B)), some (.int (nI F)), some (.int (nI rep)), some (.int (-1)), some (.int 0), some (.int 0), none, none] dX9_bestFar_7 rfl (Nat.le_of_ble_eq_true rfl) rfl ?_
  refine rn_mono (lp_best d (F := F) hs ht hrep hB (mu0 := mu) (2 ^ g.length) 0 mu (by omega) hg (fun q hq => by cases hq) (FB_rfl mu)) (fun r m2 h2 z => ?_)
  rw [eb] at z
  exact ⟨z.1, z.2.1 q rfl, z.2.2⟩

set_option maxRecDepth 100000 in
set_option maxHeartbeats 2000000 in
theorem m_intR_b (d : Nat) {g : List Ed} {a : Nat} {hs : List Sg} {tx : List Nat} {f : Int32} {v1 v2 v3 v4 : Int32} (hv : ¬ ((isin v1 8 ∧ isin v2 8) ∧ isin v3 (5 + 1) ∧ isin v4 (3 + 1))) : MC mX9_interdictResponse (d + 2) [.int v1, .int v2, .int v3, .int v4] (g, a, hs, tx, f) (g, a, hs, tx, f) (.int (-2)) := by
  intro mu h hs0
  obtain ⟨hg, ha, hh, ht, hf⟩ := id hs0
  simp only at hg ha hh ht hf
  refine gd_of rfl (Nat.le_of_ble_eq_true rfl) ?_
  show rn_R none mX9_interdictResponse (d + 2) 0 [some (.ref 22), some (.int v1), some (.int v2), some (.int v3), some (.int v4), none] [] mu h (fun r mu' _ => r = some (.int (-2)) ∧ mS (g, a, hs, tx, f) mu' ∧ ∀ c, c < 22 → mu' c = mu c)
  by_cases qq0 : isin v1 8 ∧ isin v2 8
  · skip
    by_cases qq1 : isin v3 (5 + 1)
    · skip
      have qq2 : ¬ (isin v4 (3 + 1)) := fun z => hv ⟨qq0, qq1, z⟩
      refine rn_iload_n 1 dX9_interdictResponse_0 rfl rfl rfl ?_
      refine rn_iload_n 2 dX9_interdictResponse_1 rfl rfl rfl ?_
      refine rn_csp mX9_areNodes [.int v1, .int v2] [] 5 (.int 1) dX9_interdictResponse_2 cs_X9_53 rfl rfl (by simp [Value.category]) rfl (c_mareNodes_t (d) mu h qq0.1 qq0.2) ?_
      refine rn_if_eq 27 8 dX9_interdictResponse_5 (by decide) rfl (fun c5 => absurd c5 (by decide)) (fun _ => ?_)
      refine rn_iload_n 9 dX9_interdictResponse_8 rfl rfl rfl ?_
      refine rn_iconst (v := 0) 10 dX9_interdictResponse_9 (by decide) rfl ?_
      refine rn_iconst (v := 5) 11 dX9_interdictResponse_10 (by decide) rfl ?_
      refine rn_csp mX9_in [.int v3, .int 0, .int 5] [] 14 (.int 1) dX9_interdictResponse_11 cs_X9_38 rfl rfl (by simp [Value.category]) rfl (c_in_i (d + 1) mu h (M := 5) qq1 (by omega)) ?_
      refine rn_if_eq 27 17 dX9_interdictResponse_14 (by decide) rfl (fun c14 => absurd c14 (by decide)) (fun _ => ?_)
      refine rn_iload 19 dX9_interdictResponse_17 rfl rfl ?_
      refine rn_iconst (v := 0) 20 dX9_interdictResponse_19 (by decide) rfl ?_
      refine rn_iconst (v := 3) 21 dX9_interdictResponse_20 (by decide) rfl ?_
      refine rn_csp mX9_in [.int v4, .int 0, .int 3] [] 24 (.int 0) dX9_interdictResponse_21 cs_X9_38 rfl rfl (by simp [Value.category]) rfl (c_in_f (d + 1) mu h (nisin (n := 3) (by omega) qq2)) ?_
      refine rn_if_ne 30 27 dX9_interdictResponse_24 (by decide) rfl (fun c24 => absurd (rfl) c24) (fun _ => ?_)
      refine rn_bipush (v := (-2)) 29 dX9_interdictResponse_27 (by decide) rfl ?_
      exact rn_iret rfl dX9_interdictResponse_29 (⟨rfl, hs0, fun _ _ => rfl⟩)
    · skip
      refine rn_iload_n 1 dX9_interdictResponse_0 rfl rfl rfl ?_
      refine rn_iload_n 2 dX9_interdictResponse_1 rfl rfl rfl ?_
      refine rn_csp mX9_areNodes [.int v1, .int v2] [] 5 (.int 1) dX9_interdictResponse_2 cs_X9_53 rfl rfl (by simp [Value.category]) rfl (c_mareNodes_t (d) mu h qq0.1 qq0.2) ?_
      refine rn_if_eq 27 8 dX9_interdictResponse_5 (by decide) rfl (fun c5 => absurd c5 (by decide)) (fun _ => ?_)
      refine rn_iload_n 9 dX9_interdictResponse_8 rfl rfl rfl ?_
      refine rn_iconst (v := 0) 10 dX9_interdictResponse_9 (by decide) rfl ?_
      refine rn_iconst (v := 5) 11 dX9_interdictResponse_10 (by decide) rfl ?_
      refine rn_csp mX9_in [.int v3, .int 0, .int 5] [] 14 (.int 0) dX9_interdictResponse_11 cs_X9_38 rfl rfl (by simp [Value.category]) rfl (c_in_f (d + 1) mu h (nisin (n := 5) (by omega) qq1)) ?_
      refine rn_if_eq 27 17 dX9_interdictResponse_14 (by decide) rfl (fun _ => ?_) (fun c14 => absurd (by decide) c14)
      refine rn_bipush (v := (-2)) 29 dX9_interdictResponse_27 (by decide) rfl ?_
      exact rn_iret rfl dX9_interdictResponse_29 (⟨rfl, hs0, fun _ _ => rfl⟩)
  · skip
    refine rn_iload_n 1 dX9_interdictResponse_0 rfl rfl rfl ?_
    refine rn_iload_n 2 dX9_interdictResponse_1 rfl rfl rfl ?_
    refine rn_csp mX9_areNodes [.int v1, .int v2] [] 5 (.int 0) dX9_interdictResponse_2 cs_X9_53 rfl rfl (by simp [Value.category]) rfl (c_mareNodes_f (d) mu h qq0) ?_
    refine rn_if_eq 27 8 dX9_interdictResponse_5 (by decide) rfl (fun _ => ?_) (fun c5 => absurd (by decide) c5)
    refine rn_bipush (v := (-2)) 29 dX9_interdictResponse_27 (by decide) rfl ?_
    exact rn_iret rfl dX9_interdictResponse_29 (⟨rfl, hs0, fun _ _ => rfl⟩)

set_option maxRecDepth 100000 in
set_option maxHeartbeats 2000000 in
theorem m_intR_t (d : Nat) {g : List Ed} {a : Nat} {hs : List Sg} {tx : List Nat} {f : Int32} {u v : Nat} (hu : u < 8) (hv : v < 8) {B r : Nat} (hB : B < 6) (hr : r < 4) {q : Kx} (hq : bst g B 0 (vA g u v r 9999) q) : MC mX9_interdictResponse (d + 6) [.int (nI u), .int (nI v), .int (nI B), .int (nI r)] (g, a, hs, tx, f) (g, a, hs, tx, nI q.2.2) (.int (nI q.1)) := by
  intro mu h hs0
  obtain ⟨hg, ha, hh, ht, hf⟩ := id hs0
  simp only at hg ha hh ht hf
  refine gd_of rfl (Nat.le_of_ble_eq_true rfl) ?_
  show rn_R none mX9_interdictResponse (d + 6) 0 [some (.ref 22), some (.int (nI u)), some (.int (nI v)), some (.int (nI B)), some (.int (nI r)), none] [] mu h (fun r mu' _ => r = some (.int (nI q.1)) ∧ mS (g, a, hs, tx, nI q.2.2) mu' ∧ ∀ c, c < 22 → mu' c = mu c)
  refine rn_iload_n 1 dX9_interdictResponse_0 rfl rfl rfl ?_
  refine rn_iload_n 2 dX9_interdictResponse_1 rfl rfl rfl ?_
  refine rn_csp mX9_areNodes [.int (nI u), .int (nI v)] [] 5 (.int 1) dX9_interdictResponse_2 cs_X9_53 rfl rfl (by simp [Value.category]) rfl (c_mareNodes_t (d + 4) mu h ⟨u, hu, rfl⟩ ⟨v, hv, rfl⟩) ?_
  refine rn_if_eq 27 8 dX9_interdictResponse_5 (by decide) rfl (fun c5 => absurd c5 (by decide)) (fun _ => ?_)
  refine rn_iload_n 9 dX9_interdictResponse_8 rfl rfl rfl ?_
  refine rn_iconst (v := 0) 10 dX9_interdictResponse_9 (by decide) rfl ?_
  refine rn_iconst (v := 5) 11 dX9_interdictResponse_10 (by decide) rfl ?_
  refine rn_csp mX9_in [.int (nI B), .int 0, .int 5] [] 14 (.int 1) dX9_interdictResponse_11 cs_X9_38 rfl rfl (by simp [Value.category]) rfl (c_in_i (d + 5) mu h (M := 5) (⟨B, hB, rfl⟩) (by omega)) ?_
  refine rn_if_eq 27 17 dX9_interdictResponse_14 (by decide) rfl (fun c14 => absurd c14 (by decide)) (fun _ => ?_)
  refine rn_iload 19 dX9_interdictResponse_17 rfl rfl ?_
  refine rn_iconst (v := 0) 20 dX9_interdictResponse_19 (by decide) rfl ?_
  refine rn_iconst (v := 3) 21 dX9_interdictResponse_20 (by decide) rfl ?_
  refine rn_csp mX9_in [.int (nI r), .int 0, .int 3] [] 24 (.int 1) dX9_interdictResponse_21 cs_X9_38 rfl rfl (by simp [Value.category]) rfl (c_in_i (d + 5) mu h (M := 3) (⟨r, hr, rfl⟩) (by omega)) ?_
  refine rn_if_ne 30 27 dX9_interdictResponse_24 (by decide) rfl (fun _ => ?_) (fun c24 => absurd c24 (by decide))
  refine rn_aload_n 31 dX9_interdictResponse_30 rfl rfl rfl ?_
  refine rn_iload_n 32 dX9_interdictResponse_31 rfl rfl rfl ?_
  refine rn_iload_n 33 dX9_interdictResponse_32 rfl rfl rfl ?_
  refine rn_iload_n 34 dX9_interdictResponse_33 rfl rfl rfl ?_
  refine rn_iconst (v := 0) 35 dX9_interdictResponse_34 (by decide) rfl ?_
  refine rn_iload 37 dX9_interdictResponse_35 rfl rfl ?_
  refine rn_callV mX9_bestFar [.int (nI u), .int (nI v), .int (nI B), .int 0, .int (nI r)] [] dX9_interdictResponse_37 cv_X9_166 rfl rfl rfl (by simp [Value.category]) (c_best (d) (B := B) (rep := r) (F := 0) hu hv (by omega) (by omega) (vA_9 hg.2.1 hv ▸ hq) h hg) (fun r1 m1 h1 qq _ => ?_)
  obtain ⟨e1, s1, k1, f1⟩ := qq
  rw [e1, k1]
  show rn_R _ mX9_interdictResponse _ 40 [some (.ref 22), some (.int (nI u)), some (.int (nI v)), some (.int (nI B)), some (.int (nI r)), none] [.int (nI q.1)] m1 h _
  refine rn_istore 42 [some (.ref 22), some (.int (nI u)), some (.int (nI v)), some (.int (nI B)), some (.int (nI r)), some (.int (nI q.1))] dX9_interdictResponse_40 rfl (Nat.le_of_ble_eq_true rfl) rfl ?_
  refine rn_aload_n 43 dX9_interdictResponse_42 rfl rfl rfl ?_
  refine rn_aload_n 44 dX9_interdictResponse_43 rfl rfl rfl ?_
  refine rn_get 47 (.int (m1 22 17)) dX9_interdictResponse_44 fl_X9_163 rfl rfl rfl rfl ?_
  refine rn_put 50 dX9_interdictResponse_47 fp_X9_16 rfl rfl rfl rfl rfl ?_
  refine rn_iload 52 dX9_interdictResponse_50 rfl rfl ?_
  exact rn_iret rfl dX9_interdictResponse_52 (⟨rfl, mS_fd hs0 (fun c c1 c2 => by simp [mu_s, show c ≠ 22 by omega]; exact f1.1 c (by omega) (by omega)) (by simp [mu_s, upd]; exact f1.2 2 (by omega)) (by simp [mu_s, upd]; exact f1.2 5 (by omega)) (by simp [mu_s, upd, s1]), fun c hc => by simp [mu_s, show c ≠ 22 by omega]; exact f1.1 c (by omega) (by omega)⟩)

set_option maxRecDepth 100000 in
set_option maxHeartbeats 2000000 in
theorem m_int_b (d : Nat) {g : List Ed} {a : Nat} {hs : List Sg} {tx : List Nat} {f : Int32} {v1 v2 v3 : Int32} (hv : ¬ ((isin v1 8 ∧ isin v2 8) ∧ isin v3 (5 + 1))) : MC mX9_interdict (d + 2) [.int v1, .int v2, .int v3] (g, a, hs, tx, f) (g, a, hs, tx, f) (.int (-2)) := by
  intro mu h hs0
  obtain ⟨hg, ha, hh, ht, hf⟩ := id hs0
  simp only at hg ha hh ht hf
  refine gd_of rfl (Nat.le_of_ble_eq_true rfl) ?_
  show rn_R none mX9_interdict (d + 2) 0 [some (.ref 22), some (.int v1), some (.int v2), some (.int v3), none] [] mu h (fun r mu' _ => r = some (.int (-2)) ∧ mS (g, a, hs, tx, f) mu' ∧ ∀ c, c < 22 → mu' c = mu c)
  by_cases qq0 : isin v1 8 ∧ isin v2 8
  · skip
    have qq1 : ¬ (isin v3 (5 + 1)) := fun z => hv ⟨qq0, z⟩
    refine rn_iload_n 1 dX9_interdict_0 rfl rfl rfl ?_
    refine rn_iload_n 2 dX9_interdict_1 rfl rfl rfl ?_
    refine rn_csp mX9_areNodes [.int v1, .int v2] [] 5 (.int 1) dX9_interdict_2 cs_X9_53 rfl rfl (by simp [Value.category]) rfl (c_mareNodes_t (d) mu h qq0.1 qq0.2) ?_
    refine rn_if_eq 17 8 dX9_interdict_5 (by decide) rfl (fun c5 => absurd c5 (by decide)) (fun _ => ?_)
    refine rn_iload_n 9 dX9_interdict_8 rfl rfl rfl ?_
    refine rn_iconst (v := 0) 10 dX9_interdict_9 (by decide) rfl ?_
    refine rn_iconst (v := 5) 11 dX9_interdict_10 (by decide) rfl ?_
    refine rn_csp mX9_in [.int v3, .int 0, .int 5] [] 14 (.int 0) dX9_interdict_11 cs_X9_38 rfl rfl (by simp [Value.category]) rfl (c_in_f (d + 1) mu h (nisin (n := 5) (by omega) qq1)) ?_
    refine rn_if_ne 20 17 dX9_interdict_14 (by decide) rfl (fun c14 => absurd (rfl) c14) (fun _ => ?_)
    refine rn_bipush (v := (-2)) 19 dX9_interdict_17 (by decide) rfl ?_
    exact rn_iret rfl dX9_interdict_19 (⟨rfl, hs0, fun _ _ => rfl⟩)
  · skip
    refine rn_iload_n 1 dX9_interdict_0 rfl rfl rfl ?_
    refine rn_iload_n 2 dX9_interdict_1 rfl rfl rfl ?_
    refine rn_csp mX9_areNodes [.int v1, .int v2] [] 5 (.int 0) dX9_interdict_2 cs_X9_53 rfl rfl (by simp [Value.category]) rfl (c_mareNodes_f (d) mu h qq0) ?_
    refine rn_if_eq 17 8 dX9_interdict_5 (by decide) rfl (fun _ => ?_) (fun c5 => absurd (by decide) c5)
    refine rn_bipush (v := (-2)) 19 dX9_interdict_17 (by decide) rfl ?_
    exact rn_iret rfl dX9_interdict_19 (⟨rfl, hs0, fun _ _ => rfl⟩)

set_option maxRecDepth 100000 in
set_option maxHeartbeats 2000000 in
theorem m_int_t (d : Nat) {g : List Ed} {a : Nat} {hs : List Sg} {tx : List Nat} {f : Int32} {u v : Nat} (hu : u < 8) (hv : v < 8) {B : Nat} (hB : B < 6) {q : Kx} (hq : bst g B 0 (vA g u v 0 9999) q) : MC mX9_interdict (d + 6) [.int (nI u), .int (nI v), .int (nI B)] (g, a, hs, tx, f) (g, a, hs, tx, nI q.2.2) (.int (nI q.1)) := by
  intro mu h hs0
  obtain ⟨hg, ha, hh, ht, hf⟩ := id hs0
  simp only at hg ha hh ht hf
  refine gd_of rfl (Nat.le_of_ble_eq_true rfl) ?_
  show rn_R none mX9_interdict (d + 6) 0 [some (.ref 22), some (.int (nI u)), some (.int (nI v)), some (.int (nI B)), none] [] mu h (fun r mu' _ => r = some (.int (nI q.1)) ∧ mS (g, a, hs, tx, nI q.2.2) mu' ∧ ∀ c, c < 22 → mu' c = mu c)
  refine rn_iload_n 1 dX9_interdict_0 rfl rfl rfl ?_
  refine rn_iload_n 2 dX9_interdict_1 rfl rfl rfl ?_
  refine rn_csp mX9_areNodes [.int (nI u), .int (nI v)] [] 5 (.int 1) dX9_interdict_2 cs_X9_53 rfl rfl (by simp [Value.category]) rfl (c_mareNodes_t (d + 4) mu h ⟨u, hu, rfl⟩ ⟨v, hv, rfl⟩) ?_
  refine rn_if_eq 17 8 dX9_interdict_5 (by decide) rfl (fun c5 => absurd c5 (by decide)) (fun _ => ?_)
  refine rn_iload_n 9 dX9_interdict_8 rfl rfl rfl ?_
  refine rn_iconst (v := 0) 10 dX9_interdict_9 (by decide) rfl ?_
  refine rn_iconst (v := 5) 11 dX9_interdict_10 (by decide) rfl ?_
  refine rn_csp mX9_in [.int (nI B), .int 0, .int 5] [] 14 (.int 1) dX9_interdict_11 cs_X9_38 rfl rfl (by simp [Value.category]) rfl (c_in_i (d + 5) mu h (M := 5) (⟨B, hB, rfl⟩) (by omega)) ?_
  refine rn_if_ne 20 17 dX9_interdict_14 (by decide) rfl (fun _ => ?_) (fun c14 => absurd c14 (by decide))
  refine rn_aload_n 21 dX9_interdict_20 rfl rfl rfl ?_
  refine rn_iload_n 22 dX9_interdict_21 rfl rfl rfl ?_
  refine rn_iload_n 23 dX9_interdict_22 rfl rfl rfl ?_
  refine rn_iload_n 24 dX9_interdict_23 rfl rfl rfl ?_
  refine rn_iconst (v := 0) 25 dX9_interdict_24 (by decide) rfl ?_
  refine rn_iconst (v := 0) 26 dX9_interdict_25 (by decide) rfl ?_
  refine rn_callV mX9_bestFar [.int (nI u), .int (nI v), .int (nI B), .int 0, .int 0] [] dX9_interdict_26 cv_X9_166 rfl rfl rfl (by simp [Value.category]) (c_best (d) (B := B) (rep := 0) (F := 0) hu hv (by omega) (by omega) (vA_9 hg.2.1 hv ▸ hq) h hg) (fun r1 m1 h1 qq _ => ?_)
  obtain ⟨e1, s1, k1, f1⟩ := qq
  rw [e1, k1]
  show rn_R _ mX9_interdict _ 29 [some (.ref 22), some (.int (nI u)), some (.int (nI v)), some (.int (nI B)), none] [.int (nI q.1)] m1 h _
  refine rn_istore 31 [some (.ref 22), some (.int (nI u)), some (.int (nI v)), some (.int (nI B)), some (.int (nI q.1))] dX9_interdict_29 rfl (Nat.le_of_ble_eq_true rfl) rfl ?_
  refine rn_aload_n 32 dX9_interdict_31 rfl rfl rfl ?_
  refine rn_aload_n 33 dX9_interdict_32 rfl rfl rfl ?_
  refine rn_get 36 (.int (m1 22 17)) dX9_interdict_33 fl_X9_163 rfl rfl rfl rfl ?_
  refine rn_put 39 dX9_interdict_36 fp_X9_16 rfl rfl rfl rfl rfl ?_
  refine rn_iload 41 dX9_interdict_39 rfl rfl ?_
  exact rn_iret rfl dX9_interdict_41 (⟨rfl, mS_fd hs0 (fun c c1 c2 => by simp [mu_s, show c ≠ 22 by omega]; exact f1.1 c (by omega) (by omega)) (by simp [mu_s, upd]; exact f1.2 2 (by omega)) (by simp [mu_s, upd]; exact f1.2 5 (by omega)) (by simp [mu_s, upd, s1]), fun c hc => by simp [mu_s, show c ≠ 22 by omega]; exact f1.1 c (by omega) (by omega)⟩)

theorem OP_no {yx ym : ym_T} {av : List Value} {g : List Ed} {a : Nat} {hs : List Sg} {tx : List Nat} {f : Int32} (hn : ¬ ∀ x ∈ g, e_ok x) : ∃ (ans : Value) (s' : Sx), XC yx 100 av (g, a, hs, tx, f) s' ans ∧ MC ym 100 av (g, a, hs, tx, f) s' ans := ⟨.int 0, (g, a, hs, tx, f), fun _ _ h => absurd h.1.2.1 hn, fun _ _ h => absurd h.1.2.1 hn⟩
theorem op_intR (v1 v2 v3 v4 : Int32) : OP mX8_interdictResponse mX9_interdictResponse [.int v1, .int v2, .int v3, .int v4] := by
  rintro ⟨g, a, hs, tx, f⟩
  by_cases hn : ∀ x ∈ g, e_ok x
  · by_cases hv : (isin v1 8 ∧ isin v2 8) ∧ isin v3 (5 + 1) ∧ isin v4 (3 + 1)
    · obtain ⟨⟨⟨u, hu, rfl⟩, v, hv, rfl⟩, ⟨B, hB, rfl⟩, r, hr, rfl⟩ := hv
      obtain ⟨q, -, hq⟩ := grow_best (s := u) (rep := r) (aim := 9999) (F := 0) hn hv (show B ≤ 16 by omega)
      exact ⟨_, _, x_intR_t 79 hu hv hB hr hq, m_intR_t 94 hu hv hB hr hq⟩
    · exact ⟨_, _, x_intR_b 98 hv, m_intR_b 98 hv⟩
  · exact OP_no hn
theorem op_interdict (v1 v2 v3 : Int32) : OP mX8_interdict mX9_interdict [.int v1, .int v2, .int v3] := by
  rintro ⟨g, a, hs, tx, f⟩
  by_cases hn : ∀ x ∈ g, e_ok x
  · by_cases hv : (isin v1 8 ∧ isin v2 8) ∧ isin v3 (5 + 1)
    · obtain ⟨⟨⟨u, hu, rfl⟩, v, hv, rfl⟩, B, hB, rfl⟩ := hv
      obtain ⟨q, -, hq⟩ := grow_best (s := u) (rep := 0) (aim := 9999) (F := 0) hn hv (show B ≤ 16 by omega)
      exact ⟨_, _, x_int_t 78 hu hv hB hq, m_int_t 94 hu hv hB hq⟩
    · exact ⟨_, _, x_int_b 97 hv, m_int_b 98 hv⟩
  · exact OP_no hn
