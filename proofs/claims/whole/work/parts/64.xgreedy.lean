/-! BOTH SIDES: greedy -/
abbrev Gq : Type := Nat × Nat
def grT (g : List Ed) (o : Option Gq) (e D : Nat) : Option Gq := match o with
  | none => some (e, D)
  | some q => if q.2 < D ∨ (D = q.2 ∧ eC g e < eC g q.1) then some (e, D) else some q
def gxT (g : List Ed) (now : Nat) (o : Option Gq) (e D : Nat) : Option Gq := match o with
  | none => if now < D then some (e, D) else none
  | some q => if q.2 < D ∨ (D = q.2 ∧ eC g e < eC g q.1) then some (e, D) else some q
def grS (g : List Ed) (s t Bd S : Nat) : Nat → Option Gq
  | 0 => none
  | e + 1 => if ¬ S.testBit e = true ∧ cS g (S ||| 2 ^ e) g.length ≤ Bd then grT g (grS g s t Bd S e) e (xD g (S ||| 2 ^ e) s t 0) else grS g s t Bd S e
def gxS (g : List Ed) (s t Bd S now : Nat) : Nat → Option Gq
  | 0 => none
  | e + 1 => if ¬ S.testBit e = true ∧ cS g (S ||| 2 ^ e) g.length ≤ Bd then gxT g now (gxS g s t Bd S now e) e (xD g (S ||| 2 ^ e) s t 0) else gxS g s t Bd S now e
def gfl (now : Nat) (o : Option Gq) : Option Gq := match o with
  | none => none
  | some q => if now < q.2 then some q else none
theorem gxS_eq {g : List Ed} {s t Bd S now : Nat} : ∀ k, gxS g s t Bd S now k = gfl now (grS g s t Bd S k) := by
  intro k
  induction k with
  | zero => rfl
  | succ e ih =>
    by_cases c : ¬ S.testBit e = true ∧ cS g (S ||| 2 ^ e) g.length ≤ Bd
    · have e1 : gxS g s t Bd S now (e + 1) = gxT g now (gxS g s t Bd S now e) e (xD g (S ||| 2 ^ e) s t 0) := if_pos c
      have e2 : grS g s t Bd S (e + 1) = grT g (grS g s t Bd S e) e (xD g (S ||| 2 ^ e) s t 0) := if_pos c
      rw [e1, e2, ih]
      generalize xD g (S ||| 2 ^ e) s t 0 = D
      cases grS g s t Bd S e with
      | none => rfl
      | some q =>
        obtain ⟨q1, q2⟩ := q
        by_cases a : now < q2
        · have f1 : gfl now (some (q1, q2)) = some (q1, q2) := if_pos a
          rw [f1]
          by_cases b : q2 < D ∨ (D = q2 ∧ eC g e < eC g q1)
          · have f2 : gxT g now (some (q1, q2)) e D = some (e, D) := if_pos b
            have f3 : grT g (some (q1, q2)) e D = some (e, D) := if_pos b
            have f4 : gfl now (some (e, D)) = some (e, D) := if_pos (show now < D by omega)
            rw [f2, f3, f4]
          · have f2 : gxT g now (some (q1, q2)) e D = some (q1, q2) := if_neg b
            have f3 : grT g (some (q1, q2)) e D = some (q1, q2) := if_neg b
            rw [f2, f3, f1]
        · have f1 : gfl now (some (q1, q2)) = none := if_neg a
          rw [f1]
          by_cases b : q2 < D ∨ (D = q2 ∧ eC g e < eC g q1)
          · have f3 : grT g (some (q1, q2)) e D = some (e, D) := if_pos b
            rw [f3]
            rfl
          · have f3 : grT g (some (q1, q2)) e D = some (q1, q2) := if_neg b
            have f4 : gxT g now none e D = none := if_neg (by omega)
            rw [f3, f1, f4]
    · have e1 : gxS g s t Bd S now (e + 1) = gxS g s t Bd S now e := if_neg c
      have e2 : grS g s t Bd S (e + 1) = grS g s t Bd S e := if_neg c
      rw [e1, e2, ih]
theorem grS_ok {g : List Ed} {s t Bd S : Nat} : ∀ k q, grS g s t Bd S k = some q → q.1 < k ∧ ¬ S.testBit q.1 = true ∧ cS g (S ||| 2 ^ q.1) g.length ≤ Bd ∧ q.2 = xD g (S ||| 2 ^ q.1) s t 0 := by
  intro k
  induction k with
  | zero => intro q h; cases h
  | succ e ih =>
    intro q h
    by_cases c : ¬ S.testBit e = true ∧ cS g (S ||| 2 ^ e) g.length ≤ Bd
    · have e2 : grS g s t Bd S (e + 1) = grT g (grS g s t Bd S e) e (xD g (S ||| 2 ^ e) s t 0) := if_pos c
      rw [e2] at h
      cases hg : grS g s t Bd S e with
      | none => rw [hg] at h; cases h; exact ⟨Nat.lt_succ_self e, c.1, c.2, rfl⟩
      | some p =>
        rw [hg] at h
        by_cases b : p.2 < xD g (S ||| 2 ^ e) s t 0 ∨ (xD g (S ||| 2 ^ e) s t 0 = p.2 ∧ eC g e < eC g p.1)
        · have f3 : grT g (some p) e (xD g (S ||| 2 ^ e) s t 0) = some (e, xD g (S ||| 2 ^ e) s t 0) := if_pos b
          rw [f3] at h; cases h; exact ⟨Nat.lt_succ_self e, c.1, c.2, rfl⟩
        · have f3 : grT g (some p) e (xD g (S ||| 2 ^ e) s t 0) = some p := if_neg b
          rw [f3] at h; cases h
          obtain ⟨a1, a2⟩ := ih _ hg
          exact ⟨by omega, a2⟩
    · have e2 : grS g s t Bd S (e + 1) = grS g s t Bd S e := if_neg c
      rw [e2] at h
      obtain ⟨a1, a2⟩ := ih _ h
      exact ⟨by omega, a2⟩
theorem gxS_ok {g : List Ed} {s t Bd S now k : Nat} {q : Gq} (h : gxS g s t Bd S now k = some q) : q.1 < k ∧ ¬ S.testBit q.1 = true ∧ cS g (S ||| 2 ^ q.1) g.length ≤ Bd ∧ q.2 = xD g (S ||| 2 ^ q.1) s t 0 ∧ now < q.2 := by
  rw [gxS_eq] at h
  cases hg : grS g s t Bd S k with
  | none => rw [hg] at h; cases h
  | some p =>
    rw [hg] at h
    by_cases a : now < p.2
    · have f1 : gfl now (some p) = some p := if_pos a
      rw [f1] at h; cases h
      obtain ⟨b1, b2, b3, b4⟩ := grS_ok _ _ hg
      exact ⟨b1, b2, b3, b4, a⟩
    · have f1 : gfl now (some p) = none := if_neg a
      rw [f1] at h; cases h
def grd (g : List Ed) (s t Bd : Nat) : Nat → Nat → Nat × Nat
  | 0, S => (S, xD g S s t 0)
  | f + 1, S => match gxS g s t Bd S (xD g S s t 0) g.length with
    | none => (S, xD g S s t 0)
    | some q => grd g s t Bd f (S ||| 2 ^ q.1)
theorem grd_n {g : List Ed} {s t Bd f S : Nat} (h : gxS g s t Bd S (xD g S s t 0) g.length = none) : grd g s t Bd (f + 1) S = (S, xD g S s t 0) := by
  show (match gxS g s t Bd S (xD g S s t 0) g.length with | none => (S, xD g S s t 0) | some q => grd g s t Bd f (S ||| 2 ^ q.1)) = _
  rw [h]
theorem grd_s {g : List Ed} {s t Bd f S : Nat} {q : Gq} (h : gxS g s t Bd S (xD g S s t 0) g.length = some q) : grd g s t Bd (f + 1) S = grd g s t Bd f (S ||| 2 ^ q.1) := by
  show (match gxS g s t Bd S (xD g S s t 0) g.length with | none => (S, xD g S s t 0) | some q => grd g s t Bd f (S ||| 2 ^ q.1)) = _
  rw [h]
theorem mny_or {S e : Nat} (hb : ¬ S.testBit e = true) : ∀ k, mny (S ||| 2 ^ e) k = mny S k + (if e < k then 1 else 0) := by
  intro k
  induction k with
  | zero => rfl
  | succ k ih =>
    show mny (S ||| 2 ^ e) k + (if (S ||| 2 ^ e).testBit k then 1 else 0) = mny S k + (if S.testBit k then 1 else 0) + _
    rw [ih]
    by_cases q : e = k
    · subst q
      rw [if_pos ((tb_or1 S e e).mpr (Or.inr rfl)), if_neg hb, if_neg (Nat.lt_irrefl _), if_pos (Nat.lt_succ_self _)]
    · by_cases w : S.testBit k = true
      · rw [if_pos ((tb_or1 S e k).mpr (Or.inl w)), if_pos w]
        by_cases z : e < k
        · rw [if_pos z, if_pos (by omega)]
        · rw [if_neg z, if_neg (by omega)]
      · have nw : ¬ (S ||| 2 ^ e).testBit k = true := fun z => by
          rcases (tb_or1 S e k).mp z with z | z
          · exact w z
          · exact q z
        rw [if_neg nw, if_neg w]
        by_cases z : e < k
        · rw [if_pos z, if_pos (by omega)]
        · rw [if_neg z, if_neg (by omega)]
theorem mny_all {S : Nat} : ∀ k, k ≤ mny S k → ∀ i, i < k → S.testBit i = true := by
  intro k
  induction k with
  | zero => intro _ i hi; omega
  | succ k ih =>
    intro h i hi
    have h2 : k + 1 ≤ mny S k + (if S.testBit k then 1 else 0) := h
    have h3 := mny_le S k
    by_cases q : S.testBit k = true
    · rw [if_pos q] at h2
      by_cases z : i = k
      · rw [z]; exact q
      · exact ih (by omega) i (by omega)
    · rw [if_neg q] at h2; omega
theorem gxS_all {g : List Ed} {s t Bd S now : Nat} (h : g.length ≤ mny S g.length) : gxS g s t Bd S now g.length = none := by
  cases hq : gxS g s t Bd S now g.length with
  | none => rfl
  | some q =>
    obtain ⟨a1, a2, -⟩ := gxS_ok hq
    exact absurd (mny_all _ h _ a1) a2
def gb1 (o : Option Gq) : Int32 := match o with
  | none => -1
  | some q => nI q.1
def gb2 (x : Nat) (o : Option Gq) : Int32 := match o with
  | none => nI x
  | some q => nI q.2
theorem nI_m1 {c : Nat} (h : c < 2 ^ 31) : ¬ nI c = -1 := oI_ne h

set_option maxRecDepth 100000 in
set_option maxHeartbeats 2000000 in
theorem lp_gi (d : Nat) {g : List Ed} {s t Bd : Nat} (hs : s < 8) (ht : t < 8) (hBd : Bd ≤ 20) {S st : Nat} (hS : S < 2 ^ g.length) (hcS : cS g S g.length ≤ Bd) {mu0 : Nat → Nat → Int32} {Q : rn_Q} (kk : ∀ (mu2 : Nat → Nat → Int32) (h2 : Int64), xg g mu2 → mu2 20 2 = nI S → (∀ c, (c < 9 ∨ 13 < c) → mu2 c = mu0 c) → rn_R none mX3_seek (d + 3) 155 [some (.ref 20), some (.int (nI s)), some (.int (nI t)), some (.int (nI Bd)), some (.int (nI (Bd - cS g S g.length))), some (.int (nI (xD g S s t 0))), some (.int (nI st)), some (.int (gb1 (gxS g s t Bd S (xD g S s t 0) g.length))), some (.int (gb2 (xD g S s t 0) (gxS g s t Bd S (xD g S s t 0) g.length))), none, none] [] mu2 h2 Q) : ∀ (k e : Nat) (mu : Nat → Nat → Int32) (h : Int64), e + k = g.length → (xg g mu) → (mu 20 2 = nI S) → (∀ c, (c < 9 ∨ 13 < c) → mu c = mu0 c) → rn_R none mX3_seek (d + 3) 41 [some (.ref 20), some (.int (nI s)), some (.int (nI t)), some (.int (nI Bd)), some (.int (nI (Bd - cS g S g.length))), some (.int (nI (xD g S s t 0))), some (.int (nI st)), some (.int (gb1 (gxS g s t Bd S (xD g S s t 0) e))), some (.int (gb2 (xD g S s t 0) (gxS g s t Bd S (xD g S s t 0) e))), some (.int (nI e)), none] [] mu h Q := by
  intro k
  induction k with
  | zero =>
    intro e mu h hek hg hS2 hfr
    obtain rfl : e = g.length := by omega
    refine rn_iload 43 dX3_seek_41 rfl rfl ?_
    refine rn_aload_n 44 dX3_seek_43 rfl rfl rfl ?_
    refine rn_get 47 (.ref 1) dX3_seek_44 fl_X3_15 rfl rfl rfl rfl ?_
    refine rn_get 50 (.int (mu 1 1)) dX3_seek_47 fl_X3_29 rfl rfl rfl rfl ?_
    refine rn_icmp_ge 155 53 dX3_seek_50 (by decide) rfl (fun _ => ?_) (fun c50 => absurd (by rw [hg.2.2.1]; exact nI_le (by omega) (by have := hg.1; omega)) c50)
    refine rn_drop 9 [some (.ref 20), some (.int (nI s)), some (.int (nI t)), some (.int (nI Bd)), some (.int (nI (Bd - cS g S g.length))), some (.int (nI (xD g S s t 0))), some (.int (nI st)), some (.int (gb1 (gxS g s t Bd S (xD g S s t 0) g.length))), some (.int (gb2 (xD g S s t 0) (gxS g s t Bd S (xD g S s t 0) g.length))), none, none] rfl ?_
    exact kk mu h hg hS2 hfr
  | succ k ih =>
    intro e mu h hek hg hS2 hfr
    have h16 := hg.1
    have hp := pw_le hg.1
    have hlt : e < g.length := by omega
    have hok := e_at hg.2.1 hlt
    have bx := xD_le (S := S ||| 2 ^ e) (s := s) (rep := 0) hg.2.1 ht
    have bn := xD_le (S := S) (s := s) (rep := 0) hg.2.1 ht
    have hSe : S ||| 2 ^ e < 2 ^ g.length := tb_add_lt hS hlt
    by_cases q1 : S.testBit e = true
    · skip
      have bb : (nI S >>> (nI e &&& 31)) &&& 1 = 1 := by rw [nb_bit (by omega) (by omega), if_pos q1]
      refine rn_iload 43 dX3_seek_41 rfl rfl ?_
      refine rn_aload_n 44 dX3_seek_43 rfl rfl rfl ?_
      refine rn_get 47 (.ref 1) dX3_seek_44 fl_X3_15 rfl rfl rfl rfl ?_
      refine rn_get 50 (.int (mu 1 1)) dX3_seek_47 fl_X3_29 rfl rfl rfl rfl ?_
      refine rn_icmp_ge 155 53 dX3_seek_50 (by decide) rfl (fun c50 => absurd c50 (by rw [hg.2.2.1]; exact nI_ge hlt (by omega))) (fun _ => ?_)
      refine rn_aload_n 54 dX3_seek_53 rfl rfl rfl ?_
      refine rn_get 57 (.int (mu 20 2)) dX3_seek_54 fl_X3_9 rfl rfl rfl rfl ?_
      refine rn_iload 59 dX3_seek_57 rfl rfl ?_
      refine rn_ishr 60 dX3_seek_59 rfl ?_
      refine rn_iconst (v := 1) 61 dX3_seek_60 (by decide) rfl ?_
      refine rn_iand 62 dX3_seek_61 rfl ?_
      rw [hS2, bb]
      refine rn_if_ne 149 65 dX3_seek_62 (by decide) rfl (fun _ => ?_) (fun c62 => absurd c62 (by decide))
      refine rn_iinc (v := (nI (e + 1))) 152 [some (.ref 20), some (.int (nI s)), some (.int (nI t)), some (.int (nI Bd)), some (.int (nI (Bd - cS g S g.length))), some (.int (nI (xD g S s t 0))), some (.int (nI st)), some (.int (gb1 (gxS g s t Bd S (xD g S s t 0) e))), some (.int (gb2 (xD g S s t 0) (gxS g s t Bd S (xD g S s t 0) e))), some (.int (nI (e + 1))), none] dX3_seek_149 rfl (nI_1 _) rfl rfl ?_
      refine rn_goto 41 dX3_seek_152 (by decide) ?_
      have em : gxS g s t Bd S (xD g S s t 0) (e + 1) = gxS g s t Bd S (xD g S s t 0) e := if_neg (fun z => z.1 q1)
      have z := ih (e + 1) mu h (by omega) hg hS2 hfr
      rw [em] at z
      exact z
    · skip
      have bb : (nI S >>> (nI e &&& 31)) &&& 1 = 0 := by rw [nb_bit (by omega) (by omega), if_neg q1]
      have hco := cS_or (g := g) q1 g.length
      rw [if_pos hlt] at hco
      by_cases q2 : cS g (S ||| 2 ^ e) g.length ≤ Bd
      · skip
        have em0 : gxS g s t Bd S (xD g S s t 0) (e + 1) = gxT g (xD g S s t 0) (gxS g s t Bd S (xD g S s t 0) e) e (xD g (S ||| 2 ^ e) s t 0) := if_pos ⟨q1, q2⟩
        refine rn_iload 43 dX3_seek_41 rfl rfl ?_
        refine rn_aload_n 44 dX3_seek_43 rfl rfl rfl ?_
        refine rn_get 47 (.ref 1) dX3_seek_44 fl_X3_15 rfl rfl rfl rfl ?_
        refine rn_get 50 (.int (mu 1 1)) dX3_seek_47 fl_X3_29 rfl rfl rfl rfl ?_
        refine rn_icmp_ge 155 53 dX3_seek_50 (by decide) rfl (fun c50 => absurd c50 (by rw [hg.2.2.1]; exact nI_ge hlt (by omega))) (fun _ => ?_)
        refine rn_aload_n 54 dX3_seek_53 rfl rfl rfl ?_
        refine rn_get 57 (.int (mu 20 2)) dX3_seek_54 fl_X3_9 rfl rfl rfl rfl ?_
        refine rn_iload 59 dX3_seek_57 rfl rfl ?_
        refine rn_ishr 60 dX3_seek_59 rfl ?_
        refine rn_iconst (v := 1) 61 dX3_seek_60 (by decide) rfl ?_
        refine rn_iand 62 dX3_seek_61 rfl ?_
        rw [hS2, bb]
        refine rn_if_ne 149 65 dX3_seek_62 (by decide) rfl (fun c62 => absurd (rfl) c62) (fun _ => ?_)
        refine rn_aload_n 66 dX3_seek_65 rfl rfl rfl ?_
        refine rn_get 69 (.ref 1) dX3_seek_66 fl_X3_15 rfl rfl rfl rfl ?_
        refine rn_iload 71 dX3_seek_69 rfl rfl ?_
        refine rn_cvp mX2_cost [.int (nI e)] [] 74 (.int (nI (eC g e))) dX3_seek_71 cv_X3_34 rfl rfl rfl (by simp [Value.category]) rfl (c_cost (d + 1) h hg hlt) ?_
        refine rn_iload 76 dX3_seek_74 rfl rfl ?_
        refine rn_icmp_gt 149 79 dX3_seek_76 (by decide) rfl (fun c76 => absurd c76 (nI_nlt (by omega) (by omega))) (fun _ => ?_)
        refine rn_aload_n 80 dX3_seek_79 rfl rfl rfl ?_
        refine rn_get 83 (.ref 8) dX3_seek_80 fl_X3_19 rfl rfl rfl rfl ?_
        refine rn_iload_n 84 dX3_seek_83 rfl rfl rfl ?_
        refine rn_iload_n 85 dX3_seek_84 rfl rfl rfl ?_
        refine rn_aload_n 86 dX3_seek_85 rfl rfl rfl ?_
        refine rn_get 89 (.int (mu 20 2)) dX3_seek_86 fl_X3_9 rfl rfl rfl rfl ?_
        refine rn_iconst (v := 1) 90 dX3_seek_89 (by decide) rfl ?_
        refine rn_iload 92 dX3_seek_90 rfl rfl ?_
        refine rn_ishl 93 dX3_seek_92 rfl ?_
        refine rn_ior 94 dX3_seek_93 rfl ?_
        rw [hS2, nb_1 (by omega), nb_or]
        refine rn_iconst (v := 0) 95 dX3_seek_94 (by decide) rfl ?_
        refine rn_callV mX5_measure [.int (nI s), .int (nI t), .int (nI (S ||| 2 ^ e)), .int 0] [] dX3_seek_95 cv_X3_23 rfl rfl rfl (by simp [Value.category]) (c_measure (d) (S := S ||| 2 ^ e) (s := s) (t := t) (rep := 0) (by omega) hs ht (by omega) h hg) (fun r1 m1 h1 q1 _ => ?_)
        obtain ⟨e1, R1, W1, f1⟩ := q1
        subst e1
        have hg1 : xg g m1 := xg_fr hg f1
        show rn_R _ mX3_seek _ 98 [some (.ref 20), some (.int (nI s)), some (.int (nI t)), some (.int (nI Bd)), some (.int (nI (Bd - cS g S g.length))), some (.int (nI (xD g S s t 0))), some (.int (nI st)), some (.int (gb1 (gxS g s t Bd S (xD g S s t 0) e))), some (.int (gb2 (xD g S s t 0) (gxS g s t Bd S (xD g S s t 0) e))), some (.int (nI e)), none] [.int (nI (xD g (S ||| 2 ^ e) s t 0))] m1 h1 _
        refine rn_istore 100 [some (.ref 20), some (.int (nI s)), some (.int (nI t)), some (.int (nI Bd)), some (.int (nI (Bd - cS g S g.length))), some (.int (nI (xD g S s t 0))), some (.int (nI st)), some (.int (gb1 (gxS g s t Bd S (xD g S s t 0) e))), some (.int (gb2 (xD g S s t 0) (gxS g s t Bd S (xD g S s t 0) e))), some (.int (nI e)), some (.int (nI (xD g (S ||| 2 ^ e) s t 0)))] dX3_seek_98 rfl (Nat.le_of_ble_eq_true rfl) rfl ?_
        cases hbj : gxS g s t Bd S (xD g S s t 0) e with
        | none =>
          show rn_R _ mX3_seek _ 100 [some (.ref 20), some (.int (nI s)), some (.int (nI t)), some (.int (nI Bd)), some (.int (nI (Bd - cS g S g.length))), some (.int (nI (xD g S s t 0))), some (.int (nI st)), some (.int (-1)), some (.int (nI (xD g S s t 0))), some (.int (nI e)), some (.int (nI (xD g (S ||| 2 ^ e) s t 0)))] [] m1 h1 _
          by_cases q3 : xD g S s t 0 < xD g (S ||| 2 ^ e) s t 0
          · skip
            refine rn_iload 102 dX3_seek_100 rfl rfl ?_
            refine rn_iload 104 dX3_seek_102 rfl rfl ?_
            refine rn_icmp_gt 141 107 dX3_seek_104 (by decide) rfl (fun _ => ?_) (fun c104 => absurd (nI_lt q3 (by omega)) c104)
            refine rn_iload 143 dX3_seek_141 rfl rfl ?_
            refine rn_istore 145 [some (.ref 20), some (.int (nI s)), some (.int (nI t)), some (.int (nI Bd)), some (.int (nI (Bd - cS g S g.length))), some (.int (nI (xD g S s t 0))), some (.int (nI st)), some (.int (nI e)), some (.int (nI (xD g S s t 0))), some (.int (nI e)), some (.int (nI (xD g (S ||| 2 ^ e) s t 0)))] dX3_seek_143 rfl (Nat.le_of_ble_eq_true rfl) rfl ?_
            refine rn_iload 147 dX3_seek_145 rfl rfl ?_
            refine rn_istore 149 [some (.ref 20), some (.int (nI s)), some (.int (nI t)), some (.int (nI Bd)), some (.int (nI (Bd - cS g S g.length))), some (.int (nI (xD g S s t 0))), some (.int (nI st)), some (.int (nI e)), some (.int (nI (xD g (S ||| 2 ^ e) s t 0))), some (.int (nI e)), some (.int (nI (xD g (S ||| 2 ^ e) s t 0)))] dX3_seek_147 rfl (Nat.le_of_ble_eq_true rfl) rfl ?_
            refine rn_iinc (v := (nI (e + 1))) 152 [some (.ref 20), some (.int (nI s)), some (.int (nI t)), some (.int (nI Bd)), some (.int (nI (Bd - cS g S g.length))), some (.int (nI (xD g S s t 0))), some (.int (nI st)), some (.int (nI e)), some (.int (nI (xD g (S ||| 2 ^ e) s t 0))), some (.int (nI (e + 1))), some (.int (nI (xD g (S ||| 2 ^ e) s t 0)))] dX3_seek_149 rfl (nI_1 _) rfl rfl ?_
            refine rn_goto 41 dX3_seek_152 (by decide) ?_
            refine rn_drop 10 [some (.ref 20), some (.int (nI s)), some (.int (nI t)), some (.int (nI Bd)), some (.int (nI (Bd - cS g S g.length))), some (.int (nI (xD g S s t 0))), some (.int (nI st)), some (.int (nI e)), some (.int (nI (xD g (S ||| 2 ^ e) s t 0))), some (.int (nI (e + 1))), none] rfl ?_
            have em : gxS g s t Bd S (xD g S s t 0) (e + 1) = some (e, xD g (S ||| 2 ^ e) s t 0) := by rw [em0, hbj]; exact if_pos q3
            have z := ih (e + 1) m1 h1 (by omega) hg1 (by rw [f1 20 (by omega)]; exact hS2) (fun c hc => by rw [f1 c hc]; exact hfr c hc)
            rw [em] at z
            exact z
          · skip
            refine rn_iload 102 dX3_seek_100 rfl rfl ?_
            refine rn_iload 104 dX3_seek_102 rfl rfl ?_
            refine rn_icmp_gt 141 107 dX3_seek_104 (by decide) rfl (fun c104 => absurd c104 (nI_nlt (by omega) (by omega))) (fun _ => ?_)
            refine rn_iload 109 dX3_seek_107 rfl rfl ?_
            refine rn_iconst (v := (-1)) 110 dX3_seek_109 (by decide) rfl ?_
            refine rn_icmp_eq 149 113 dX3_seek_110 (by decide) rfl (fun _ => ?_) (fun c110 => absurd (rfl) c110)
            refine rn_iinc (v := (nI (e + 1))) 152 [some (.ref 20), some (.int (nI s)), some (.int (nI t)), some (.int (nI Bd)), some (.int (nI (Bd - cS g S g.length))), some (.int (nI (xD g S s t 0))), some (.int (nI st)), some (.int (-1)), some (.int (nI (xD g S s t 0))), some (.int (nI (e + 1))), some (.int (nI (xD g (S ||| 2 ^ e) s t 0)))] dX3_seek_149 rfl (nI_1 _) rfl rfl ?_
            refine rn_goto 41 dX3_seek_152 (by decide) ?_
            refine rn_drop 10 [some (.ref 20), some (.int (nI s)), some (.int (nI t)), some (.int (nI Bd)), some (.int (nI (Bd - cS g S g.length))), some (.int (nI (xD g S s t 0))), some (.int (nI st)), some (.int (-1)), some (.int (nI (xD g S s t 0))), some (.int (nI (e + 1))), none] rfl ?_
            have em : gxS g s t Bd S (xD g S s t 0) (e + 1) = none := by rw [em0, hbj]; exact if_neg q3
            have z := ih (e + 1) m1 h1 (by omega) hg1 (by rw [f1 20 (by omega)]; exact hS2) (fun c hc => by rw [f1 c hc]; exact hfr c hc)
            rw [em] at z
            exact z
        | some p =>
          obtain ⟨p1, p2⟩ := p
          obtain ⟨k1, k2, k3, k4, k5⟩ := gxS_ok hbj
          simp only at k1 k2 k3 k4 k5
          have bp := xD_le (S := S ||| 2 ^ p1) (s := s) (rep := 0) hg.2.1 ht
          have hok2 := e_at hg.2.1 (show p1 < g.length by omega)
          show rn_R _ mX3_seek _ 100 [some (.ref 20), some (.int (nI s)), some (.int (nI t)), some (.int (nI Bd)), some (.int (nI (Bd - cS g S g.length))), some (.int (nI (xD g S s t 0))), some (.int (nI st)), some (.int (nI p1)), some (.int (nI p2)), some (.int (nI e)), some (.int (nI (xD g (S ||| 2 ^ e) s t 0)))] [] m1 h1 _
          by_cases q3 : p2 < xD g (S ||| 2 ^ e) s t 0
          · skip
            refine rn_iload 102 dX3_seek_100 rfl rfl ?_
            refine rn_iload 104 dX3_seek_102 rfl rfl ?_
            refine rn_icmp_gt 141 107 dX3_seek_104 (by decide) rfl (fun _ => ?_) (fun c104 => absurd (nI_lt q3 (by omega)) c104)
            refine rn_iload 143 dX3_seek_141 rfl rfl ?_
            refine rn_istore 145 [some (.ref 20), some (.int (nI s)), some (.int (nI t)), some (.int (nI Bd)), some (.int (nI (Bd - cS g S g.length))), some (.int (nI (xD g S s t 0))), some (.int (nI st)), some (.int (nI e)), some (.int (nI p2)), some (.int (nI e)), some (.int (nI (xD g (S ||| 2 ^ e) s t 0)))] dX3_seek_143 rfl (Nat.le_of_ble_eq_true rfl) rfl ?_
            refine rn_iload 147 dX3_seek_145 rfl rfl ?_
            refine rn_istore 149 [some (.ref 20), some (.int (nI s)), some (.int (nI t)), some (.int (nI Bd)), some (.int (nI (Bd - cS g S g.length))), some (.int (nI (xD g S s t 0))), some (.int (nI st)), some (.int (nI e)), some (.int (nI (xD g (S ||| 2 ^ e) s t 0))), some (.int (nI e)), some (.int (nI (xD g (S ||| 2 ^ e) s t 0)))] dX3_seek_147 rfl (Nat.le_of_ble_eq_true rfl) rfl ?_
            refine rn_iinc (v := (nI (e + 1))) 152 [some (.ref 20), some (.int (nI s)), some (.int (nI t)), some (.int (nI Bd)), some (.int (nI (Bd - cS g S g.length))), some (.int (nI (xD g S s t 0))), some (.int (nI st)), some (.int (nI e)), some (.int (nI (xD g (S ||| 2 ^ e) s t 0))), some (.int (nI (e + 1))), some (.int (nI (xD g (S ||| 2 ^ e) s t 0)))] dX3_seek_149 rfl (nI_1 _) rfl rfl ?_
            refine rn_goto 41 dX3_seek_152 (by decide) ?_
            refine rn_drop 10 [some (.ref 20), some (.int (nI s)), some (.int (nI t)), some (.int (nI Bd)), some (.int (nI (Bd - cS g S g.length))), some (.int (nI (xD g S s t 0))), some (.int (nI st)), some (.int (nI e)), some (.int (nI (xD g (S ||| 2 ^ e) s t 0))), some (.int (nI (e + 1))), none] rfl ?_
            have em : gxS g s t Bd S (xD g S s t 0) (e + 1) = some (e, xD g (S ||| 2 ^ e) s t 0) := by rw [em0, hbj]; exact if_pos (Or.inl q3)
            have z := ih (e + 1) m1 h1 (by omega) hg1 (by rw [f1 20 (by omega)]; exact hS2) (fun c hc => by rw [f1 c hc]; exact hfr c hc)
            rw [em] at z
            exact z
          · skip
            by_cases q4 : xD g (S ||| 2 ^ e) s t 0 = p2
            · skip
              by_cases q5 : eC g e < eC g p1
              · skip
                refine rn_iload 102 dX3_seek_100 rfl rfl ?_
                refine rn_iload 104 dX3_seek_102 rfl rfl ?_
                refine rn_icmp_gt 141 107 dX3_seek_104 (by decide) rfl (fun c104 => absurd c104 (nI_nlt (by omega) (by omega))) (fun _ => ?_)
                refine rn_iload 109 dX3_seek_107 rfl rfl ?_
                refine rn_iconst (v := (-1)) 110 dX3_seek_109 (by decide) rfl ?_
                refine rn_icmp_eq 149 113 dX3_seek_110 (by decide) rfl (fun c110 => absurd c110 (nI_m1 (by omega))) (fun _ => ?_)
                refine rn_iload 115 dX3_seek_113 rfl rfl ?_
                refine rn_iload 117 dX3_seek_115 rfl rfl ?_
                refine rn_icmp_ne 149 120 dX3_seek_117 (by decide) rfl (fun c117 => absurd (congrArg nI q4) c117) (fun _ => ?_)
                refine rn_aload_n 121 dX3_seek_120 rfl rfl rfl ?_
                refine rn_get 124 (.ref 1) dX3_seek_121 fl_X3_15 rfl rfl rfl rfl ?_
                refine rn_iload 126 dX3_seek_124 rfl rfl ?_
                refine rn_cvp mX2_cost [.int (nI e)] [] 129 (.int (nI (eC g e))) dX3_seek_126 cv_X3_34 rfl rfl rfl (by simp [Value.category]) rfl (c_cost (d + 1) h1 hg1 hlt) ?_
                refine rn_aload_n 130 dX3_seek_129 rfl rfl rfl ?_
                refine rn_get 133 (.ref 1) dX3_seek_130 fl_X3_15 rfl rfl rfl rfl ?_
                refine rn_iload 135 dX3_seek_133 rfl rfl ?_
                refine rn_cvp mX2_cost [.int (nI p1)] [.int (nI (eC g e))] 138 (.int (nI (eC g p1))) dX3_seek_135 cv_X3_34 rfl rfl rfl (by simp [Value.category]) rfl (c_cost (d + 1) h1 hg1 (show p1 < g.length by omega)) ?_
                refine rn_icmp_ge 149 141 dX3_seek_138 (by decide) rfl (fun c138 => absurd c138 (nI_ge q5 (by omega))) (fun _ => ?_)
                refine rn_iload 143 dX3_seek_141 rfl rfl ?_
                refine rn_istore 145 [some (.ref 20), some (.int (nI s)), some (.int (nI t)), some (.int (nI Bd)), some (.int (nI (Bd - cS g S g.length))), some (.int (nI (xD g S s t 0))), some (.int (nI st)), some (.int (nI e)), some (.int (nI p2)), some (.int (nI e)), some (.int (nI (xD g (S ||| 2 ^ e) s t 0)))] dX3_seek_143 rfl (Nat.le_of_ble_eq_true rfl) rfl ?_
                refine rn_iload 147 dX3_seek_145 rfl rfl ?_
                refine rn_istore 149 [some (.ref 20), some (.int (nI s)), some (.int (nI t)), some (.int (nI Bd)), some (.int (nI (Bd - cS g S g.length))), some (.int (nI (xD g S s t 0))), some (.int (nI st)), some (.int (nI e)), some (.int (nI (xD g (S ||| 2 ^ e) s t 0))), some (.int (nI e)), some (.int (nI (xD g (S ||| 2 ^ e) s t 0)))] dX3_seek_147 rfl (Nat.le_of_ble_eq_true rfl) rfl ?_
                refine rn_iinc (v := (nI (e + 1))) 152 [some (.ref 20), some (.int (nI s)), some (.int (nI t)), some (.int (nI Bd)), some (.int (nI (Bd - cS g S g.length))), some (.int (nI (xD g S s t 0))), some (.int (nI st)), some (.int (nI e)), some (.int (nI (xD g (S ||| 2 ^ e) s t 0))), some (.int (nI (e + 1))), some (.int (nI (xD g (S ||| 2 ^ e) s t 0)))] dX3_seek_149 rfl (nI_1 _) rfl rfl ?_
                refine rn_goto 41 dX3_seek_152 (by decide) ?_
                refine rn_drop 10 [some (.ref 20), some (.int (nI s)), some (.int (nI t)), some (.int (nI Bd)), some (.int (nI (Bd - cS g S g.length))), some (.int (nI (xD g S s t 0))), some (.int (nI st)), some (.int (nI e)), some (.int (nI (xD g (S ||| 2 ^ e) s t 0))), some (.int (nI (e + 1))), none] rfl ?_
                have em : gxS g s t Bd S (xD g S s t 0) (e + 1) = some (e, xD g (S ||| 2 ^ e) s t 0) := by rw [em0, hbj]; exact if_pos (Or.inr ⟨q4, q5⟩)
                have z := ih (e + 1) m1 h1 (by omega) hg1 (by rw [f1 20 (by omega)]; exact hS2) (fun c hc => by rw [f1 c hc]; exact hfr c hc)
                rw [em] at z
                exact z
              · skip
                refine rn_iload 102 dX3_seek_100 rfl rfl ?_
                refine rn_iload 104 dX3_seek_102 rfl rfl ?_
                refine rn_icmp_gt 141 107 dX3_seek_104 (by decide) rfl (fun c104 => absurd c104 (nI_nlt (by omega) (by omega))) (fun _ => ?_)
                refine rn_iload 109 dX3_seek_107 rfl rfl ?_
                refine rn_iconst (v := (-1)) 110 dX3_seek_109 (by decide) rfl ?_
                refine rn_icmp_eq 149 113 dX3_seek_110 (by decide) rfl (fun c110 => absurd c110 (nI_m1 (by omega))) (fun _ => ?_)
                refine rn_iload 115 dX3_seek_113 rfl rfl ?_
                refine rn_iload 117 dX3_seek_115 rfl rfl ?_
                refine rn_icmp_ne 149 120 dX3_seek_117 (by decide) rfl (fun c117 => absurd (congrArg nI q4) c117) (fun _ => ?_)
                refine rn_aload_n 121 dX3_seek_120 rfl rfl rfl ?_
                refine rn_get 124 (.ref 1) dX3_seek_121 fl_X3_15 rfl rfl rfl rfl ?_
                refine rn_iload 126 dX3_seek_124 rfl rfl ?_
                refine rn_cvp mX2_cost [.int (nI e)] [] 129 (.int (nI (eC g e))) dX3_seek_126 cv_X3_34 rfl rfl rfl (by simp [Value.category]) rfl (c_cost (d + 1) h1 hg1 hlt) ?_
                refine rn_aload_n 130 dX3_seek_129 rfl rfl rfl ?_
                refine rn_get 133 (.ref 1) dX3_seek_130 fl_X3_15 rfl rfl rfl rfl ?_
                refine rn_iload 135 dX3_seek_133 rfl rfl ?_
                refine rn_cvp mX2_cost [.int (nI p1)] [.int (nI (eC g e))] 138 (.int (nI (eC g p1))) dX3_seek_135 cv_X3_34 rfl rfl rfl (by simp [Value.category]) rfl (c_cost (d + 1) h1 hg1 (show p1 < g.length by omega)) ?_
                refine rn_icmp_ge 149 141 dX3_seek_138 (by decide) rfl (fun _ => ?_) (fun c138 => absurd (nI_le (by omega) (by omega)) c138)
                refine rn_iinc (v := (nI (e + 1))) 152 [some (.ref 20), some (.int (nI s)), some (.int (nI t)), some (.int (nI Bd)), some (.int (nI (Bd - cS g S g.length))), some (.int (nI (xD g S s t 0))), some (.int (nI st)), some (.int (nI p1)), some (.int (nI p2)), some (.int (nI (e + 1))), some (.int (nI (xD g (S ||| 2 ^ e) s t 0)))] dX3_seek_149 rfl (nI_1 _) rfl rfl ?_
                refine rn_goto 41 dX3_seek_152 (by decide) ?_
                refine rn_drop 10 [some (.ref 20), some (.int (nI s)), some (.int (nI t)), some (.int (nI Bd)), some (.int (nI (Bd - cS g S g.length))), some (.int (nI (xD g S s t 0))), some (.int (nI st)), some (.int (nI p1)), some (.int (nI p2)), some (.int (nI (e + 1))), none] rfl ?_
                have em : gxS g s t Bd S (xD g S s t 0) (e + 1) = some (p1, p2) := by rw [em0, hbj]; exact if_neg (fun z => by rcases z with z | ⟨-, z⟩; exact q3 z; exact q5 z)
                have z := ih (e + 1) m1 h1 (by omega) hg1 (by rw [f1 20 (by omega)]; exact hS2) (fun c hc => by rw [f1 c hc]; exact hfr c hc)
                rw [em] at z
                exact z
            · skip
              refine rn_iload 102 dX3_seek_100 rfl rfl ?_
              refine rn_iload 104 dX3_seek_102 rfl rfl ?_
              refine rn_icmp_gt 141 107 dX3_seek_104 (by decide) rfl (fun c104 => absurd c104 (nI_nlt (by omega) (by omega))) (fun _ => ?_)
              refine rn_iload 109 dX3_seek_107 rfl rfl ?_
              refine rn_iconst (v := (-1)) 110 dX3_seek_109 (by decide) rfl ?_
              refine rn_icmp_eq 149 113 dX3_seek_110 (by decide) rfl (fun c110 => absurd c110 (nI_m1 (by omega))) (fun _ => ?_)
              refine rn_iload 115 dX3_seek_113 rfl rfl ?_
              refine rn_iload 117 dX3_seek_115 rfl rfl ?_
              refine rn_icmp_ne 149 120 dX3_seek_117 (by decide) rfl (fun _ => ?_) (fun c117 => absurd c117 (fun z => q4 ((nI_eq (by omega) (by omega)).mp z)))
              refine rn_iinc (v := (nI (e + 1))) 152 [some (.ref 20), some (.int (nI s)), some (.int (nI t)), some (.int (nI Bd)), some (.int (nI (Bd - cS g S g.length))), some (.int (nI (xD g S s t 0))), some (.int (nI st)), some (.int (nI p1)), some (.int (nI p2)), some (.int (nI (e + 1))), some (.int (nI (xD g (S ||| 2 ^ e) s t 0)))] dX3_seek_149 rfl (nI_1 _) rfl rfl ?_
              refine rn_goto 41 dX3_seek_152 (by decide) ?_
              refine rn_drop 10 [some (.ref 20), some (.int (nI s)), some (.int (nI t)), some (.int (nI Bd)), some (.int (nI (Bd - cS g S g.length))), some (.int (nI (xD g S s t 0))), some (.int (nI st)), some (.int (nI p1)), some (.int (nI p2)), some (.int (nI (e + 1))), none] rfl ?_
              have em : gxS g s t Bd S (xD g S s t 0) (e + 1) = some (p1, p2) := by rw [em0, hbj]; exact if_neg (fun z => by rcases z with z | ⟨z, -⟩; exact q3 z; exact q4 z)
              have z := ih (e + 1) m1 h1 (by omega) hg1 (by rw [f1 20 (by omega)]; exact hS2) (fun c hc => by rw [f1 c hc]; exact hfr c hc)
              rw [em] at z
              exact z
      · skip
        refine rn_iload 43 dX3_seek_41 rfl rfl ?_
        refine rn_aload_n 44 dX3_seek_43 rfl rfl rfl ?_
        refine rn_get 47 (.ref 1) dX3_seek_44 fl_X3_15 rfl rfl rfl rfl ?_
        refine rn_get 50 (.int (mu 1 1)) dX3_seek_47 fl_X3_29 rfl rfl rfl rfl ?_
        refine rn_icmp_ge 155 53 dX3_seek_50 (by decide) rfl (fun c50 => absurd c50 (by rw [hg.2.2.1]; exact nI_ge hlt (by omega))) (fun _ => ?_)
        refine rn_aload_n 54 dX3_seek_53 rfl rfl rfl ?_
        refine rn_get 57 (.int (mu 20 2)) dX3_seek_54 fl_X3_9 rfl rfl rfl rfl ?_
        refine rn_iload 59 dX3_seek_57 rfl rfl ?_
        refine rn_ishr 60 dX3_seek_59 rfl ?_
        refine rn_iconst (v := 1) 61 dX3_seek_60 (by decide) rfl ?_
        refine rn_iand 62 dX3_seek_61 rfl ?_
        rw [hS2, bb]
        refine rn_if_ne 149 65 dX3_seek_62 (by decide) rfl (fun c62 => absurd (rfl) c62) (fun _ => ?_)
        refine rn_aload_n 66 dX3_seek_65 rfl rfl rfl ?_
        refine rn_get 69 (.ref 1) dX3_seek_66 fl_X3_15 rfl rfl rfl rfl ?_
        refine rn_iload 71 dX3_seek_69 rfl rfl ?_
        refine rn_cvp mX2_cost [.int (nI e)] [] 74 (.int (nI (eC g e))) dX3_seek_71 cv_X3_34 rfl rfl rfl (by simp [Value.category]) rfl (c_cost (d + 1) h hg hlt) ?_
        refine rn_iload 76 dX3_seek_74 rfl rfl ?_
        refine rn_icmp_gt 149 79 dX3_seek_76 (by decide) rfl (fun _ => ?_) (fun c76 => absurd (nI_lt (by omega) (by omega)) c76)
        refine rn_iinc (v := (nI (e + 1))) 152 [some (.ref 20), some (.int (nI s)), some (.int (nI t)), some (.int (nI Bd)), some (.int (nI (Bd - cS g S g.length))), some (.int (nI (xD g S s t 0))), some (.int (nI st)), some (.int (gb1 (gxS g s t Bd S (xD g S s t 0) e))), some (.int (gb2 (xD g S s t 0) (gxS g s t Bd S (xD g S s t 0) e))), some (.int (nI (e + 1))), none] dX3_seek_149 rfl (nI_1 _) rfl rfl ?_
        refine rn_goto 41 dX3_seek_152 (by decide) ?_
        have em : gxS g s t Bd S (xD g S s t 0) (e + 1) = gxS g s t Bd S (xD g S s t 0) e := if_neg (fun z => q2 z.2)
        have z := ih (e + 1) mu h (by omega) hg hS2 hfr
        rw [em] at z
        exact z

set_option maxRecDepth 100000 in
set_option maxHeartbeats 2000000 in
theorem lp_go (d : Nat) {g : List Ed} {s t Bd : Nat} (hs : s < 8) (ht : t < 8) (hBd : Bd ≤ 20) {mu0 : Nat → Nat → Int32} : ∀ (k st : Nat) (S : Nat) (mu : Nat → Nat → Int32) (h : Int64), st + k = 16 → (S < 2 ^ g.length) → (cS g S g.length ≤ Bd) → (xg g mu) → (mu 20 2 = nI S) → (∀ c, (c < 9 ∨ 13 < c) → c ≠ 20 → mu c = mu0 c) → rn_R none mX3_seek (d + 3) 24 [some (.ref 20), some (.int (nI s)), some (.int (nI t)), some (.int (nI Bd)), some (.int (nI (Bd - cS g S g.length))), some (.int (nI (xD g S s t 0))), some (.int (nI st)), none, none, none, none] [] mu h (fun r mu' _ => r = some (.int (nI (grd g s t Bd k S).2)) ∧ mu' 20 2 = nI (grd g s t Bd k S).1 ∧ ∀ c, (c < 9 ∨ 13 < c) → c ≠ 20 → mu' c = mu0 c) := by
  intro k
  induction k with
  | zero =>
    intro st S mu h hek hS hcS hg hS2 hfr
    refine rn_iload 26 dX3_seek_24 rfl rfl ?_
    refine rn_bipush (v := 16) 28 dX3_seek_26 (by decide) rfl ?_
    refine rn_icmp_ge 201 31 dX3_seek_28 (by decide) rfl (fun _ => ?_) (fun c28 => absurd (by rw [show st = 16 by omega]; decide) c28)
    refine rn_iload 203 dX3_seek_201 rfl rfl ?_
    exact rn_iret rfl dX3_seek_203 (⟨rfl, hS2, hfr⟩)
  | succ k ih =>
    intro st S mu h hek hS hcS hg hS2 hfr
    have h16 := hg.1
    have hp := pw_le hg.1
    have bn := xD_le (S := S) (s := s) (rep := 0) hg.2.1 ht
    refine rn_iload 26 dX3_seek_24 rfl rfl ?_
    refine rn_bipush (v := 16) 28 dX3_seek_26 (by decide) rfl ?_
    refine rn_icmp_ge 201 31 dX3_seek_28 (by decide) rfl (fun c28 => absurd c28 (nI_ge (b := 16) (by omega) (by omega))) (fun _ => ?_)
    refine rn_iconst (v := (-1)) 32 dX3_seek_31 (by decide) rfl ?_
    refine rn_istore 34 [some (.ref 20), some (.int (nI s)), some (.int (nI t)), some (.int (nI Bd)), some (.int (nI (Bd - cS g S g.length))), some (.int (nI (xD g S s t 0))), some (.int (nI st)), some (.int (-1)), none, none, none] dX3_seek_32 rfl (Nat.le_of_ble_eq_true rfl) rfl ?_
    refine rn_iload 36 dX3_seek_34 rfl rfl ?_
    refine rn_istore 38 [some (.ref 20), some (.int (nI s)), some (.int (nI t)), some (.int (nI Bd)), some (.int (nI (Bd - cS g S g.length))), some (.int (nI (xD g S s t 0))), some (.int (nI st)), some (.int (-1)), some (.int (nI (xD g S s t 0))), none, none] dX3_seek_36 rfl (Nat.le_of_ble_eq_true rfl) rfl ?_
    refine rn_iconst (v := 0) 39 dX3_seek_38 (by decide) rfl ?_
    refine rn_istore 41 [some (.ref 20), some (.int (nI s)), some (.int (nI t)), some (.int (nI Bd)), some (.int (nI (Bd - cS g S g.length))), some (.int (nI (xD g S s t 0))), some (.int (nI st)), some (.int (-1)), some (.int (nI (xD g S s t 0))), some (.int 0), none] dX3_seek_39 rfl (Nat.le_of_ble_eq_true rfl) rfl ?_
    refine lp_gi d hs ht hBd (S := S) (st := st) hS hcS (mu0 := mu) (fun m1 h1 hg1 hS1 f1 => ?_) g.length 0 mu h (by omega) hg hS2 (fun _ _ => rfl)
    cases hq : gxS g s t Bd S (xD g S s t 0) g.length with
    | none =>
      rw [grd_n hq]
      show rn_R _ mX3_seek _ 155 [some (.ref 20), some (.int (nI s)), some (.int (nI t)), some (.int (nI Bd)), some (.int (nI (Bd - cS g S g.length))), some (.int (nI (xD g S s t 0))), some (.int (nI st)), some (.int (-1)), some (.int (nI (xD g S s t 0))), none, none] [] m1 h1 _
      refine rn_iload 157 dX3_seek_155 rfl rfl ?_
      refine rn_iconst (v := (-1)) 158 dX3_seek_157 (by decide) rfl ?_
      refine rn_icmp_ne 164 161 dX3_seek_158 (by decide) rfl (fun c158 => absurd (rfl) c158) (fun _ => ?_)
      refine rn_goto 201 dX3_seek_161 (by decide) ?_
      refine rn_iload 203 dX3_seek_201 rfl rfl ?_
      exact rn_iret rfl dX3_seek_203 (⟨rfl, hS1, fun c h3 h4 => by rw [f1 c h3]; exact hfr c h3 h4⟩)
    | some p =>
      obtain ⟨p1, p2⟩ := p
      obtain ⟨k1, k2, k3, k4, k5⟩ := gxS_ok hq
      simp only at k1 k2 k3 k4 k5
      rw [grd_s hq]
      have hco := cS_or (g := g) k2 g.length
      rw [if_pos k1] at hco
      have hok2 := e_at hg.2.1 k1
      subst k4
      show rn_R _ mX3_seek _ 155 [some (.ref 20), some (.int (nI s)), some (.int (nI t)), some (.int (nI Bd)), some (.int (nI (Bd - cS g S g.length))), some (.int (nI (xD g S s t 0))), some (.int (nI st)), some (.int (nI p1)), some (.int (nI (xD g (S ||| 2 ^ p1) s t 0))), none, none] [] m1 h1 _
      refine rn_iload 157 dX3_seek_155 rfl rfl ?_
      refine rn_iconst (v := (-1)) 158 dX3_seek_157 (by decide) rfl ?_
      refine rn_icmp_ne 164 161 dX3_seek_158 (by decide) rfl (fun _ => ?_) (fun c158 => absurd c158 (nI_m1 (by omega)))
      refine rn_aload_n 165 dX3_seek_164 rfl rfl rfl ?_
      refine rn_dup 166 dX3_seek_165 rfl rfl ?_
      refine rn_get 169 (.int (m1 20 2)) dX3_seek_166 fl_X3_9 rfl rfl rfl rfl ?_
      refine rn_iconst (v := 1) 170 dX3_seek_169 (by decide) rfl ?_
      refine rn_iload 172 dX3_seek_170 rfl rfl ?_
      refine rn_ishl 173 dX3_seek_172 rfl ?_
      refine rn_ior 174 dX3_seek_173 rfl ?_
      rw [hS1, nb_1 (by omega), nb_or]
      refine rn_put 177 dX3_seek_174 fp_X3_9 rfl rfl rfl rfl rfl ?_
      refine rn_iload 179 dX3_seek_177 rfl rfl ?_
      refine rn_aload_n 180 dX3_seek_179 rfl rfl rfl ?_
      refine rn_get 183 (.ref 1) dX3_seek_180 fl_X3_15 rfl rfl rfl rfl ?_
      refine rn_iload 185 dX3_seek_183 rfl rfl ?_
      have hg2 : xg g (mu_s m1 20 2 (nI (S ||| 2 ^ p1))) := xg_of hg1 (by simp [mu_s]) (by simp [mu_s])
      refine rn_cvp mX2_cost [.int (nI p1)] [.int (nI (Bd - cS g S g.length))] 188 (.int (nI (eC g p1))) dX3_seek_185 cv_X3_34 rfl rfl rfl (by simp [Value.category]) rfl (c_cost (d + 1) h1 hg2 k1) ?_
      refine rn_isub 189 dX3_seek_188 rfl ?_
      rw [pk_sub (by omega), show Bd - cS g S g.length - eC g p1 = Bd - cS g (S ||| 2 ^ p1) g.length by omega]
      refine rn_istore 191 [some (.ref 20), some (.int (nI s)), some (.int (nI t)), some (.int (nI Bd)), some (.int (nI (Bd - cS g (S ||| 2 ^ p1) g.length))), some (.int (nI (xD g S s t 0))), some (.int (nI st)), some (.int (nI p1)), some (.int (nI (xD g (S ||| 2 ^ p1) s t 0))), none, none] dX3_seek_189 rfl (Nat.le_of_ble_eq_true rfl) rfl ?_
      refine rn_iload 193 dX3_seek_191 rfl rfl ?_
      refine rn_istore 195 [some (.ref 20), some (.int (nI s)), some (.int (nI t)), some (.int (nI Bd)), some (.int (nI (Bd - cS g (S ||| 2 ^ p1) g.length))), some (.int (nI (xD g (S ||| 2 ^ p1) s t 0))), some (.int (nI st)), some (.int (nI p1)), some (.int (nI (xD g (S ||| 2 ^ p1) s t 0))), none, none] dX3_seek_193 rfl (Nat.le_of_ble_eq_true rfl) rfl ?_
      refine rn_iinc (v := (nI (st + 1))) 198 [some (.ref 20), some (.int (nI s)), some (.int (nI t)), some (.int (nI Bd)), some (.int (nI (Bd - cS g (S ||| 2 ^ p1) g.length))), some (.int (nI (xD g (S ||| 2 ^ p1) s t 0))), some (.int (nI (st + 1))), some (.int (nI p1)), some (.int (nI (xD g (S ||| 2 ^ p1) s t 0))), none, none] dX3_seek_195 rfl (nI_1 _) rfl rfl ?_
      refine rn_goto 24 dX3_seek_198 (by decide) ?_
      refine rn_drop 7 [some (.ref 20), some (.int (nI s)), some (.int (nI t)), some (.int (nI Bd)), some (.int (nI (Bd - cS g (S ||| 2 ^ p1) g.length))), some (.int (nI (xD g (S ||| 2 ^ p1) s t 0))), some (.int (nI (st + 1))), none, some (.int (nI (xD g (S ||| 2 ^ p1) s t 0))), none, none] rfl ?_
      refine rn_drop 8 [some (.ref 20), some (.int (nI s)), some (.int (nI t)), some (.int (nI Bd)), some (.int (nI (Bd - cS g (S ||| 2 ^ p1) g.length))), some (.int (nI (xD g (S ||| 2 ^ p1) s t 0))), some (.int (nI (st + 1))), none, none, none, none] rfl ?_
      exact ih (st + 1) (S ||| 2 ^ p1) (mu_s m1 20 2 (nI (S ||| 2 ^ p1))) h1 (by omega) (tb_add_lt hS k1) k3 hg2 (by simp [mu_s, upd]) (fun c h3 h4 => by simp [mu_s, h4]; rw [f1 c h3]; exact hfr c h3 h4)

set_option maxRecDepth 100000 in
set_option maxHeartbeats 2000000 in
theorem c_gseek (d : Nat) {g : List Ed} {s t Bd : Nat} (hs : s < 8) (ht : t < 8) (hBd : Bd ≤ 20) {mu : Nat → Nat → Int32} (h : Int64) (hg : xg g mu) : gd_G mX3_seek (d + 3) [.ref 20, .int (nI s), .int (nI t), .int (nI Bd)] mu h (fun r mu' _ => r = some (.int (nI (grd g s t Bd 16 0).2)) ∧ mu' 20 2 = nI (grd g s t Bd 16 0).1 ∧ ∀ c, (c < 9 ∨ 13 < c) → c ≠ 20 → mu' c = mu c) := by
  refine gd_of rfl (Nat.le_of_ble_eq_true rfl) ?_
  show rn_R none mX3_seek (d + 3) 0 [some (.ref 20), some (.int (nI s)), some (.int (nI t)), some (.int (nI Bd)), none, none, none, none, none, none, none] [] mu h (fun r mu' _ => r = some (.int (nI (grd g s t Bd 16 0).2)) ∧ mu' 20 2 = nI (grd g s t Bd 16 0).1 ∧ ∀ c, (c < 9 ∨ 13 < c) → c ≠ 20 → mu' c = mu c)
  refine rn_aload_n 1 dX3_seek_0 rfl rfl rfl ?_
  refine rn_iconst (v := 0) 2 dX3_seek_1 (by decide) rfl ?_
  refine rn_put 5 dX3_seek_2 fp_X3_9 rfl rfl rfl rfl rfl ?_
  refine rn_iload_n 6 dX3_seek_5 rfl rfl rfl ?_
  refine rn_istore 8 [some (.ref 20), some (.int (nI s)), some (.int (nI t)), some (.int (nI Bd)), some (.int (nI Bd)), none, none, none, none, none, none] dX3_seek_6 rfl (Nat.le_of_ble_eq_true rfl) rfl ?_
  refine rn_aload_n 9 dX3_seek_8 rfl rfl rfl ?_
  refine rn_get 12 (.ref 8) dX3_seek_9 fl_X3_19 rfl rfl rfl rfl ?_
  refine rn_iload_n 13 dX3_seek_12 rfl rfl rfl ?_
  refine rn_iload_n 14 dX3_seek_13 rfl rfl rfl ?_
  refine rn_iconst (v := 0) 15 dX3_seek_14 (by decide) rfl ?_
  refine rn_iconst (v := 0) 16 dX3_seek_15 (by decide) rfl ?_
  have hg0 : xg g (mu_s mu 20 2 0) := xg_of hg (by simp [mu_s]) (by simp [mu_s])
  refine rn_callV mX5_measure [.int (nI s), .int (nI t), .int 0, .int 0] [] dX3_seek_16 cv_X3_23 rfl rfl rfl (by simp [Value.category]) (c_measure (d) (S := 0) (s := s) (t := t) (rep := 0) (by omega) hs ht (by omega) h hg0) (fun r1 m1 h1 q1 _ => ?_)
  obtain ⟨e1, R1, W1, f1⟩ := q1
  subst e1
  have hg1 : xg g m1 := xg_fr hg0 f1
  show rn_R _ mX3_seek _ 19 [some (.ref 20), some (.int (nI s)), some (.int (nI t)), some (.int (nI Bd)), some (.int (nI Bd)), none, none, none, none, none, none] [.int (nI (xD g 0 s t 0))] m1 h1 _
  refine rn_istore 21 [some (.ref 20), some (.int (nI s)), some (.int (nI t)), some (.int (nI Bd)), some (.int (nI Bd)), some (.int (nI (xD g 0 s t 0))), none, none, none, none, none] dX3_seek_19 rfl (Nat.le_of_ble_eq_true rfl) rfl ?_
  refine rn_iconst (v := 0) 22 dX3_seek_21 (by decide) rfl ?_
  refine rn_istore 24 [some (.ref 20), some (.int (nI s)), some (.int (nI t)), some (.int (nI Bd)), some (.int (nI Bd)), some (.int (nI (xD g 0 s t 0))), some (.int 0), none, none, none, none] dX3_seek_22 rfl (Nat.le_of_ble_eq_true rfl) rfl ?_
  have z := lp_go d hs ht hBd (mu0 := mu) 16 0 0 m1 h1 (by omega) (pw_pos _) (by rw [cS_0]; omega) hg1 (by rw [f1 20 (by omega)]; simp [mu_s, upd]; rfl) (fun c h3 h4 => by rw [f1 c h3]; simp [mu_s, h4])
  rw [cS_0, Nat.sub_zero] at z
  exact z

set_option maxRecDepth 100000 in
set_option maxHeartbeats 2000000 in
theorem x_gre_b (d : Nat) {g : List Ed} {a : Nat} {hs : List Sg} {tx : List Nat} {f : Int32} {v1 v2 v3 : Int32} (hv : ¬ ((isin v1 8 ∧ isin v2 8) ∧ isin v3 (20 + 1))) : XC mX8_greedy (d + 2) [.int v1, .int v2, .int v3] (g, a, hs, tx, f) (g, a, hs, tx, f) (.int (-2)) := by
  intro mu h hs0
  obtain ⟨hg, ha, hh, ht, hf⟩ := id hs0
  simp only at hg ha hh ht hf
  refine gd_of rfl (Nat.le_of_ble_eq_true rfl) ?_
  show rn_R none mX8_greedy (d + 2) 0 [some (.ref 0), some (.int v1), some (.int v2), some (.int v3), none] [] mu h (fun r mu' _ => r = some (.int (-2)) ∧ xS (g, a, hs, tx, f) mu' ∧ ∀ c, 22 ≤ c → mu' c = mu c)
  by_cases qq0 : isin v1 8 ∧ isin v2 8
  · skip
    have qq1 : ¬ (isin v3 (20 + 1)) := fun z => hv ⟨qq0, z⟩
    refine rn_iload_n 1 dX8_greedy_0 rfl rfl rfl ?_
    refine rn_iload_n 2 dX8_greedy_1 rfl rfl rfl ?_
    refine rn_csp mX8_areNodes [.int v1, .int v2] [] 5 (.int 1) dX8_greedy_2 cs_X8_75 rfl rfl (by simp [Value.category]) rfl (c_areNodes_t (d) mu h qq0.1 qq0.2) ?_
    refine rn_if_eq 17 8 dX8_greedy_5 (by decide) rfl (fun c5 => absurd c5 (by decide)) (fun _ => ?_)
    refine rn_iload_n 9 dX8_greedy_8 rfl rfl rfl ?_
    refine rn_bipush (v := 20) 11 dX8_greedy_9 (by decide) rfl ?_
    refine rn_csp mX8_isWithin [.int v3, .int 20] [] 14 (.int 0) dX8_greedy_11 cs_X8_164 rfl rfl (by simp [Value.category]) rfl (c_isWithin_f (d + 1) mu h v3 20 qq1 (by omega)) ?_
    refine rn_if_ne 20 17 dX8_greedy_14 (by decide) rfl (fun c14 => absurd (rfl) c14) (fun _ => ?_)
    refine rn_bipush (v := (-2)) 19 dX8_greedy_17 (by decide) rfl ?_
    exact rn_iret rfl dX8_greedy_19 (⟨rfl, hs0, fun _ _ => rfl⟩)
  · skip
    refine rn_iload_n 1 dX8_greedy_0 rfl rfl rfl ?_
    refine rn_iload_n 2 dX8_greedy_1 rfl rfl rfl ?_
    refine rn_csp mX8_areNodes [.int v1, .int v2] [] 5 (.int 0) dX8_greedy_2 cs_X8_75 rfl rfl (by simp [Value.category]) rfl (c_areNodes_f (d) mu h qq0) ?_
    refine rn_if_eq 17 8 dX8_greedy_5 (by decide) rfl (fun _ => ?_) (fun c5 => absurd (by decide) c5)
    refine rn_bipush (v := (-2)) 19 dX8_greedy_17 (by decide) rfl ?_
    exact rn_iret rfl dX8_greedy_19 (⟨rfl, hs0, fun _ _ => rfl⟩)

set_option maxRecDepth 100000 in
set_option maxHeartbeats 2000000 in
theorem x_gre_t (d : Nat) {g : List Ed} {a : Nat} {hs : List Sg} {tx : List Nat} {f : Int32} {u v : Nat} (hu : u < 8) (hv : v < 8) {B : Nat} (hB : B < 21) : XC mX8_greedy (d + 4) [.int (nI u), .int (nI v), .int (nI B)] (g, a, hs, tx, f) (g, a, hs, tx, nI (grd g u v B 16 0).1) (.int (nI (grd g u v B 16 0).2)) := by
  intro mu h hs0
  obtain ⟨hg, ha, hh, ht, hf⟩ := id hs0
  simp only at hg ha hh ht hf
  refine gd_of rfl (Nat.le_of_ble_eq_true rfl) ?_
  show rn_R none mX8_greedy (d + 4) 0 [some (.ref 0), some (.int (nI u)), some (.int (nI v)), some (.int (nI B)), none] [] mu h (fun r mu' _ => r = some (.int (nI (grd g u v B 16 0).2)) ∧ xS (g, a, hs, tx, nI (grd g u v B 16 0).1) mu' ∧ ∀ c, 22 ≤ c → mu' c = mu c)
  refine rn_iload_n 1 dX8_greedy_0 rfl rfl rfl ?_
  refine rn_iload_n 2 dX8_greedy_1 rfl rfl rfl ?_
  refine rn_csp mX8_areNodes [.int (nI u), .int (nI v)] [] 5 (.int 1) dX8_greedy_2 cs_X8_75 rfl rfl (by simp [Value.category]) rfl (c_areNodes_t (d + 2) mu h ⟨u, hu, rfl⟩ ⟨v, hv, rfl⟩) ?_
  refine rn_if_eq 17 8 dX8_greedy_5 (by decide) rfl (fun c5 => absurd c5 (by decide)) (fun _ => ?_)
  refine rn_iload_n 9 dX8_greedy_8 rfl rfl rfl ?_
  refine rn_bipush (v := 20) 11 dX8_greedy_9 (by decide) rfl ?_
  refine rn_csp mX8_isWithin [.int (nI B), .int 20] [] 14 (.int 1) dX8_greedy_11 cs_X8_164 rfl rfl (by simp [Value.category]) rfl (c_isWithin_i (d + 3) mu h (M := 20) (⟨B, hB, rfl⟩) (by omega)) ?_
  refine rn_if_ne 20 17 dX8_greedy_14 (by decide) rfl (fun _ => ?_) (fun c14 => absurd c14 (by decide))
  refine rn_aload_n 21 dX8_greedy_20 rfl rfl rfl ?_
  refine rn_get 24 (.ref 20) dX8_greedy_21 fl_X8_58 rfl rfl rfl rfl ?_
  refine rn_iload_n 25 dX8_greedy_24 rfl rfl rfl ?_
  refine rn_iload_n 26 dX8_greedy_25 rfl rfl rfl ?_
  refine rn_iload_n 27 dX8_greedy_26 rfl rfl rfl ?_
  refine rn_callV mX3_seek [.int (nI u), .int (nI v), .int (nI B)] [] dX8_greedy_27 cv_X8_167 rfl rfl rfl (by simp [Value.category]) (c_gseek d hu hv (Bd := B) (by omega) h hg) (fun r1 m1 h1 qq _ => ?_)
  obtain ⟨e1, s3, f1⟩ := qq
  subst e1
  show rn_R _ mX8_greedy _ 30 [some (.ref 0), some (.int (nI u)), some (.int (nI v)), some (.int (nI B)), none] [.int (nI (grd g u v B 16 0).2)] m1 h1 _
  refine rn_istore 32 [some (.ref 0), some (.int (nI u)), some (.int (nI v)), some (.int (nI B)), some (.int (nI (grd g u v B 16 0).2))] dX8_greedy_30 rfl (Nat.le_of_ble_eq_true rfl) rfl ?_
  refine rn_aload_n 33 dX8_greedy_32 rfl rfl rfl ?_
  refine rn_aload_n 34 dX8_greedy_33 rfl rfl rfl ?_
  refine rn_get 37 (.ref 20) dX8_greedy_34 fl_X8_58 rfl rfl rfl rfl ?_
  refine rn_get 40 (.int (m1 20 2)) dX8_greedy_37 fl_X8_170 rfl rfl rfl rfl ?_
  refine rn_put 43 dX8_greedy_40 fp_X8_71 rfl rfl rfl rfl rfl ?_
  refine rn_iload 45 dX8_greedy_43 rfl rfl ?_
  exact rn_iret rfl dX8_greedy_45 (⟨rfl, xS_fd hs0 (fun c h1 h2 => by simp [mu_s, show c ≠ 0 by omega]; exact f1 c (by omega) (by omega)) (by simp [mu_s, upd, s3]), fun c hc => by simp [mu_s, show c ≠ 0 by omega]; exact f1 c (by omega) (by omega)⟩)
