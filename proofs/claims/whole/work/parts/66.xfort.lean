/-! FORTIFY: what must be seen; the class -/
def bqF (g : List Ed) (s t B F : Nat) : Kx := ((gwL g s t 0 B 9999 16 0 0 F).foldl (fun o p => wgh o (vA g s t 0 9999 p.1, p.2, p.1)) none).getD (0, 0, 0)
theorem bqF_ok {g : List Ed} {s t B : Nat} (ho : ∀ x ∈ g, e_ok x) (ht : t < 8) (hB : B ≤ 16) (F : Nat) : bst g B F (vA g s t 0 9999) (bqF g s t B F) := by
  obtain ⟨q, q1, q2⟩ := grow_best (s := s) (rep := 0) (aim := 9999) (F := F) ho ht hB
  unfold bqF
  rw [q1]
  exact q2
def fvl (g : List Ed) (s t B F : Nat) : Nat := 9999 - (bqF g s t B F).1
theorem bq_djs {g : List Ed} {s t B : Nat} (ho : ∀ x ∈ g, e_ok x) (ht : t < 8) (hB : B ≤ 16) (F : Nat) : djs (bqF g s t B F).2.2 F ∧ (bqF g s t B F).2.2 < 2 ^ g.length ∧ (bqF g s t B F).1 ≤ 9999 := by
  obtain ⟨⟨T, t1, t2⟩, -⟩ := bqF_ok (s := s) ho ht hB F
  rw [t2]
  have := xD_le (S := T) (s := s) (rep := 0) ho ht
  exact ⟨t1.2.2, t1.1, by show min _ _ ≤ 9999; omega⟩
/-- what keeps the attack weaker takes one of its edges -/
theorem bq_meet {g : List Ed} {s t B : Nat} (ho : ∀ x ∈ g, e_ok x) (ht : t < 8) (hB : B ≤ 16) {F R : Nat} (h : (bqF g s t B F).1 < (bqF g s t B R).1) : ∃ e, (bqF g s t B R).2.2.testBit e = true ∧ F.testBit e = true := by
  apply Classical.byContradiction
  intro q
  obtain ⟨⟨T, t1, t2⟩, -⟩ := bqF_ok (s := s) ho ht hB R
  have a : djs T F := fun i h1 h2 => q ⟨i, by rw [t2]; exact h1, h2⟩
  have b := (bqF_ok (s := s) ho ht hB F).2 T ⟨t1.1, t1.2.1, a⟩
  have c : (bqF g s t B R).1 = vA g s t 0 9999 T := congrArg Prod.fst t2
  simp only [KG] at b
  omega
theorem sbs_and {S T : Nat} (h : sbs S T) : S &&& T = S := tb_ext (fun i => by
  rw [Nat.testBit_and]
  cases a : S.testBit i
  · rfl
  · rw [h i a]; rfl)
theorem mny_sbs {R F : Nat} (h : sbs R F) (hn : R ≠ F) (hF : F < 2 ^ 16) : mny R 16 < mny F 16 := by
  obtain ⟨e, e1, e2⟩ := sbs_ne h hn
  have he := tb_lt hF e1
  have a := mny_or e2 16
  rw [if_pos he] at a
  have b := mny_sb (sbs_and (sbs_or h e1)) 16
  omega
/-- the fortified sets that hold sees, with their sizes -/
def hdE (X : Nat) (rc : Nat → List (Nat × Nat)) : Nat → Nat → List (Nat × Nat)
  | 0, _ => []
  | k + 1, e => if X.testBit e = true then rc e ++ hdE X rc k (e + 1) else hdE X rc k (e + 1)
def hdL (g : List Ed) (s t B most : Nat) : Nat → Nat → Nat → List (Nat × Nat)
  | 0, F, z => [(F, z)]
  | f + 1, F, z => (F, z) :: (if most ≤ z then [] else hdE (bqF g s t B F).2.2 (fun e => hdL g s t B most f (F ||| 2 ^ e) (z + 1)) g.length 0)
theorem hdE_mem {X : Nat} {rc : Nat → List (Nat × Nat)} {q : Nat × Nat} : ∀ k e, q ∈ hdE X rc k e ↔ ∃ i, e ≤ i ∧ i < e + k ∧ X.testBit i = true ∧ q ∈ rc i := by
  intro k
  induction k with
  | zero => intro e; constructor; (intro h; cases h); (rintro ⟨i, h1, h2, -⟩; omega)
  | succ k ih =>
    intro e
    show q ∈ (if X.testBit e = true then rc e ++ hdE X rc k (e + 1) else hdE X rc k (e + 1)) ↔ _
    by_cases c : X.testBit e = true
    · rw [if_pos c, List.mem_append, ih]
      constructor
      · rintro (h | ⟨i, h1, h2, h3⟩)
        · exact ⟨e, Nat.le_refl _, by omega, c, h⟩
        · exact ⟨i, by omega, by omega, h3⟩
      · rintro ⟨i, h1, h2, h3, h4⟩
        by_cases z : i = e
        · subst z; exact Or.inl h4
        · exact Or.inr ⟨i, by omega, by omega, h3, h4⟩
    · rw [if_neg c, ih]
      constructor
      · rintro ⟨i, h1, h2, h3⟩
        exact ⟨i, by omega, by omega, h3⟩
      · rintro ⟨i, h1, h2, h3, h4⟩
        by_cases z : i = e
        · subst z; exact absurd h3 c
        · exact ⟨i, by omega, by omega, h3, h4⟩
theorem hdL_ok {g : List Ed} {s t B most : Nat} (ho : ∀ x ∈ g, e_ok x) (h16 : g.length ≤ 16) (ht : t < 8) (hB : B ≤ 16) : ∀ f F z, F < 2 ^ g.length → mny F 16 = z → z ≤ most → ∀ q ∈ hdL g s t B most f F z, q.1 < 2 ^ g.length ∧ q.2 = mny q.1 16 ∧ q.2 ≤ most := by
  intro f
  induction f with
  | zero =>
    intro F z h1 h2 h3 q hq
    have : q = (F, z) := List.mem_singleton.mp hq
    subst this
    exact ⟨h1, h2.symm, h3⟩
  | succ f ih =>
    intro F z h1 h2 h3 q hq
    have hq2 : q ∈ (F, z) :: (if most ≤ z then [] else hdE (bqF g s t B F).2.2 (fun e => hdL g s t B most f (F ||| 2 ^ e) (z + 1)) g.length 0) := hq
    rcases List.mem_cons.mp hq2 with e | e
    · subst e; exact ⟨h1, h2.symm, h3⟩
    · split at e
      · cases e
      · obtain ⟨i, i1, i2, i3, i4⟩ := (hdE_mem _ _).mp e
        have hi : i < g.length := by omega
        have hb := (bq_djs (s := s) ho ht hB F).1 i i3
        have hm := mny_or hb 16
        rw [if_pos (by omega)] at hm
        exact ih _ _ (tb_add_lt h1 hi) (by omega) (by omega) q i4
/-- the best that can be fortified -/
def bsf (g : List Ed) (s t B most : Nat) (q : Kx) : Prop := (∃ F, F < 2 ^ g.length ∧ mny F 16 ≤ most ∧ q = (fvl g s t B F, mny F 16, F)) ∧ ∀ F, F < 2 ^ g.length → mny F 16 ≤ most → KG q (fvl g s t B F, mny F 16, F)
theorem hdL_has {g : List Ed} {s t B most F : Nat} (ho : ∀ x ∈ g, e_ok x) (h16 : g.length ≤ 16) (ht : t < 8) (hB : B ≤ 16) (hmost : most ≤ 2) (hF : F < 2 ^ g.length) (hm : mny F 16 ≤ most) (hb : ∀ R, R < 2 ^ g.length → mny R 16 ≤ most → KG (fvl g s t B F, mny F 16, F) (fvl g s t B R, mny R 16, R)) : ∀ f R, sbs R F → mny R 16 + f = 2 → (F, mny F 16) ∈ hdL g s t B most f R (mny R 16) := by
  have hp := pw_le h16
  intro f
  induction f with
  | zero =>
    intro R h1 h2
    have e : R = F := by
      apply Classical.byContradiction
      intro q
      have := mny_sbs h1 q (by omega)
      omega
    subst e
    exact List.mem_singleton.mpr rfl
  | succ f ih =>
    intro R h1 h2
    show _ ∈ (R, mny R 16) :: (if most ≤ mny R 16 then [] else hdE (bqF g s t B R).2.2 (fun e => hdL g s t B most f (R ||| 2 ^ e) (mny R 16 + 1)) g.length 0)
    by_cases q : R = F
    · subst q; exact List.mem_cons_self
    · refine List.mem_cons_of_mem _ ?_
      have hlt := mny_sbs h1 q (by omega)
      rw [if_neg (by omega)]
      have hR := sbs_lt h1 hF
      have k := hb R hR (by omega)
      have b1 := (bq_djs (s := s) ho ht hB F).2.2
      have b2 := (bq_djs (s := s) ho ht hB R).2.2
      have hv : (bqF g s t B F).1 < (bqF g s t B R).1 := by
        simp only [KG, fvl] at k
        omega
      obtain ⟨e, e1, e2⟩ := bq_meet ho ht hB hv
      have he := tb_lt hF e2
      have e3 := (bq_djs (s := s) ho ht hB R).1 e e1
      have hmo := mny_or e3 16
      rw [if_pos (by omega)] at hmo
      refine (hdE_mem _ _).mpr ⟨e, Nat.zero_le _, by omega, e1, ?_⟩
      have := ih (R ||| 2 ^ e) (sbs_or h1 e2) (by omega)
      rw [hmo] at this
      exact this
theorem mny_0 : ∀ k, mny 0 k = 0 := by
  intro k
  induction k with
  | zero => rfl
  | succ k ih => show mny 0 k + (if (0 : Nat).testBit k then 1 else 0) = 0; rw [ih, Nat.zero_testBit]; rfl
theorem hold_best {g : List Ed} {s t B most : Nat} (ho : ∀ x ∈ g, e_ok x) (h16 : g.length ≤ 16) (ht : t < 8) (hB : B ≤ 16) (hmost : most ≤ 2) {q : Kx} (hq : bsf g s t B most q) : (hdL g s t B most 2 0 0).foldl (fun o p => wgh o (fvl g s t B p.1, p.2, p.1)) none = some q := by
  have hok := hdL_ok (s := s) (most := most) ho h16 ht hB 2 0 0 (pw_pos _) (mny_0 16) (Nat.zero_le _)
  have hcons : hdL g s t B most 2 0 0 = (0, 0) :: (if most ≤ 0 then [] else hdE (bqF g s t B 0).2.2 (fun e => hdL g s t B most 1 (0 ||| 2 ^ e) (0 + 1)) g.length 0) := rfl
  obtain ⟨p, p1, p2, p3, p4⟩ := wgh_fold (fvl g s t B) (if most ≤ 0 then [] else hdE (bqF g s t B 0).2.2 (fun e => hdL g s t B most 1 (0 ||| 2 ^ e) (0 + 1)) g.length 0) (fvl g s t B 0, 0, 0)
  have p5 : ∀ r ∈ hdL g s t B most 2 0 0, KG p (fvl g s t B r.1, r.2, r.1) := by
    intro r hr
    rw [hcons] at hr
    rcases List.mem_cons.mp hr with e | e
    · subst e; exact p3
    · exact p4 r e
  have p6 : ∃ r ∈ hdL g s t B most 2 0 0, p = (fvl g s t B r.1, r.2, r.1) := by
    rcases p2 with e | ⟨r, h1, h2⟩
    · exact ⟨(0, 0), by rw [hcons]; exact List.mem_cons_self, e⟩
    · exact ⟨r, by rw [hcons]; exact List.mem_cons_of_mem _ h1, h2⟩
  have hf : (hdL g s t B most 2 0 0).foldl (fun o p => wgh o (fvl g s t B p.1, p.2, p.1)) none = some p := by rw [hcons]; exact p1
  rw [hf]
  obtain ⟨⟨F, f1, f2, f3⟩, f4⟩ := hq
  subst f3
  have hv := hdL_has ho h16 ht hB hmost f1 f2 f4 2 0 (sbs_0 F) (by rw [mny_0])
  rw [mny_0] at hv
  have k1 := p5 _ hv
  obtain ⟨r, r1, r2⟩ := p6
  obtain ⟨a1, a2, a3⟩ := hok r r1
  have k2 := f4 r.1 a1 (by omega)
  rw [← a2, ← r2] at k2
  rw [KG_eq k1 k2]
def BH (b : Option Kx) (mu : Nat → Nat → Int32) : Prop := match b with
  | none => mu 21 7 = -1
  | some q => mu 21 6 = nI (9999 - q.1) ∧ mu 21 7 = nI q.2.2 ∧ q.1 ≤ 9999 ∧ q.2.1 = mny q.2.2 16 ∧ q.2.2 < 65536
def FH (mu0 mu : Nat → Nat → Int32) : Prop := (∀ c, (c < 9 ∨ 13 < c) → c ≠ 19 → c ≠ 21 → mu c = mu0 c) ∧ ∀ j, j < 6 → mu 21 j = mu0 21 j
theorem FH_rfl (mu : Nat → Nat → Int32) : FH mu mu := ⟨fun _ _ _ _ => rfl, fun _ _ => rfl⟩
theorem FH_tr {a b c : Nat → Nat → Int32} (h1 : FH a b) (h2 : FH b c) : FH a c := ⟨fun x h3 h4 h5 => (h2.1 x h3 h4 h5).trans (h1.1 x h3 h4 h5), fun j hj => (h2.2 j hj).trans (h1.2 j hj)⟩
theorem FH_sb {a b : Nat → Nat → Int32} (h : ∀ c, (c < 9 ∨ 13 < c) → c ≠ 19 → b c = a c) : FH a b := ⟨fun x h3 h4 _ => h x h3 h4, fun j _ => by rw [h 21 (by omega) (by omega)]⟩
theorem xg_FH {g : List Ed} {a b : Nat → Nat → Int32} (h : xg g a) (f : FH a b) : xg g b := xg_of h (by rw [f.1 1 (by omega) (by omega) (by omega)]) (f.1 2 (by omega) (by omega) (by omega))
def CH (s t B most : Nat) (mu : Nat → Nat → Int32) : Prop := mu 21 2 = nI s ∧ mu 21 3 = nI t ∧ mu 21 4 = nI B ∧ mu 21 5 = nI most
theorem CH_of {s t B most : Nat} {a b : Nat → Nat → Int32} (h : CH s t B most a) (f : FH a b) : CH s t B most b := by
  obtain ⟨h1, h2, h3, h4⟩ := h
  exact ⟨by rw [f.2 2 (by omega)]; exact h1, by rw [f.2 3 (by omega)]; exact h2, by rw [f.2 4 (by omega)]; exact h3, by rw [f.2 5 (by omega)]; exact h4⟩
def PH (g : List Ed) (s t B : Nat) (L : List (Nat × Nat)) (b : Option Kx) (mu0 : Nat → Nat → Int32) : rn_Q := fun r mu' _ => r = none ∧ BH (L.foldl (fun o p => wgh o (fvl g s t B p.1, p.2, p.1)) b) mu' ∧ FH mu0 mu'

set_option maxRecDepth 100000 in
set_option maxHeartbeats 2000000 in
theorem c_isBetter (d : Nat) {mu : Nat → Nat → Int32} (h : Int64) {F z D r F0 : Nat} (h6 : mu 21 6 = nI r) (h7 : mu 21 7 = nI F0) (h1 : F < 2 ^ 31) (h2 : z < 2 ^ 31) (h3 : D < 2 ^ 31) (h4 : r < 2 ^ 31) (h5 : F0 < 65536) : gd_G mX1_isBetter (d + 1) [.ref 21, .int (nI F), .int (nI z), .int (nI D)] mu h (pq (some (.int (if D < r ∨ (D = r ∧ (z < mny F0 16 ∨ (z = mny F0 16 ∧ F < F0))) then 1 else 0))) mu h) := by
  refine gd_of rfl (Nat.le_of_ble_eq_true rfl) ?_
  show rn_R none mX1_isBetter (d + 1) 0 [some (.ref 21), some (.int (nI F)), some (.int (nI z)), some (.int (nI D)), none] [] mu h (pq (some (.int (if D < r ∨ (D = r ∧ (z < mny F0 16 ∨ (z = mny F0 16 ∧ F < F0))) then 1 else 0))) mu h)
  have hm := mny_le F0 16
  by_cases q1 : D = r
  · skip
    by_cases q2 : z < mny F0 16
    · skip
      refine rn_iload_n 1 dX1_isBetter_0 rfl rfl rfl ?_
      refine rn_aload_n 2 dX1_isBetter_1 rfl rfl rfl ?_
      refine rn_get 5 (.int (mu 21 6)) dX1_isBetter_2 fl_X1_24 rfl rfl rfl rfl ?_
      refine rn_icmp_eq 22 8 dX1_isBetter_5 (by decide) rfl (fun _ => ?_) (fun c5 => absurd (by rw [h6, q1]) c5)
      refine rn_aload_n 23 dX1_isBetter_22 rfl rfl rfl ?_
      refine rn_get 26 (.int (mu 21 7)) dX1_isBetter_23 fl_X1_27 rfl rfl rfl rfl ?_
      rw [h7]
      refine rn_csp mJ6_bitCount_0f7a4 [.int (nI F0)] [] 29 (.int (nI (mny F0 16))) dX1_isBetter_26 cs_X1_59 rfl rfl (by simp [Value.category]) rfl (c_bitCount d mu h (S := F0) h5) ?_
      refine rn_istore 31 [some (.ref 21), some (.int (nI F)), some (.int (nI z)), some (.int (nI D)), some (.int (nI (mny F0 16)))] dX1_isBetter_29 rfl (Nat.le_of_ble_eq_true rfl) rfl ?_
      refine rn_iload_n 32 dX1_isBetter_31 rfl rfl rfl ?_
      refine rn_iload 34 dX1_isBetter_32 rfl rfl ?_
      refine rn_icmp_lt 51 37 dX1_isBetter_34 (by decide) rfl (fun _ => ?_) (fun c34 => absurd (nI_lt q2 (by omega)) c34)
      refine rn_iconst (v := 1) 52 dX1_isBetter_51 (by decide) rfl ?_
      refine rn_goto 56 dX1_isBetter_52 (by decide) ?_
      exact rn_zret rfl dX1_isBetter_56 rfl (⟨by rw [if_pos (Or.inr ⟨q1, Or.inl q2⟩)], rfl, rfl⟩)
    · skip
      by_cases q3 : z = mny F0 16
      · skip
        by_cases q4 : F < F0
        · skip
          refine rn_iload_n 1 dX1_isBetter_0 rfl rfl rfl ?_
          refine rn_aload_n 2 dX1_isBetter_1 rfl rfl rfl ?_
          refine rn_get 5 (.int (mu 21 6)) dX1_isBetter_2 fl_X1_24 rfl rfl rfl rfl ?_
          refine rn_icmp_eq 22 8 dX1_isBetter_5 (by decide) rfl (fun _ => ?_) (fun c5 => absurd (by rw [h6, q1]) c5)
          refine rn_aload_n 23 dX1_isBetter_22 rfl rfl rfl ?_
          refine rn_get 26 (.int (mu 21 7)) dX1_isBetter_23 fl_X1_27 rfl rfl rfl rfl ?_
          rw [h7]
          refine rn_csp mJ6_bitCount_0f7a4 [.int (nI F0)] [] 29 (.int (nI (mny F0 16))) dX1_isBetter_26 cs_X1_59 rfl rfl (by simp [Value.category]) rfl (c_bitCount d mu h (S := F0) h5) ?_
          refine rn_istore 31 [some (.ref 21), some (.int (nI F)), some (.int (nI z)), some (.int (nI D)), some (.int (nI (mny F0 16)))] dX1_isBetter_29 rfl (Nat.le_of_ble_eq_true rfl) rfl ?_
          refine rn_iload_n 32 dX1_isBetter_31 rfl rfl rfl ?_
          refine rn_iload 34 dX1_isBetter_32 rfl rfl ?_
          refine rn_icmp_lt 51 37 dX1_isBetter_34 (by decide) rfl (fun c34 => absurd c34 (nI_nlt (by omega) (by omega))) (fun _ => ?_)
          refine rn_iload_n 38 dX1_isBetter_37 rfl rfl rfl ?_
          refine rn_iload 40 dX1_isBetter_38 rfl rfl ?_
          refine rn_icmp_ne 55 43 dX1_isBetter_40 (by decide) rfl (fun c40 => absurd (congrArg nI q3) c40) (fun _ => ?_)
          refine rn_iload_n 44 dX1_isBetter_43 rfl rfl rfl ?_
          refine rn_aload_n 45 dX1_isBetter_44 rfl rfl rfl ?_
          refine rn_get 48 (.int (mu 21 7)) dX1_isBetter_45 fl_X1_27 rfl rfl rfl rfl ?_
          refine rn_icmp_ge 55 51 dX1_isBetter_48 (by decide) rfl (fun c48 => absurd c48 (by rw [h7]; exact nI_ge q4 (by omega))) (fun _ => ?_)
          refine rn_iconst (v := 1) 52 dX1_isBetter_51 (by decide) rfl ?_
          refine rn_goto 56 dX1_isBetter_52 (by decide) ?_
          exact rn_zret rfl dX1_isBetter_56 rfl (⟨by rw [if_pos (Or.inr ⟨q1, Or.inr ⟨q3, q4⟩⟩)], rfl, rfl⟩)
        · skip
          refine rn_iload_n 1 dX1_isBetter_0 rfl rfl rfl ?_
          refine rn_aload_n 2 dX1_isBetter_1 rfl rfl rfl ?_
          refine rn_get 5 (.int (mu 21 6)) dX1_isBetter_2 fl_X1_24 rfl rfl rfl rfl ?_
          refine rn_icmp_eq 22 8 dX1_isBetter_5 (by decide) rfl (fun _ => ?_) (fun c5 => absurd (by rw [h6, q1]) c5)
          refine rn_aload_n 23 dX1_isBetter_22 rfl rfl rfl ?_
          refine rn_get 26 (.int (mu 21 7)) dX1_isBetter_23 fl_X1_27 rfl rfl rfl rfl ?_
          rw [h7]
          refine rn_csp mJ6_bitCount_0f7a4 [.int (nI F0)] [] 29 (.int (nI (mny F0 16))) dX1_isBetter_26 cs_X1_59 rfl rfl (by simp [Value.category]) rfl (c_bitCount d mu h (S := F0) h5) ?_
          refine rn_istore 31 [some (.ref 21), some (.int (nI F)), some (.int (nI z)), some (.int (nI D)), some (.int (nI (mny F0 16)))] dX1_isBetter_29 rfl (Nat.le_of_ble_eq_true rfl) rfl ?_
          refine rn_iload_n 32 dX1_isBetter_31 rfl rfl rfl ?_
          refine rn_iload 34 dX1_isBetter_32 rfl rfl ?_
          refine rn_icmp_lt 51 37 dX1_isBetter_34 (by decide) rfl (fun c34 => absurd c34 (nI_nlt (by omega) (by omega))) (fun _ => ?_)
          refine rn_iload_n 38 dX1_isBetter_37 rfl rfl rfl ?_
          refine rn_iload 40 dX1_isBetter_38 rfl rfl ?_
          refine rn_icmp_ne 55 43 dX1_isBetter_40 (by decide) rfl (fun c40 => absurd (congrArg nI q3) c40) (fun _ => ?_)
          refine rn_iload_n 44 dX1_isBetter_43 rfl rfl rfl ?_
          refine rn_aload_n 45 dX1_isBetter_44 rfl rfl rfl ?_
          refine rn_get 48 (.int (mu 21 7)) dX1_isBetter_45 fl_X1_27 rfl rfl rfl rfl ?_
          refine rn_icmp_ge 55 51 dX1_isBetter_48 (by decide) rfl (fun _ => ?_) (fun c48 => absurd (by rw [h7]; exact nI_le (by omega) (by omega)) c48)
          refine rn_iconst (v := 0) 56 dX1_isBetter_55 (by decide) rfl ?_
          exact rn_zret rfl dX1_isBetter_56 rfl (⟨by rw [if_neg (by omega)], rfl, rfl⟩)
      · skip
        refine rn_iload_n 1 dX1_isBetter_0 rfl rfl rfl ?_
        refine rn_aload_n 2 dX1_isBetter_1 rfl rfl rfl ?_
        refine rn_get 5 (.int (mu 21 6)) dX1_isBetter_2 fl_X1_24 rfl rfl rfl rfl ?_
        refine rn_icmp_eq 22 8 dX1_isBetter_5 (by decide) rfl (fun _ => ?_) (fun c5 => absurd (by rw [h6, q1]) c5)
        refine rn_aload_n 23 dX1_isBetter_22 rfl rfl rfl ?_
        refine rn_get 26 (.int (mu 21 7)) dX1_isBetter_23 fl_X1_27 rfl rfl rfl rfl ?_
        rw [h7]
        refine rn_csp mJ6_bitCount_0f7a4 [.int (nI F0)] [] 29 (.int (nI (mny F0 16))) dX1_isBetter_26 cs_X1_59 rfl rfl (by simp [Value.category]) rfl (c_bitCount d mu h (S := F0) h5) ?_
        refine rn_istore 31 [some (.ref 21), some (.int (nI F)), some (.int (nI z)), some (.int (nI D)), some (.int (nI (mny F0 16)))] dX1_isBetter_29 rfl (Nat.le_of_ble_eq_true rfl) rfl ?_
        refine rn_iload_n 32 dX1_isBetter_31 rfl rfl rfl ?_
        refine rn_iload 34 dX1_isBetter_32 rfl rfl ?_
        refine rn_icmp_lt 51 37 dX1_isBetter_34 (by decide) rfl (fun c34 => absurd c34 (nI_nlt (by omega) (by omega))) (fun _ => ?_)
        refine rn_iload_n 38 dX1_isBetter_37 rfl rfl rfl ?_
        refine rn_iload 40 dX1_isBetter_38 rfl rfl ?_
        refine rn_icmp_ne 55 43 dX1_isBetter_40 (by decide) rfl (fun _ => ?_) (fun c40 => absurd c40 (fun x => q3 ((nI_eq (by omega) (by omega)).mp x)))
        refine rn_iconst (v := 0) 56 dX1_isBetter_55 (by decide) rfl ?_
        exact rn_zret rfl dX1_isBetter_56 rfl (⟨by rw [if_neg (by omega)], rfl, rfl⟩)
  · skip
    by_cases q2 : D < r
    · skip
      refine rn_iload_n 1 dX1_isBetter_0 rfl rfl rfl ?_
      refine rn_aload_n 2 dX1_isBetter_1 rfl rfl rfl ?_
      refine rn_get 5 (.int (mu 21 6)) dX1_isBetter_2 fl_X1_24 rfl rfl rfl rfl ?_
      refine rn_icmp_eq 22 8 dX1_isBetter_5 (by decide) rfl (fun c5 => absurd c5 (by rw [h6]; exact fun x => q1 ((nI_eq h3 h4).mp x))) (fun _ => ?_)
      refine rn_iload_n 9 dX1_isBetter_8 rfl rfl rfl ?_
      refine rn_aload_n 10 dX1_isBetter_9 rfl rfl rfl ?_
      refine rn_get 13 (.int (mu 21 6)) dX1_isBetter_10 fl_X1_24 rfl rfl rfl rfl ?_
      refine rn_icmp_ge 20 16 dX1_isBetter_13 (by decide) rfl (fun c13 => absurd c13 (by rw [h6]; exact nI_ge q2 h4)) (fun _ => ?_)
      refine rn_iconst (v := 1) 17 dX1_isBetter_16 (by decide) rfl ?_
      refine rn_goto 21 dX1_isBetter_17 (by decide) ?_
      exact rn_zret rfl dX1_isBetter_21 rfl (⟨by rw [if_pos (Or.inl q2)], rfl, rfl⟩)
    · skip
      refine rn_iload_n 1 dX1_isBetter_0 rfl rfl rfl ?_
      refine rn_aload_n 2 dX1_isBetter_1 rfl rfl rfl ?_
      refine rn_get 5 (.int (mu 21 6)) dX1_isBetter_2 fl_X1_24 rfl rfl rfl rfl ?_
      refine rn_icmp_eq 22 8 dX1_isBetter_5 (by decide) rfl (fun c5 => absurd c5 (by rw [h6]; exact fun x => q1 ((nI_eq h3 h4).mp x))) (fun _ => ?_)
      refine rn_iload_n 9 dX1_isBetter_8 rfl rfl rfl ?_
      refine rn_aload_n 10 dX1_isBetter_9 rfl rfl rfl ?_
      refine rn_get 13 (.int (mu 21 6)) dX1_isBetter_10 fl_X1_24 rfl rfl rfl rfl ?_
      refine rn_icmp_ge 20 16 dX1_isBetter_13 (by decide) rfl (fun _ => ?_) (fun c13 => absurd (by rw [h6]; exact nI_le (by omega) (by omega)) c13)
      refine rn_iconst (v := 0) 21 dX1_isBetter_20 (by decide) rfl ?_
      exact rn_zret rfl dX1_isBetter_21 rfl (⟨by rw [if_neg (by omega)], rfl, rfl⟩)

set_option maxRecDepth 100000 in
set_option maxHeartbeats 2000000 in
theorem lp_hold (dd : Nat) {g : List Ed} {s t B most F z X : Nat} {rc : Nat → List (Nat × Nat)} (hX : X < 65536) (HR : ∀ (e2 : Nat) (b2 : Option Kx) (mu2 : Nat → Nat → Int32) (h2 : Int64), e2 < g.length → X.testBit e2 = true → xg g mu2 → CH s t B most mu2 → BH b2 mu2 → gd_G mX1_hold dd [.ref 21, .int (nI (F ||| 2 ^ e2)), .int (nI (z + 1))] mu2 h2 (PH g s t B (rc e2) b2 mu2)) {mu0 : Nat → Nat → Int32} : ∀ (k e : Nat) (b : Option Kx) (mu : Nat → Nat → Int32) (h : Int64), e + k = g.length → (xg g mu) → (CH s t B most mu) → (BH b mu) → (FH mu0 mu) → rn_R none mX1_hold (dd + 1) 89 [some (.ref 21), some (.int (nI F)), some (.int (nI z)), some (.int (nI X)), some (.int (nI e))] [] mu h (PH g s t B (hdE X rc k e) b mu0) := by
  intro k
  induction k with
  | zero =>
    intro e b mu h hek hg hch hb hfh
    refine rn_iload 91 dX1_hold_89 rfl rfl ?_
    refine rn_aload_n 92 dX1_hold_91 rfl rfl rfl ?_
    refine rn_get 95 (.ref 1) dX1_hold_92 fl_X1_30 rfl rfl rfl rfl ?_
    refine rn_get 98 (.int (mu 1 1)) dX1_hold_95 fl_X1_54 rfl rfl rfl rfl ?_
    refine rn_icmp_ge 129 101 dX1_hold_98 (by decide) rfl (fun _ => ?_) (fun c98 => absurd (by rw [hg.2.2.1]; exact nI_le (by omega) (by have := hg.1; omega)) c98)
    exact rn_vret rfl dX1_hold_129 (⟨rfl, hb, hfh⟩)
  | succ k ih =>
    intro e b mu h hek hg hch hb hfh
    have hlt : e < g.length := by omega
    have h16 := hg.1
    have hp := pw_le hg.1
    by_cases q1 : X.testBit e = true
    · skip
      have bb : (nI X >>> (nI e &&& 31)) &&& 1 = 1 := by rw [nb_bit (by omega) (by omega), if_pos q1]
      have em : hdE X rc (k + 1) e = rc e ++ hdE X rc k (e + 1) := if_pos q1
      rw [em]
      refine rn_iload 91 dX1_hold_89 rfl rfl ?_
      refine rn_aload_n 92 dX1_hold_91 rfl rfl rfl ?_
      refine rn_get 95 (.ref 1) dX1_hold_92 fl_X1_30 rfl rfl rfl rfl ?_
      refine rn_get 98 (.int (mu 1 1)) dX1_hold_95 fl_X1_54 rfl rfl rfl rfl ?_
      refine rn_icmp_ge 129 101 dX1_hold_98 (by decide) rfl (fun c98 => absurd c98 (by rw [hg.2.2.1]; exact nI_ge hlt (by omega))) (fun _ => ?_)
      refine rn_iload_n 102 dX1_hold_101 rfl rfl rfl ?_
      refine rn_iload 104 dX1_hold_102 rfl rfl ?_
      refine rn_ishr 105 dX1_hold_104 rfl ?_
      refine rn_iconst (v := 1) 106 dX1_hold_105 (by decide) rfl ?_
      refine rn_iand 107 dX1_hold_106 rfl ?_
      rw [bb]
      refine rn_if_eq 123 110 dX1_hold_107 (by decide) rfl (fun c107 => absurd c107 (by decide)) (fun _ => ?_)
      refine rn_aload_n 111 dX1_hold_110 rfl rfl rfl ?_
      refine rn_iload_n 112 dX1_hold_111 rfl rfl rfl ?_
      refine rn_iconst (v := 1) 113 dX1_hold_112 (by decide) rfl ?_
      refine rn_iload 115 dX1_hold_113 rfl rfl ?_
      refine rn_ishl 116 dX1_hold_115 rfl ?_
      refine rn_ior 117 dX1_hold_116 rfl ?_
      rw [nb_1 (by omega), nb_or]
      refine rn_iload_n 118 dX1_hold_117 rfl rfl rfl ?_
      refine rn_iconst (v := 1) 119 dX1_hold_118 (by decide) rfl ?_
      refine rn_iadd 120 dX1_hold_119 rfl ?_
      rw [nI_1]
      refine rn_callV mX1_hold [.int (nI (F ||| 2 ^ e)), .int (nI (z + 1))] [] dX1_hold_120 cv_X1_38 rfl rfl rfl (by simp [Value.category]) (HR e b mu h hlt q1 hg hch hb) (fun r1 m1 h1 qq _ => ?_)
      obtain ⟨e1, b1, f1⟩ := qq
      subst e1
      show rn_R _ mX1_hold _ 123 [some (.ref 21), some (.int (nI F)), some (.int (nI z)), some (.int (nI X)), some (.int (nI e))] [] m1 h1 _
      refine rn_iinc (v := (nI (e + 1))) 126 [some (.ref 21), some (.int (nI F)), some (.int (nI z)), some (.int (nI X)), some (.int (nI (e + 1)))] dX1_hold_123 rfl (nI_1 _) rfl rfl ?_
      refine rn_goto 89 dX1_hold_126 (by decide) ?_
      have z := ih (e + 1) _ m1 h1 (by omega) (xg_FH hg f1) (CH_of hch f1) b1 (FH_tr hfh f1)
      refine rn_mono z (fun r m2 h2 q => ⟨q.1, ?_, q.2.2⟩)
      rw [List.foldl_append]
      exact q.2.1
    · skip
      have bb : (nI X >>> (nI e &&& 31)) &&& 1 = 0 := by rw [nb_bit (by omega) (by omega), if_neg q1]
      have em : hdE X rc (k + 1) e = hdE X rc k (e + 1) := if_neg q1
      rw [em]
      refine rn_iload 91 dX1_hold_89 rfl rfl ?_
      refine rn_aload_n 92 dX1_hold_91 rfl rfl rfl ?_
      refine rn_get 95 (.ref 1) dX1_hold_92 fl_X1_30 rfl rfl rfl rfl ?_
      refine rn_get 98 (.int (mu 1 1)) dX1_hold_95 fl_X1_54 rfl rfl rfl rfl ?_
      refine rn_icmp_ge 129 101 dX1_hold_98 (by decide) rfl (fun c98 => absurd c98 (by rw [hg.2.2.1]; exact nI_ge hlt (by omega))) (fun _ => ?_)
      refine rn_iload_n 102 dX1_hold_101 rfl rfl rfl ?_
      refine rn_iload 104 dX1_hold_102 rfl rfl ?_
      refine rn_ishr 105 dX1_hold_104 rfl ?_
      refine rn_iconst (v := 1) 106 dX1_hold_105 (by decide) rfl ?_
      refine rn_iand 107 dX1_hold_106 rfl ?_
      rw [bb]
      refine rn_if_eq 123 110 dX1_hold_107 (by decide) rfl (fun _ => ?_) (fun c107 => absurd (by decide) c107)
      refine rn_iinc (v := (nI (e + 1))) 126 [some (.ref 21), some (.int (nI F)), some (.int (nI z)), some (.int (nI X)), some (.int (nI (e + 1)))] dX1_hold_123 rfl (nI_1 _) rfl rfl ?_
      refine rn_goto 89 dX1_hold_126 (by decide) ?_
      exact ih (e + 1) b mu h (by omega) hg hch hb hfh

set_option maxRecDepth 100000 in
set_option maxHeartbeats 2000000 in
theorem c_hold (d : Nat) {g : List Ed} {s t B most : Nat} (hs : s < 8) (ht : t < 8) (hB : B ≤ 5) (hmost : most ≤ 2) : ∀ (f F z : Nat) (b : Option Kx) (mu : Nat → Nat → Int32) (h : Int64), z + f = 2 → F < 2 ^ g.length → z = mny F 16 → xg g mu → CH s t B most mu → BH b mu → gd_G mX1_hold (d + f + 21) [.ref 21, .int (nI F), .int (nI z)] mu h (PH g s t B (hdL g s t B most f F z) b mu) := by
  intro f
  induction f with
  | zero =>
    intro F z b mu h hzf hF hz hg hch hb
    refine gd_of rfl (Nat.le_of_ble_eq_true rfl) ?_
    show rn_R none mX1_hold (d + 21) 0 [some (.ref 21), some (.int (nI F)), some (.int (nI z)), none, none] [] mu h (PH g s t B (hdL g s t B most 0 F z) b mu)
    have h16 := hg.1
    have hp := pw_le hg.1
    have ho := hg.2.1
    obtain ⟨f1_, f2_, f3_, f4_⟩ := id hch
    have hq := bqF_ok (s := s) (B := B) ho ht (by omega) F
    obtain ⟨j1, j2, j3⟩ := bq_djs (s := s) (B := B) ho ht (by omega) F
    refine rn_aload_n 1 dX1_hold_0 rfl rfl rfl ?_
    refine rn_get 4 (.ref 19) dX1_hold_1 fl_X1_34 rfl rfl rfl rfl ?_
    refine rn_aload_n 5 dX1_hold_4 rfl rfl rfl ?_
    refine rn_get 8 (.int (mu 21 2)) dX1_hold_5 fl_X1_9 rfl rfl rfl rfl ?_
    refine rn_aload_n 9 dX1_hold_8 rfl rfl rfl ?_
    refine rn_get 12 (.int (mu 21 3)) dX1_hold_9 fl_X1_15 rfl rfl rfl rfl ?_
    refine rn_aload_n 13 dX1_hold_12 rfl rfl rfl ?_
    refine rn_get 16 (.int (mu 21 4)) dX1_hold_13 fl_X1_18 rfl rfl rfl rfl ?_
    refine rn_iconst (v := 0) 17 dX1_hold_16 (by decide) rfl ?_
    refine rn_sipush (v := 9999) 20 dX1_hold_17 (by decide) rfl ?_
    refine rn_iload_n 21 dX1_hold_20 rfl rfl rfl ?_
    rw [f1_, f2_, f3_]
    refine rn_callV mX0_seekBest [.int (nI s), .int (nI t), .int (nI B), .int 0, .int 9999, .int (nI F)] [] dX1_hold_21 cv_X1_42 rfl rfl rfl (by simp [Value.category]) (c_seekBest (d) (rep := 0) (aim := 9999) (F := F) hs ht hB (by omega) (by omega) (by omega) hq h hg) (fun r1 m1 h1 qq _ => ?_)
    obtain ⟨e1, s1, s2, s3, f1⟩ := qq
    subst e1
    have fh1 := FH_sb f1
    have hb1 : BH b m1 := by unfold BH at hb ⊢; rw [f1 21 (by omega) (by omega)]; exact hb
    show rn_R _ mX1_hold _ 24 [some (.ref 21), some (.int (nI F)), some (.int (nI z)), none, none] [] m1 h1 _
    refine rn_aload_n 25 dX1_hold_24 rfl rfl rfl ?_
    refine rn_get 28 (.ref 19) dX1_hold_25 fl_X1_34 rfl rfl rfl rfl ?_
    refine rn_get 31 (.int (m1 19 10)) dX1_hold_28 fl_X1_48 rfl rfl rfl rfl ?_
    rw [s3]
    refine rn_istore_n 32 [some (.ref 21), some (.int (nI F)), some (.int (nI z)), some (.int (nI (bqF g s t B F).2.2)), none] dX1_hold_31 rfl rfl (Nat.le_of_ble_eq_true rfl) rfl ?_
    cases b with
    | none =>
      have hb7 : m1 21 7 = -1 := hb1
      show rn_R _ mX1_hold _ 32 [some (.ref 21), some (.int (nI F)), some (.int (nI z)), some (.int (nI (bqF g s t B F).2.2)), none] [] m1 h1 _
      refine rn_aload_n 33 dX1_hold_32 rfl rfl rfl ?_
      refine rn_get 36 (.int (m1 21 7)) dX1_hold_33 fl_X1_27 rfl rfl rfl rfl ?_
      refine rn_iconst (v := (-1)) 37 dX1_hold_36 (by decide) rfl ?_
      refine rn_icmp_eq 56 40 dX1_hold_37 (by decide) rfl (fun _ => ?_) (fun c37 => absurd (hb7) c37)
      refine rn_aload_n 57 dX1_hold_56 rfl rfl rfl ?_
      refine rn_iload_n 58 dX1_hold_57 rfl rfl rfl ?_
      refine rn_put 61 dX1_hold_58 fp_X1_27 rfl rfl rfl rfl rfl ?_
      refine rn_aload_n 62 dX1_hold_61 rfl rfl rfl ?_
      refine rn_aload_n 63 dX1_hold_62 rfl rfl rfl ?_
      refine rn_get 66 (.ref 19) dX1_hold_63 fl_X1_34 rfl rfl rfl rfl ?_
      refine rn_get 69 (.int (m1 19 8)) dX1_hold_66 fl_X1_49 rfl rfl rfl rfl ?_
      rw [s1]
      refine rn_put 72 dX1_hold_69 fp_X1_24 rfl rfl rfl rfl rfl ?_
      have hb2 : BH (wgh none (fvl g s t B F, z, F)) (mu_s (mu_s m1 21 7 (nI F)) 21 6 (nI (bqF g s t B F).1)) := ⟨by simp [mu_s, upd, fvl]; exact congrArg nI (by omega), by simp [mu_s, upd], by show 9999 - _ ≤ 9999; omega, hz, by show F < 65536; omega⟩
      have fh2 : FH mu (mu_s (mu_s m1 21 7 (nI F)) 21 6 (nI (bqF g s t B F).1)) := FH_tr fh1 ⟨fun c _ _ h5 => by simp [mu_s, h5], fun j hj => by simp [mu_s, upd, show j ≠ 6 by omega, show j ≠ 7 by omega]⟩
      have hg2 := xg_FH hg fh2
      have hch2 := CH_of hch fh2
      obtain ⟨k1_, k2_, k3_, k4_⟩ := id hch2
      generalize (mu_s (mu_s m1 21 7 (nI F)) 21 6 (nI (bqF g s t B F).1)) = m2 at hb2 fh2 hg2 hch2 k1_ k2_ k3_ k4_ ⊢
      show rn_R _ mX1_hold _ 72 [some (.ref 21), some (.int (nI F)), some (.int (nI z)), some (.int (nI (bqF g s t B F).2.2)), none] [] m2 h1 _
      refine rn_iload_n 73 dX1_hold_72 rfl rfl rfl ?_
      refine rn_aload_n 74 dX1_hold_73 rfl rfl rfl ?_
      refine rn_get 77 (.int (m2 21 5)) dX1_hold_74 fl_X1_21 rfl rfl rfl rfl ?_
      refine rn_icmp_ge 85 80 dX1_hold_77 (by decide) rfl (fun c77 => ?_) (fun c77 => ?_)
      · skip
        exact rn_vret rfl dX1_hold_85 (⟨rfl, hb2, fh2⟩)
      · skip
        refine rn_iload_n 81 dX1_hold_80 rfl rfl rfl ?_
        refine rn_iconst (v := 2) 82 dX1_hold_81 (by decide) rfl ?_
        refine rn_icmp_lt 86 85 dX1_hold_82 (by decide) rfl (fun c82 => absurd c82 (by rw [show z = 2 by omega]; decide)) (fun _ => ?_)
        exact rn_vret rfl dX1_hold_85 (⟨rfl, hb2, fh2⟩)
    | some p =>
      obtain ⟨p1, p2, p3⟩ := p
      obtain ⟨b1, b2, b3, b4, b5⟩ := id hb1
      simp only at b1 b2 b3 b4 b5
      show rn_R _ mX1_hold _ 32 [some (.ref 21), some (.int (nI F)), some (.int (nI z)), some (.int (nI (bqF g s t B F).2.2)), none] [] m1 h1 _
      by_cases q1 : (bqF g s t B F).1 < 9999 - p1 ∨ ((bqF g s t B F).1 = 9999 - p1 ∧ (z < mny p3 16 ∨ (z = mny p3 16 ∧ F < p3)))
      · skip
        have ec : ((bqF g s t B F).1 < 9999 - p1 ∨ ((bqF g s t B F).1 = 9999 - p1 ∧ (z < mny p3 16 ∨ (z = mny p3 16 ∧ F < p3)))) ↔ (p1 < fvl g s t B F ∨ (fvl g s t B F = p1 ∧ (z < p2 ∨ (z = p2 ∧ F < p3)))) := by unfold fvl; omega
        have ew : wgh (some (p1, p2, p3)) (fvl g s t B F, z, F) = some (fvl g s t B F, z, F) := if_pos (ec.mp q1)
        refine rn_aload_n 33 dX1_hold_32 rfl rfl rfl ?_
        refine rn_get 36 (.int (m1 21 7)) dX1_hold_33 fl_X1_27 rfl rfl rfl rfl ?_
        refine rn_iconst (v := (-1)) 37 dX1_hold_36 (by decide) rfl ?_
        refine rn_icmp_eq 56 40 dX1_hold_37 (by decide) rfl (fun c37 => absurd c37 (by rw [b2]; exact nI_m1 (by omega))) (fun _ => ?_)
        refine rn_aload_n 41 dX1_hold_40 rfl rfl rfl ?_
        refine rn_iload_n 42 dX1_hold_41 rfl rfl rfl ?_
        refine rn_iload_n 43 dX1_hold_42 rfl rfl rfl ?_
        refine rn_aload_n 44 dX1_hold_43 rfl rfl rfl ?_
        refine rn_get 47 (.ref 19) dX1_hold_44 fl_X1_34 rfl rfl rfl rfl ?_
        refine rn_get 50 (.int (m1 19 8)) dX1_hold_47 fl_X1_49 rfl rfl rfl rfl ?_
        rw [s1]
        refine rn_cvp mX1_isBetter [.int (nI F), .int (nI z), .int (nI (bqF g s t B F).1)] [] 53 (.int (if (bqF g s t B F).1 < 9999 - p1 ∨ ((bqF g s t B F).1 = 9999 - p1 ∧ (z < mny p3 16 ∨ (z = mny p3 16 ∧ F < p3))) then 1 else 0)) dX1_hold_50 cv_X1_50 rfl rfl rfl (by simp [Value.category]) rfl (c_isBetter (d + 19) h1 b1 b2 (by omega) (by omega) (by omega) (by omega) b5) ?_
        rw [if_pos q1]
        refine rn_if_eq 72 56 dX1_hold_53 (by decide) rfl (fun c53 => absurd c53 (by decide)) (fun _ => ?_)
        refine rn_aload_n 57 dX1_hold_56 rfl rfl rfl ?_
        refine rn_iload_n 58 dX1_hold_57 rfl rfl rfl ?_
        refine rn_put 61 dX1_hold_58 fp_X1_27 rfl rfl rfl rfl rfl ?_
        refine rn_aload_n 62 dX1_hold_61 rfl rfl rfl ?_
        refine rn_aload_n 63 dX1_hold_62 rfl rfl rfl ?_
        refine rn_get 66 (.ref 19) dX1_hold_63 fl_X1_34 rfl rfl rfl rfl ?_
        refine rn_get 69 (.int (m1 19 8)) dX1_hold_66 fl_X1_49 rfl rfl rfl rfl ?_
        rw [s1]
        refine rn_put 72 dX1_hold_69 fp_X1_24 rfl rfl rfl rfl rfl ?_
        have hb2 : BH (wgh (some (p1, p2, p3)) (fvl g s t B F, z, F)) (mu_s (mu_s m1 21 7 (nI F)) 21 6 (nI (bqF g s t B F).1)) := by rw [ew]; exact ⟨by simp [mu_s, upd, fvl]; exact congrArg nI (by omega), by simp [mu_s, upd], by show 9999 - _ ≤ 9999; omega, hz, by show F < 65536; omega⟩
        have fh2 : FH mu (mu_s (mu_s m1 21 7 (nI F)) 21 6 (nI (bqF g s t B F).1)) := FH_tr fh1 ⟨fun c _ _ h5 => by simp [mu_s, h5], fun j hj => by simp [mu_s, upd, show j ≠ 6 by omega, show j ≠ 7 by omega]⟩
        have hg2 := xg_FH hg fh2
        have hch2 := CH_of hch fh2
        obtain ⟨k1_, k2_, k3_, k4_⟩ := id hch2
        generalize (mu_s (mu_s m1 21 7 (nI F)) 21 6 (nI (bqF g s t B F).1)) = m2 at hb2 fh2 hg2 hch2 k1_ k2_ k3_ k4_ ⊢
        show rn_R _ mX1_hold _ 72 [some (.ref 21), some (.int (nI F)), some (.int (nI z)), some (.int (nI (bqF g s t B F).2.2)), none] [] m2 h1 _
        refine rn_iload_n 73 dX1_hold_72 rfl rfl rfl ?_
        refine rn_aload_n 74 dX1_hold_73 rfl rfl rfl ?_
        refine rn_get 77 (.int (m2 21 5)) dX1_hold_74 fl_X1_21 rfl rfl rfl rfl ?_
        refine rn_icmp_ge 85 80 dX1_hold_77 (by decide) rfl (fun c77 => ?_) (fun c77 => ?_)
        · skip
          exact rn_vret rfl dX1_hold_85 (⟨rfl, hb2, fh2⟩)
        · skip
          refine rn_iload_n 81 dX1_hold_80 rfl rfl rfl ?_
          refine rn_iconst (v := 2) 82 dX1_hold_81 (by decide) rfl ?_
          refine rn_icmp_lt 86 85 dX1_hold_82 (by decide) rfl (fun c82 => absurd c82 (by rw [show z = 2 by omega]; decide)) (fun _ => ?_)
          exact rn_vret rfl dX1_hold_85 (⟨rfl, hb2, fh2⟩)
      · skip
        have ec : ((bqF g s t B F).1 < 9999 - p1 ∨ ((bqF g s t B F).1 = 9999 - p1 ∧ (z < mny p3 16 ∨ (z = mny p3 16 ∧ F < p3)))) ↔ (p1 < fvl g s t B F ∨ (fvl g s t B F = p1 ∧ (z < p2 ∨ (z = p2 ∧ F < p3)))) := by unfold fvl; omega
        have ew : wgh (some (p1, p2, p3)) (fvl g s t B F, z, F) = some (p1, p2, p3) := if_neg (fun x => q1 (ec.mpr x))
        refine rn_aload_n 33 dX1_hold_32 rfl rfl rfl ?_
        refine rn_get 36 (.int (m1 21 7)) dX1_hold_33 fl_X1_27 rfl rfl rfl rfl ?_
        refine rn_iconst (v := (-1)) 37 dX1_hold_36 (by decide) rfl ?_
        refine rn_icmp_eq 56 40 dX1_hold_37 (by decide) rfl (fun c37 => absurd c37 (by rw [b2]; exact nI_m1 (by omega))) (fun _ => ?_)
        refine rn_aload_n 41 dX1_hold_40 rfl rfl rfl ?_
        refine rn_iload_n 42 dX1_hold_41 rfl rfl rfl ?_
        refine rn_iload_n 43 dX1_hold_42 rfl rfl rfl ?_
        refine rn_aload_n 44 dX1_hold_43 rfl rfl rfl ?_
        refine rn_get 47 (.ref 19) dX1_hold_44 fl_X1_34 rfl rfl rfl rfl ?_
        refine rn_get 50 (.int (m1 19 8)) dX1_hold_47 fl_X1_49 rfl rfl rfl rfl ?_
        rw [s1]
        refine rn_cvp mX1_isBetter [.int (nI F), .int (nI z), .int (nI (bqF g s t B F).1)] [] 53 (.int (if (bqF g s t B F).1 < 9999 - p1 ∨ ((bqF g s t B F).1 = 9999 - p1 ∧ (z < mny p3 16 ∨ (z = mny p3 16 ∧ F < p3))) then 1 else 0)) dX1_hold_50 cv_X1_50 rfl rfl rfl (by simp [Value.category]) rfl (c_isBetter (d + 19) h1 b1 b2 (by omega) (by omega) (by omega) (by omega) b5) ?_
        rw [if_neg q1]
        refine rn_if_eq 72 56 dX1_hold_53 (by decide) rfl (fun _ => ?_) (fun c53 => absurd (by decide) c53)
        have hb2 : BH (wgh (some (p1, p2, p3)) (fvl g s t B F, z, F)) m1 := by rw [ew]; exact hb1
        have fh2 : FH mu m1 := fh1
        have hg2 := xg_FH hg fh2
        have hch2 := CH_of hch fh2
        obtain ⟨k1_, k2_, k3_, k4_⟩ := id hch2
        refine rn_iload_n 73 dX1_hold_72 rfl rfl rfl ?_
        refine rn_aload_n 74 dX1_hold_73 rfl rfl rfl ?_
        refine rn_get 77 (.int (m1 21 5)) dX1_hold_74 fl_X1_21 rfl rfl rfl rfl ?_
        refine rn_icmp_ge 85 80 dX1_hold_77 (by decide) rfl (fun c77 => ?_) (fun c77 => ?_)
        · skip
          exact rn_vret rfl dX1_hold_85 (⟨rfl, hb2, fh2⟩)
        · skip
          refine rn_iload_n 81 dX1_hold_80 rfl rfl rfl ?_
          refine rn_iconst (v := 2) 82 dX1_hold_81 (by decide) rfl ?_
          refine rn_icmp_lt 86 85 dX1_hold_82 (by decide) rfl (fun c82 => absurd c82 (by rw [show z = 2 by omega]; decide)) (fun _ => ?_)
          exact rn_vret rfl dX1_hold_85 (⟨rfl, hb2, fh2⟩)
  | succ f ih =>
    intro F z b mu h hzf hF hz hg hch hb
    refine gd_of rfl (Nat.le_of_ble_eq_true rfl) ?_
    show rn_R none mX1_hold (d + f + 22) 0 [some (.ref 21), some (.int (nI F)), some (.int (nI z)), none, none] [] mu h (PH g s t B (hdL g s t B most (f + 1) F z) b mu)
    have h16 := hg.1
    have hp := pw_le hg.1
    have ho := hg.2.1
    obtain ⟨f1_, f2_, f3_, f4_⟩ := id hch
    have hq := bqF_ok (s := s) (B := B) ho ht (by omega) F
    obtain ⟨j1, j2, j3⟩ := bq_djs (s := s) (B := B) ho ht (by omega) F
    refine rn_aload_n 1 dX1_hold_0 rfl rfl rfl ?_
    refine rn_get 4 (.ref 19) dX1_hold_1 fl_X1_34 rfl rfl rfl rfl ?_
    refine rn_aload_n 5 dX1_hold_4 rfl rfl rfl ?_
    refine rn_get 8 (.int (mu 21 2)) dX1_hold_5 fl_X1_9 rfl rfl rfl rfl ?_
    refine rn_aload_n 9 dX1_hold_8 rfl rfl rfl ?_
    refine rn_get 12 (.int (mu 21 3)) dX1_hold_9 fl_X1_15 rfl rfl rfl rfl ?_
    refine rn_aload_n 13 dX1_hold_12 rfl rfl rfl ?_
    refine rn_get 16 (.int (mu 21 4)) dX1_hold_13 fl_X1_18 rfl rfl rfl rfl ?_
    refine rn_iconst (v := 0) 17 dX1_hold_16 (by decide) rfl ?_
    refine rn_sipush (v := 9999) 20 dX1_hold_17 (by decide) rfl ?_
    refine rn_iload_n 21 dX1_hold_20 rfl rfl rfl ?_
    rw [f1_, f2_, f3_]
    refine rn_callV mX0_seekBest [.int (nI s), .int (nI t), .int (nI B), .int 0, .int 9999, .int (nI F)] [] dX1_hold_21 cv_X1_42 rfl rfl rfl (by simp [Value.category]) (c_seekBest (d + f + 1) (rep := 0) (aim := 9999) (F := F) hs ht hB (by omega) (by omega) (by omega) hq h hg) (fun r1 m1 h1 qq _ => ?_)
    obtain ⟨e1, s1, s2, s3, f1⟩ := qq
    subst e1
    have fh1 := FH_sb f1
    have hb1 : BH b m1 := by unfold BH at hb ⊢; rw [f1 21 (by omega) (by omega)]; exact hb
    show rn_R _ mX1_hold _ 24 [some (.ref 21), some (.int (nI F)), some (.int (nI z)), none, none] [] m1 h1 _
    refine rn_aload_n 25 dX1_hold_24 rfl rfl rfl ?_
    refine rn_get 28 (.ref 19) dX1_hold_25 fl_X1_34 rfl rfl rfl rfl ?_
    refine rn_get 31 (.int (m1 19 10)) dX1_hold_28 fl_X1_48 rfl rfl rfl rfl ?_
    rw [s3]
    refine rn_istore_n 32 [some (.ref 21), some (.int (nI F)), some (.int (nI z)), some (.int (nI (bqF g s t B F).2.2)), none] dX1_hold_31 rfl rfl (Nat.le_of_ble_eq_true rfl) rfl ?_
    cases b with
    | none =>
      have hb7 : m1 21 7 = -1 := hb1
      show rn_R _ mX1_hold _ 32 [some (.ref 21), some (.int (nI F)), some (.int (nI z)), some (.int (nI (bqF g s t B F).2.2)), none] [] m1 h1 _
      refine rn_aload_n 33 dX1_hold_32 rfl rfl rfl ?_
      refine rn_get 36 (.int (m1 21 7)) dX1_hold_33 fl_X1_27 rfl rfl rfl rfl ?_
      refine rn_iconst (v := (-1)) 37 dX1_hold_36 (by decide) rfl ?_
      refine rn_icmp_eq 56 40 dX1_hold_37 (by decide) rfl (fun _ => ?_) (fun c37 => absurd (hb7) c37)
      refine rn_aload_n 57 dX1_hold_56 rfl rfl rfl ?_
      refine rn_iload_n 58 dX1_hold_57 rfl rfl rfl ?_
      refine rn_put 61 dX1_hold_58 fp_X1_27 rfl rfl rfl rfl rfl ?_
      refine rn_aload_n 62 dX1_hold_61 rfl rfl rfl ?_
      refine rn_aload_n 63 dX1_hold_62 rfl rfl rfl ?_
      refine rn_get 66 (.ref 19) dX1_hold_63 fl_X1_34 rfl rfl rfl rfl ?_
      refine rn_get 69 (.int (m1 19 8)) dX1_hold_66 fl_X1_49 rfl rfl rfl rfl ?_
      rw [s1]
      refine rn_put 72 dX1_hold_69 fp_X1_24 rfl rfl rfl rfl rfl ?_
      have hb2 : BH (wgh none (fvl g s t B F, z, F)) (mu_s (mu_s m1 21 7 (nI F)) 21 6 (nI (bqF g s t B F).1)) := ⟨by simp [mu_s, upd, fvl]; exact congrArg nI (by omega), by simp [mu_s, upd], by show 9999 - _ ≤ 9999; omega, hz, by show F < 65536; omega⟩
      have fh2 : FH mu (mu_s (mu_s m1 21 7 (nI F)) 21 6 (nI (bqF g s t B F).1)) := FH_tr fh1 ⟨fun c _ _ h5 => by simp [mu_s, h5], fun j hj => by simp [mu_s, upd, show j ≠ 6 by omega, show j ≠ 7 by omega]⟩
      have hg2 := xg_FH hg fh2
      have hch2 := CH_of hch fh2
      obtain ⟨k1_, k2_, k3_, k4_⟩ := id hch2
      generalize (mu_s (mu_s m1 21 7 (nI F)) 21 6 (nI (bqF g s t B F).1)) = m2 at hb2 fh2 hg2 hch2 k1_ k2_ k3_ k4_ ⊢
      show rn_R _ mX1_hold _ 72 [some (.ref 21), some (.int (nI F)), some (.int (nI z)), some (.int (nI (bqF g s t B F).2.2)), none] [] m2 h1 _
      have eg : hdL g s t B most (f + 1) F z = (F, z) :: (if most ≤ z then [] else hdE (bqF g s t B F).2.2 (fun e => hdL g s t B most f (F ||| 2 ^ e) (z + 1)) g.length 0) := rfl
      rw [eg]
      by_cases q9 : most ≤ z
      · skip
        rw [if_pos q9]
        refine rn_iload_n 73 dX1_hold_72 rfl rfl rfl ?_
        refine rn_aload_n 74 dX1_hold_73 rfl rfl rfl ?_
        refine rn_get 77 (.int (m2 21 5)) dX1_hold_74 fl_X1_21 rfl rfl rfl rfl ?_
        refine rn_icmp_ge 85 80 dX1_hold_77 (by decide) rfl (fun _ => ?_) (fun c77 => absurd (by rw [k4_]; exact nI_le q9 (by omega)) c77)
        exact rn_vret rfl dX1_hold_85 (⟨rfl, hb2, fh2⟩)
      · skip
        rw [if_neg q9]
        refine rn_iload_n 73 dX1_hold_72 rfl rfl rfl ?_
        refine rn_aload_n 74 dX1_hold_73 rfl rfl rfl ?_
        refine rn_get 77 (.int (m2 21 5)) dX1_hold_74 fl_X1_21 rfl rfl rfl rfl ?_
        refine rn_icmp_ge 85 80 dX1_hold_77 (by decide) rfl (fun c77 => absurd c77 (by rw [k4_]; exact nI_ge (by omega) (by omega))) (fun _ => ?_)
        refine rn_iload_n 81 dX1_hold_80 rfl rfl rfl ?_
        refine rn_iconst (v := 2) 82 dX1_hold_81 (by decide) rfl ?_
        refine rn_icmp_lt 86 85 dX1_hold_82 (by decide) rfl (fun _ => ?_) (fun c82 => absurd (nI_lt (b := 2) (by omega) (by omega)) c82)
        refine rn_iconst (v := 0) 87 dX1_hold_86 (by decide) rfl ?_
        refine rn_istore 89 [some (.ref 21), some (.int (nI F)), some (.int (nI z)), some (.int (nI (bqF g s t B F).2.2)), some (.int 0)] dX1_hold_87 rfl (Nat.le_of_ble_eq_true rfl) rfl ?_
        refine rn_mono (lp_hold (d + f + 21) (F := F) (z := z) (X := (bqF g s t B F).2.2) (rc := fun e => hdL g s t B most f (F ||| 2 ^ e) (z + 1)) (by omega) (fun e2 b2 mu2 h2 a1 a2 a3 a4 a5 => ih (F ||| 2 ^ e2) (z + 1) b2 mu2 h2 (by omega) (tb_add_lt hF a1) (by have hmo := mny_or (j1 e2 a2) 16; rw [if_pos (by omega)] at hmo; omega) a3 a4 a5) (mu0 := mu) g.length 0 _ m2 h1 (by omega) hg2 hch2 hb2 fh2) (fun r m9 h9 q => q)
    | some p =>
      obtain ⟨p1, p2, p3⟩ := p
      obtain ⟨b1, b2, b3, b4, b5⟩ := id hb1
      simp only at b1 b2 b3 b4 b5
      show rn_R _ mX1_hold _ 32 [some (.ref 21), some (.int (nI F)), some (.int (nI z)), some (.int (nI (bqF g s t B F).2.2)), none] [] m1 h1 _
      by_cases q1 : (bqF g s t B F).1 < 9999 - p1 ∨ ((bqF g s t B F).1 = 9999 - p1 ∧ (z < mny p3 16 ∨ (z = mny p3 16 ∧ F < p3)))
      · skip
        have ec : ((bqF g s t B F).1 < 9999 - p1 ∨ ((bqF g s t B F).1 = 9999 - p1 ∧ (z < mny p3 16 ∨ (z = mny p3 16 ∧ F < p3)))) ↔ (p1 < fvl g s t B F ∨ (fvl g s t B F = p1 ∧ (z < p2 ∨ (z = p2 ∧ F < p3)))) := by unfold fvl; omega
        have ew : wgh (some (p1, p2, p3)) (fvl g s t B F, z, F) = some (fvl g s t B F, z, F) := if_pos (ec.mp q1)
        refine rn_aload_n 33 dX1_hold_32 rfl rfl rfl ?_
        refine rn_get 36 (.int (m1 21 7)) dX1_hold_33 fl_X1_27 rfl rfl rfl rfl ?_
        refine rn_iconst (v := (-1)) 37 dX1_hold_36 (by decide) rfl ?_
        refine rn_icmp_eq 56 40 dX1_hold_37 (by decide) rfl (fun c37 => absurd c37 (by rw [b2]; exact nI_m1 (by omega))) (fun _ => ?_)
        refine rn_aload_n 41 dX1_hold_40 rfl rfl rfl ?_
        refine rn_iload_n 42 dX1_hold_41 rfl rfl rfl ?_
        refine rn_iload_n 43 dX1_hold_42 rfl rfl rfl ?_
        refine rn_aload_n 44 dX1_hold_43 rfl rfl rfl ?_
        refine rn_get 47 (.ref 19) dX1_hold_44 fl_X1_34 rfl rfl rfl rfl ?_
        refine rn_get 50 (.int (m1 19 8)) dX1_hold_47 fl_X1_49 rfl rfl rfl rfl ?_
        rw [s1]
        refine rn_cvp mX1_isBetter [.int (nI F), .int (nI z), .int (nI (bqF g s t B F).1)] [] 53 (.int (if (bqF g s t B F).1 < 9999 - p1 ∨ ((bqF g s t B F).1 = 9999 - p1 ∧ (z < mny p3 16 ∨ (z = mny p3 16 ∧ F < p3))) then 1 else 0)) dX1_hold_50 cv_X1_50 rfl rfl rfl (by simp [Value.category]) rfl (c_isBetter (d + f + 20) h1 b1 b2 (by omega) (by omega) (by omega) (by omega) b5) ?_
        rw [if_pos q1]
        refine rn_if_eq 72 56 dX1_hold_53 (by decide) rfl (fun c53 => absurd c53 (by decide)) (fun _ => ?_)
        refine rn_aload_n 57 dX1_hold_56 rfl rfl rfl ?_
        refine rn_iload_n 58 dX1_hold_57 rfl rfl rfl ?_
        refine rn_put 61 dX1_hold_58 fp_X1_27 rfl rfl rfl rfl rfl ?_
        refine rn_aload_n 62 dX1_hold_61 rfl rfl rfl ?_
        refine rn_aload_n 63 dX1_hold_62 rfl rfl rfl ?_
        refine rn_get 66 (.ref 19) dX1_hold_63 fl_X1_34 rfl rfl rfl rfl ?_
        refine rn_get 69 (.int (m1 19 8)) dX1_hold_66 fl_X1_49 rfl rfl rfl rfl ?_
        rw [s1]
        refine rn_put 72 dX1_hold_69 fp_X1_24 rfl rfl rfl rfl rfl ?_
        have hb2 : BH (wgh (some (p1, p2, p3)) (fvl g s t B F, z, F)) (mu_s (mu_s m1 21 7 (nI F)) 21 6 (nI (bqF g s t B F).1)) := by rw [ew]; exact ⟨by simp [mu_s, upd, fvl]; exact congrArg nI (by omega), by simp [mu_s, upd], by show 9999 - _ ≤ 9999; omega, hz, by show F < 65536; omega⟩
        have fh2 : FH mu (mu_s (mu_s m1 21 7 (nI F)) 21 6 (nI (bqF g s t B F).1)) := FH_tr fh1 ⟨fun c _ _ h5 => by simp [mu_s, h5], fun j hj => by simp [mu_s, upd, show j ≠ 6 by omega, show j ≠ 7 by omega]⟩
        have hg2 := xg_FH hg fh2
        have hch2 := CH_of hch fh2
        obtain ⟨k1_, k2_, k3_, k4_⟩ := id hch2
        generalize (mu_s (mu_s m1 21 7 (nI F)) 21 6 (nI (bqF g s t B F).1)) = m2 at hb2 fh2 hg2 hch2 k1_ k2_ k3_ k4_ ⊢
        show rn_R _ mX1_hold _ 72 [some (.ref 21), some (.int (nI F)), some (.int (nI z)), some (.int (nI (bqF g s t B F).2.2)), none] [] m2 h1 _
        have eg : hdL g s t B most (f + 1) F z = (F, z) :: (if most ≤ z then [] else hdE (bqF g s t B F).2.2 (fun e => hdL g s t B most f (F ||| 2 ^ e) (z + 1)) g.length 0) := rfl
        rw [eg]
        by_cases q9 : most ≤ z
        · skip
          rw [if_pos q9]
          refine rn_iload_n 73 dX1_hold_72 rfl rfl rfl ?_
          refine rn_aload_n 74 dX1_hold_73 rfl rfl rfl ?_
          refine rn_get 77 (.int (m2 21 5)) dX1_hold_74 fl_X1_21 rfl rfl rfl rfl ?_
          refine rn_icmp_ge 85 80 dX1_hold_77 (by decide) rfl (fun _ => ?_) (fun c77 => absurd (by rw [k4_]; exact nI_le q9 (by omega)) c77)
          exact rn_vret rfl dX1_hold_85 (⟨rfl, hb2, fh2⟩)
        · skip
          rw [if_neg q9]
          refine rn_iload_n 73 dX1_hold_72 rfl rfl rfl ?_
          refine rn_aload_n 74 dX1_hold_73 rfl rfl rfl ?_
          refine rn_get 77 (.int (m2 21 5)) dX1_hold_74 fl_X1_21 rfl rfl rfl rfl ?_
          refine rn_icmp_ge 85 80 dX1_hold_77 (by decide) rfl (fun c77 => absurd c77 (by rw [k4_]; exact nI_ge (by omega) (by omega))) (fun _ => ?_)
          refine rn_iload_n 81 dX1_hold_80 rfl rfl rfl ?_
          refine rn_iconst (v := 2) 82 dX1_hold_81 (by decide) rfl ?_
          refine rn_icmp_lt 86 85 dX1_hold_82 (by decide) rfl (fun _ => ?_) (fun c82 => absurd (nI_lt (b := 2) (by omega) (by omega)) c82)
          refine rn_iconst (v := 0) 87 dX1_hold_86 (by decide) rfl ?_
          refine rn_istore 89 [some (.ref 21), some (.int (nI F)), some (.int (nI z)), some (.int (nI (bqF g s t B F).2.2)), some (.int 0)] dX1_hold_87 rfl (Nat.le_of_ble_eq_true rfl) rfl ?_
          refine rn_mono (lp_hold (d + f + 21) (F := F) (z := z) (X := (bqF g s t B F).2.2) (rc := fun e => hdL g s t B most f (F ||| 2 ^ e) (z + 1)) (by omega) (fun e2 b2 mu2 h2 a1 a2 a3 a4 a5 => ih (F ||| 2 ^ e2) (z + 1) b2 mu2 h2 (by omega) (tb_add_lt hF a1) (by have hmo := mny_or (j1 e2 a2) 16; rw [if_pos (by omega)] at hmo; omega) a3 a4 a5) (mu0 := mu) g.length 0 _ m2 h1 (by omega) hg2 hch2 hb2 fh2) (fun r m9 h9 q => q)
      · skip
        have ec : ((bqF g s t B F).1 < 9999 - p1 ∨ ((bqF g s t B F).1 = 9999 - p1 ∧ (z < mny p3 16 ∨ (z = mny p3 16 ∧ F < p3)))) ↔ (p1 < fvl g s t B F ∨ (fvl g s t B F = p1 ∧ (z < p2 ∨ (z = p2 ∧ F < p3)))) := by unfold fvl; omega
        have ew : wgh (some (p1, p2, p3)) (fvl g s t B F, z, F) = some (p1, p2, p3) := if_neg (fun x => q1 (ec.mpr x))
        refine rn_aload_n 33 dX1_hold_32 rfl rfl rfl ?_
        refine rn_get 36 (.int (m1 21 7)) dX1_hold_33 fl_X1_27 rfl rfl rfl rfl ?_
        refine rn_iconst (v := (-1)) 37 dX1_hold_36 (by decide) rfl ?_
        refine rn_icmp_eq 56 40 dX1_hold_37 (by decide) rfl (fun c37 => absurd c37 (by rw [b2]; exact nI_m1 (by omega))) (fun _ => ?_)
        refine rn_aload_n 41 dX1_hold_40 rfl rfl rfl ?_
        refine rn_iload_n 42 dX1_hold_41 rfl rfl rfl ?_
        refine rn_iload_n 43 dX1_hold_42 rfl rfl rfl ?_
        refine rn_aload_n 44 dX1_hold_43 rfl rfl rfl ?_
        refine rn_get 47 (.ref 19) dX1_hold_44 fl_X1_34 rfl rfl rfl rfl ?_
        refine rn_get 50 (.int (m1 19 8)) dX1_hold_47 fl_X1_49 rfl rfl rfl rfl ?_
        rw [s1]
        refine rn_cvp mX1_isBetter [.int (nI F), .int (nI z), .int (nI (bqF g s t B F).1)] [] 53 (.int (if (bqF g s t B F).1 < 9999 - p1 ∨ ((bqF g s t B F).1 = 9999 - p1 ∧ (z < mny p3 16 ∨ (z = mny p3 16 ∧ F < p3))) then 1 else 0)) dX1_hold_50 cv_X1_50 rfl rfl rfl (by simp [Value.category]) rfl (c_isBetter (d + f + 20) h1 b1 b2 (by omega) (by omega) (by omega) (by omega) b5) ?_
        rw [if_neg q1]
        refine rn_if_eq 72 56 dX1_hold_53 (by decide) rfl (fun _ => ?_) (fun c53 => absurd (by decide) c53)
        have hb2 : BH (wgh (some (p1, p2, p3)) (fvl g s t B F, z, F)) m1 := by rw [ew]; exact hb1
        have fh2 : FH mu m1 := fh1
        have hg2 := xg_FH hg fh2
        have hch2 := CH_of hch fh2
        obtain ⟨k1_, k2_, k3_, k4_⟩ := id hch2
        have eg : hdL g s t B most (f + 1) F z = (F, z) :: (if most ≤ z then [] else hdE (bqF g s t B F).2.2 (fun e => hdL g s t B most f (F ||| 2 ^ e) (z + 1)) g.length 0) := rfl
        rw [eg]
        by_cases q9 : most ≤ z
        · skip
          rw [if_pos q9]
          refine rn_iload_n 73 dX1_hold_72 rfl rfl rfl ?_
          refine rn_aload_n 74 dX1_hold_73 rfl rfl rfl ?_
          refine rn_get 77 (.int (m1 21 5)) dX1_hold_74 fl_X1_21 rfl rfl rfl rfl ?_
          refine rn_icmp_ge 85 80 dX1_hold_77 (by decide) rfl (fun _ => ?_) (fun c77 => absurd (by rw [k4_]; exact nI_le q9 (by omega)) c77)
          exact rn_vret rfl dX1_hold_85 (⟨rfl, hb2, fh2⟩)
        · skip
          rw [if_neg q9]
          refine rn_iload_n 73 dX1_hold_72 rfl rfl rfl ?_
          refine rn_aload_n 74 dX1_hold_73 rfl rfl rfl ?_
          refine rn_get 77 (.int (m1 21 5)) dX1_hold_74 fl_X1_21 rfl rfl rfl rfl ?_
          refine rn_icmp_ge 85 80 dX1_hold_77 (by decide) rfl (fun c77 => absurd c77 (by rw [k4_]; exact nI_ge (by omega) (by omega))) (fun _ => ?_)
          refine rn_iload_n 81 dX1_hold_80 rfl rfl rfl ?_
          refine rn_iconst (v := 2) 82 dX1_hold_81 (by decide) rfl ?_
          refine rn_icmp_lt 86 85 dX1_hold_82 (by decide) rfl (fun _ => ?_) (fun c82 => absurd (nI_lt (b := 2) (by omega) (by omega)) c82)
          refine rn_iconst (v := 0) 87 dX1_hold_86 (by decide) rfl ?_
          refine rn_istore 89 [some (.ref 21), some (.int (nI F)), some (.int (nI z)), some (.int (nI (bqF g s t B F).2.2)), some (.int 0)] dX1_hold_87 rfl (Nat.le_of_ble_eq_true rfl) rfl ?_
          refine rn_mono (lp_hold (d + f + 21) (F := F) (z := z) (X := (bqF g s t B F).2.2) (rc := fun e => hdL g s t B most f (F ||| 2 ^ e) (z + 1)) (by omega) (fun e2 b2 mu2 h2 a1 a2 a3 a4 a5 => ih (F ||| 2 ^ e2) (z + 1) b2 mu2 h2 (by omega) (tb_add_lt hF a1) (by have hmo := mny_or (j1 e2 a2) 16; rw [if_pos (by omega)] at hmo; omega) a3 a4 a5) (mu0 := mu) g.length 0 _ m1 h1 (by omega) hg2 hch2 hb2 fh2) (fun r m9 h9 q => q)
