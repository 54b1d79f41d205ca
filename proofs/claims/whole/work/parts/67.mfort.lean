/-! BOTH SIDES: fortify -/
def fmI (g : List Ed) (s t B z : Nat) (b : Option Kx) : Nat → Option Kx
  | 0 => b
  | j + 1 => if mny j 16 = z then wgh (fmI g s t B z b j) (fvl g s t B j, z, j) else fmI g s t B z b j
def fmO (g : List Ed) (s t B : Nat) : Nat → Option Kx
  | 0 => none
  | z + 1 => fmI g s t B z (fmO g s t B z) (2 ^ g.length)
/-- what has been seen up to a size and a set -/
def fmP (g : List Ed) (s t B z j : Nat) (b : Option Kx) : Prop := (∀ q, b = some q → ∃ F, F < 2 ^ g.length ∧ (mny F 16 < z ∨ (mny F 16 = z ∧ F < j)) ∧ q = (fvl g s t B F, mny F 16, F)) ∧ ∀ F, F < 2 ^ g.length → (mny F 16 < z ∨ (mny F 16 = z ∧ F < j)) → ∃ q, b = some q ∧ KG q (fvl g s t B F, mny F 16, F)
theorem fmP_i {g : List Ed} {s t B z : Nat} {b : Option Kx} (h : fmP g s t B z 0 b) : ∀ j, j ≤ 2 ^ g.length → fmP g s t B z j (fmI g s t B z b j) := by
  intro j
  induction j with
  | zero => intro _; exact h
  | succ j ih =>
    intro hj
    obtain ⟨i1, i2⟩ := ih (by omega)
    by_cases c : mny j 16 = z
    · have e : fmI g s t B z b (j + 1) = wgh (fmI g s t B z b j) (fvl g s t B j, z, j) := if_pos c
      rw [e]
      cases hb : fmI g s t B z b j with
      | none =>
        refine ⟨fun q hq => ?_, fun F h1 h2 => ?_⟩
        · cases hq; exact ⟨j, by omega, Or.inr ⟨c, by omega⟩, by rw [c]⟩
        · by_cases w : F = j
          · subst w; exact ⟨_, rfl, by rw [c]; exact KG_rfl _⟩
          · obtain ⟨q, q1, -⟩ := i2 F h1 (by omega)
            rw [hb] at q1; cases q1
      | some p =>
        obtain ⟨r, r1, r2, r3, r4⟩ := wgh_some p (fvl g s t B j, z, j)
        rw [r1]
        refine ⟨fun q hq => ?_, fun F h1 h2 => ?_⟩
        · cases hq
          rcases r2 with w | w
          · obtain ⟨F, f1, f2, f3⟩ := i1 p hb
            exact ⟨F, f1, by omega, by rw [w]; exact f3⟩
          · exact ⟨j, by omega, Or.inr ⟨c, by omega⟩, by rw [c]; exact w⟩
        · by_cases w : F = j
          · subst w; exact ⟨_, rfl, by rw [c]; exact r4⟩
          · obtain ⟨q, q1, q2⟩ := i2 F h1 (by omega)
            rw [hb] at q1; cases q1
            exact ⟨_, rfl, KG_tr r3 q2⟩
    · have e : fmI g s t B z b (j + 1) = fmI g s t B z b j := if_neg c
      rw [e]
      refine ⟨fun q hq => ?_, fun F h1 h2 => ?_⟩
      · obtain ⟨F, f1, f2, f3⟩ := i1 q hq
        exact ⟨F, f1, by omega, f3⟩
      · by_cases w : F = j
        · subst w; exact i2 F h1 (by omega)
        · exact i2 F h1 (by omega)
theorem fmP_o {g : List Ed} {s t B : Nat} : ∀ z, fmP g s t B z 0 (fmO g s t B z) := by
  intro z
  induction z with
  | zero => exact ⟨fun q h => (by cases h), fun F h1 h2 => by omega⟩
  | succ z ih =>
    obtain ⟨i1, i2⟩ := fmP_i ih (2 ^ g.length) (Nat.le_refl _)
    refine ⟨fun q hq => ?_, fun F h1 h2 => ?_⟩
    · obtain ⟨F, f1, f2, f3⟩ := i1 q hq
      exact ⟨F, f1, by omega, f3⟩
    · exact i2 F h1 (by omega)
theorem fmO_bsf {g : List Ed} {s t B most : Nat} : ∃ q, fmO g s t B (most + 1) = some q ∧ bsf g s t B most q := by
  obtain ⟨i1, i2⟩ := fmP_o (g := g) (s := s) (t := t) (B := B) (most + 1)
  obtain ⟨q, q1, -⟩ := i2 0 (pw_pos _) (by rw [mny_0]; omega)
  refine ⟨q, q1, ?_, fun F h1 h2 => ?_⟩
  · obtain ⟨F, f1, f2, f3⟩ := i1 q q1
    exact ⟨F, f1, by omega, f3⟩
  · obtain ⟨p, p1, p2⟩ := i2 F h1 (by omega)
    rw [q1] at p1; cases p1
    exact p2
def fls (b : Option Kx) : Int32 := match b with
  | none => 10000
  | some q => nI (9999 - q.1)
def fch (b : Option Kx) : Int32 := match b with
  | none => 0
  | some q => nI q.2.2

set_option maxRecDepth 100000 in
set_option maxHeartbeats 2000000 in
theorem c_fseek (d : Nat) {g : List Ed} {s t B most : Nat} (hs : s < 8) (ht : t < 8) (hB : B ≤ 5) (hmost : most ≤ 2) {q : Kx} (hq : bsf g s t B most q) {mu : Nat → Nat → Int32} (h : Int64) (hg : xg g mu) : gd_G mX1_seek (d + 24) [.ref 21, .int (nI s), .int (nI t), .int (nI B), .int (nI most)] mu h (fun r mu' _ => r = some (.int (nI (9999 - q.1))) ∧ mu' 21 7 = nI q.2.2 ∧ ∀ c, (c < 9 ∨ 13 < c) → c ≠ 19 → c ≠ 21 → mu' c = mu c) := by
  refine gd_of rfl (Nat.le_of_ble_eq_true rfl) ?_
  show rn_R none mX1_seek (d + 24) 0 [some (.ref 21), some (.int (nI s)), some (.int (nI t)), some (.int (nI B)), some (.int (nI most))] [] mu h (fun r mu' _ => r = some (.int (nI (9999 - q.1))) ∧ mu' 21 7 = nI q.2.2 ∧ ∀ c, (c < 9 ∨ 13 < c) → c ≠ 19 → c ≠ 21 → mu' c = mu c)
  refine rn_aload_n 1 dX1_seek_0 rfl rfl rfl ?_
  refine rn_iload_n 2 dX1_seek_1 rfl rfl rfl ?_
  refine rn_put 5 dX1_seek_2 fp_X1_9 rfl rfl rfl rfl rfl ?_
  refine rn_aload_n 6 dX1_seek_5 rfl rfl rfl ?_
  refine rn_iload_n 7 dX1_seek_6 rfl rfl rfl ?_
  refine rn_put 10 dX1_seek_7 fp_X1_15 rfl rfl rfl rfl rfl ?_
  refine rn_aload_n 11 dX1_seek_10 rfl rfl rfl ?_
  refine rn_iload_n 12 dX1_seek_11 rfl rfl rfl ?_
  refine rn_put 15 dX1_seek_12 fp_X1_18 rfl rfl rfl rfl rfl ?_
  refine rn_aload_n 16 dX1_seek_15 rfl rfl rfl ?_
  refine rn_iload 18 dX1_seek_16 rfl rfl ?_
  refine rn_put 21 dX1_seek_18 fp_X1_21 rfl rfl rfl rfl rfl ?_
  refine rn_aload_n 22 dX1_seek_21 rfl rfl rfl ?_
  refine rn_iconst (v := (-1)) 23 dX1_seek_22 (by decide) rfl ?_
  refine rn_put 26 dX1_seek_23 fp_X1_27 rfl rfl rfl rfl rfl ?_
  refine rn_aload_n 27 dX1_seek_26 rfl rfl rfl ?_
  refine rn_iconst (v := 0) 28 dX1_seek_27 (by decide) rfl ?_
  refine rn_iconst (v := 0) 29 dX1_seek_28 (by decide) rfl ?_
  refine rn_callV mX1_hold [.int 0, .int 0] [] dX1_seek_29 cv_X1_38 rfl rfl rfl (by simp [Value.category]) (c_hold d hs ht hB hmost 2 0 0 none (mu_s (mu_s (mu_s (mu_s (mu_s mu 21 2 (nI s)) 21 3 (nI t)) 21 4 (nI B)) 21 5 (nI most)) 21 7 (-1)) h rfl (pw_pos _) (mny_0 16).symm (xg_of hg (by simp [mu_s]) (by simp [mu_s])) ⟨by simp [mu_s, upd], by simp [mu_s, upd], by simp [mu_s, upd], by simp [mu_s, upd]⟩ (by show mu_s _ _ _ _ 21 7 = -1; simp [mu_s, upd])) (fun r1 m1 h1 qq _ => ?_)
  obtain ⟨e1, sb1, fa1⟩ := qq
  subst e1
  rw [hold_best hg.2.1 hg.1 ht (by omega) hmost hq] at sb1
  obtain ⟨b1, b2, -⟩ := sb1
  show rn_R _ mX1_seek _ 32 [some (.ref 21), some (.int (nI s)), some (.int (nI t)), some (.int (nI B)), some (.int (nI most))] [] m1 h1 _
  refine rn_aload_n 33 dX1_seek_32 rfl rfl rfl ?_
  refine rn_get 36 (.int (m1 21 6)) dX1_seek_33 fl_X1_24 rfl rfl rfl rfl ?_
  exact rn_iret rfl dX1_seek_36 (⟨by rw [b1], b2, fun c h1 h2 h3 => by rw [fa1.1 c h1 h2 h3]; simp [mu_s, h3]⟩)

set_option maxRecDepth 100000 in
set_option maxHeartbeats 2000000 in
theorem x_for_b (d : Nat) {g : List Ed} {a : Nat} {hs : List Sg} {tx : List Nat} {f : Int32} {v1 v2 v3 v4 : Int32} (hv : ¬ ((isin v1 8 ∧ isin v2 8) ∧ isin v3 (3 + 1) ∧ isin v4 (2 + 1))) : XC mX8_fortify (d + 2) [.int v1, .int v2, .int v3, .int v4] (g, a, hs, tx, f) (g, a, hs, tx, f) (.int (-2)) := by
  intro mu h hs0
  obtain ⟨hg, ha, hh, ht, hf⟩ := id hs0
  simp only at hg ha hh ht hf
  refine gd_of rfl (Nat.le_of_ble_eq_true rfl) ?_
  show rn_R none mX8_fortify (d + 2) 0 [some (.ref 0), some (.int v1), some (.int v2), some (.int v3), some (.int v4), none] [] mu h (fun r mu' _ => r = some (.int (-2)) ∧ xS (g, a, hs, tx, f) mu' ∧ ∀ c, 22 ≤ c → mu' c = mu c)
  by_cases qq0 : isin v1 8 ∧ isin v2 8
  · skip
    by_cases qq1 : isin v3 (3 + 1)
    · skip
      have qq2 : ¬ (isin v4 (2 + 1)) := fun z => hv ⟨qq0, qq1, z⟩
      refine rn_iload_n 1 dX8_fortify_0 rfl rfl rfl ?_
      refine rn_iload_n 2 dX8_fortify_1 rfl rfl rfl ?_
      refine rn_csp mX8_areNodes [.int v1, .int v2] [] 5 (.int 1) dX8_fortify_2 cs_X8_75 rfl rfl (by simp [Value.category]) rfl (c_areNodes_t (d) mu h qq0.1 qq0.2) ?_
      refine rn_if_eq 25 8 dX8_fortify_5 (by decide) rfl (fun c5 => absurd c5 (by decide)) (fun _ => ?_)
      refine rn_iload_n 9 dX8_fortify_8 rfl rfl rfl ?_
      refine rn_iconst (v := 3) 10 dX8_fortify_9 (by decide) rfl ?_
      refine rn_csp mX8_isWithin [.int v3, .int 3] [] 13 (.int 1) dX8_fortify_10 cs_X8_164 rfl rfl (by simp [Value.category]) rfl (c_isWithin_i (d + 1) mu h (M := 3) qq1 (by omega)) ?_
      refine rn_if_eq 25 16 dX8_fortify_13 (by decide) rfl (fun c13 => absurd c13 (by decide)) (fun _ => ?_)
      refine rn_iload 18 dX8_fortify_16 rfl rfl ?_
      refine rn_iconst (v := 2) 19 dX8_fortify_18 (by decide) rfl ?_
      refine rn_csp mX8_isWithin [.int v4, .int 2] [] 22 (.int 0) dX8_fortify_19 cs_X8_164 rfl rfl (by simp [Value.category]) rfl (c_isWithin_f (d + 1) mu h v4 2 qq2 (by omega)) ?_
      refine rn_if_ne 28 25 dX8_fortify_22 (by decide) rfl (fun c22 => absurd (rfl) c22) (fun _ => ?_)
      refine rn_bipush (v := (-2)) 27 dX8_fortify_25 (by decide) rfl ?_
      exact rn_iret rfl dX8_fortify_27 (⟨rfl, hs0, fun _ _ => rfl⟩)
    · skip
      refine rn_iload_n 1 dX8_fortify_0 rfl rfl rfl ?_
      refine rn_iload_n 2 dX8_fortify_1 rfl rfl rfl ?_
      refine rn_csp mX8_areNodes [.int v1, .int v2] [] 5 (.int 1) dX8_fortify_2 cs_X8_75 rfl rfl (by simp [Value.category]) rfl (c_areNodes_t (d) mu h qq0.1 qq0.2) ?_
      refine rn_if_eq 25 8 dX8_fortify_5 (by decide) rfl (fun c5 => absurd c5 (by decide)) (fun _ => ?_)
      refine rn_iload_n 9 dX8_fortify_8 rfl rfl rfl ?_
      refine rn_iconst (v := 3) 10 dX8_fortify_9 (by decide) rfl ?_
      refine rn_csp mX8_isWithin [.int v3, .int 3] [] 13 (.int 0) dX8_fortify_10 cs_X8_164 rfl rfl (by simp [Value.category]) rfl (c_isWithin_f (d + 1) mu h v3 3 qq1 (by omega)) ?_
      refine rn_if_eq 25 16 dX8_fortify_13 (by decide) rfl (fun _ => ?_) (fun c13 => absurd (by decide) c13)
      refine rn_bipush (v := (-2)) 27 dX8_fortify_25 (by decide) rfl ?_
      exact rn_iret rfl dX8_fortify_27 (⟨rfl, hs0, fun _ _ => rfl⟩)
  · skip
    refine rn_iload_n 1 dX8_fortify_0 rfl rfl rfl ?_
    refine rn_iload_n 2 dX8_fortify_1 rfl rfl rfl ?_
    refine rn_csp mX8_areNodes [.int v1, .int v2] [] 5 (.int 0) dX8_fortify_2 cs_X8_75 rfl rfl (by simp [Value.category]) rfl (c_areNodes_f (d) mu h qq0) ?_
    refine rn_if_eq 25 8 dX8_fortify_5 (by decide) rfl (fun _ => ?_) (fun c5 => absurd (by decide) c5)
    refine rn_bipush (v := (-2)) 27 dX8_fortify_25 (by decide) rfl ?_
    exact rn_iret rfl dX8_fortify_27 (⟨rfl, hs0, fun _ _ => rfl⟩)

set_option maxRecDepth 100000 in
set_option maxHeartbeats 2000000 in
theorem x_for_t (d : Nat) {g : List Ed} {a : Nat} {hs : List Sg} {tx : List Nat} {f : Int32} {u v : Nat} (hu : u < 8) (hv : v < 8) {B r : Nat} (hB : B < 4) (hr : r < 3) {q : Kx} (hq : bsf g u v B r q) : XC mX8_fortify (d + 25) [.int (nI u), .int (nI v), .int (nI B), .int (nI r)] (g, a, hs, tx, f) (g, a, hs, tx, nI q.2.2) (.int (nI (9999 - q.1))) := by
  intro mu h hs0
  obtain ⟨hg, ha, hh, ht, hf⟩ := id hs0
  simp only at hg ha hh ht hf
  refine gd_of rfl (Nat.le_of_ble_eq_true rfl) ?_
  show rn_R none mX8_fortify (d + 25) 0 [some (.ref 0), some (.int (nI u)), some (.int (nI v)), some (.int (nI B)), some (.int (nI r)), none] [] mu h (fun r mu' _ => r = some (.int (nI (9999 - q.1))) ∧ xS (g, a, hs, tx, nI q.2.2) mu' ∧ ∀ c, 22 ≤ c → mu' c = mu c)
  refine rn_iload_n 1 dX8_fortify_0 rfl rfl rfl ?_
  refine rn_iload_n 2 dX8_fortify_1 rfl rfl rfl ?_
  refine rn_csp mX8_areNodes [.int (nI u), .int (nI v)] [] 5 (.int 1) dX8_fortify_2 cs_X8_75 rfl rfl (by simp [Value.category]) rfl (c_areNodes_t (d + 23) mu h ⟨u, hu, rfl⟩ ⟨v, hv, rfl⟩) ?_
  refine rn_if_eq 25 8 dX8_fortify_5 (by decide) rfl (fun c5 => absurd c5 (by decide)) (fun _ => ?_)
  refine rn_iload_n 9 dX8_fortify_8 rfl rfl rfl ?_
  refine rn_iconst (v := 3) 10 dX8_fortify_9 (by decide) rfl ?_
  refine rn_csp mX8_isWithin [.int (nI B), .int 3] [] 13 (.int 1) dX8_fortify_10 cs_X8_164 rfl rfl (by simp [Value.category]) rfl (c_isWithin_i (d + 24) mu h (M := 3) (⟨B, hB, rfl⟩) (by omega)) ?_
  refine rn_if_eq 25 16 dX8_fortify_13 (by decide) rfl (fun c13 => absurd c13 (by decide)) (fun _ => ?_)
  refine rn_iload 18 dX8_fortify_16 rfl rfl ?_
  refine rn_iconst (v := 2) 19 dX8_fortify_18 (by decide) rfl ?_
  refine rn_csp mX8_isWithin [.int (nI r), .int 2] [] 22 (.int 1) dX8_fortify_19 cs_X8_164 rfl rfl (by simp [Value.category]) rfl (c_isWithin_i (d + 24) mu h (M := 2) (⟨r, hr, rfl⟩) (by omega)) ?_
  refine rn_if_ne 28 25 dX8_fortify_22 (by decide) rfl (fun _ => ?_) (fun c22 => absurd c22 (by decide))
  refine rn_aload_n 29 dX8_fortify_28 rfl rfl rfl ?_
  refine rn_get 32 (.ref 21) dX8_fortify_29 fl_X8_67 rfl rfl rfl rfl ?_
  refine rn_iload_n 33 dX8_fortify_32 rfl rfl rfl ?_
  refine rn_iload_n 34 dX8_fortify_33 rfl rfl rfl ?_
  refine rn_iload_n 35 dX8_fortify_34 rfl rfl rfl ?_
  refine rn_iload 37 dX8_fortify_35 rfl rfl ?_
  refine rn_callV mX1_seek [.int (nI u), .int (nI v), .int (nI B), .int (nI r)] [] dX8_fortify_37 cv_X8_187 rfl rfl rfl (by simp [Value.category]) (c_fseek d (B := B) (most := r) hu hv (by omega) (by omega) hq h hg) (fun r1 m1 h1 qq _ => ?_)
  obtain ⟨e1, s3, f1⟩ := qq
  subst e1
  show rn_R _ mX8_fortify _ 40 [some (.ref 0), some (.int (nI u)), some (.int (nI v)), some (.int (nI B)), some (.int (nI r)), none] [.int (nI (9999 - q.1))] m1 h1 _
  refine rn_istore 42 [some (.ref 0), some (.int (nI u)), some (.int (nI v)), some (.int (nI B)), some (.int (nI r)), some (.int (nI (9999 - q.1)))] dX8_fortify_40 rfl (Nat.le_of_ble_eq_true rfl) rfl ?_
  refine rn_aload_n 43 dX8_fortify_42 rfl rfl rfl ?_
  refine rn_aload_n 44 dX8_fortify_43 rfl rfl rfl ?_
  refine rn_get 47 (.ref 21) dX8_fortify_44 fl_X8_67 rfl rfl rfl rfl ?_
  refine rn_get 50 (.int (m1 21 7)) dX8_fortify_47 fl_X8_189 rfl rfl rfl rfl ?_
  refine rn_put 53 dX8_fortify_50 fp_X8_71 rfl rfl rfl rfl rfl ?_
  refine rn_iload 55 dX8_fortify_53 rfl rfl ?_
  exact rn_iret rfl dX8_fortify_55 (⟨rfl, xS_fd hs0 (fun c h1 h2 => by simp [mu_s, show c ≠ 0 by omega]; exact f1 c (by omega) (by omega) (by omega)) (by simp [mu_s, upd, s3]), fun c hc => by simp [mu_s, show c ≠ 0 by omega]; exact f1 c (by omega) (by omega) (by omega)⟩)

theorem fls_le (b : Option Kx) : fls b ≤ 10000 := by
  cases b with
  | none => exact Int32.le_refl _
  | some q => exact nI_le (b := 10000) (by omega) (by omega)

set_option maxRecDepth 100000 in
set_option maxHeartbeats 2000000 in
theorem lp_fi (d : Nat) {g : List Ed} {s t B most : Nat} (hs : s < 8) (ht : t < 8) (hB : B ≤ 5) (hmost : most ≤ 2) {z : Nat} (hz : z ≤ 2) {mu0 : Nat → Nat → Int32} {h : Int64} {Q : rn_Q} (kk : ∀ mu2 : Nat → Nat → Int32, mg g mu2 → FB mu0 mu2 → rn_R none mX9_fortify (d + 6) 131 [some (.ref 22), some (.int (nI s)), some (.int (nI t)), some (.int (nI B)), some (.int (nI most)), some (.int (fls (fmI g s t B z (fmO g s t B z) (2 ^ g.length)))), some (.int (fch (fmI g s t B z (fmO g s t B z) (2 ^ g.length)))), some (.int (nI z)), some (.int (nI (2 ^ g.length))), none] [] mu2 h Q) : ∀ (k j : Nat) (mu : Nat → Nat → Int32), j + k = 2 ^ g.length → (mg g mu) → (FB mu0 mu) → rn_R none mX9_fortify (d + 6) 51 [some (.ref 22), some (.int (nI s)), some (.int (nI t)), some (.int (nI B)), some (.int (nI most)), some (.int (fls (fmI g s t B z (fmO g s t B z) j))), some (.int (fch (fmI g s t B z (fmO g s t B z) j))), some (.int (nI z)), some (.int (nI j)), none] [] mu h Q := by
  intro k
  induction k with
  | zero =>
    intro j mu hek hg hfb
    have h16 := hg.1
    have hp := pw_le hg.1
    obtain rfl : j = 2 ^ g.length := by omega
    refine rn_iload 53 dX9_fortify_51 rfl rfl ?_
    refine rn_iconst (v := 1) 54 dX9_fortify_53 (by decide) rfl ?_
    refine rn_aload_n 55 dX9_fortify_54 rfl rfl rfl ?_
    refine rn_get 58 (.ref 23) dX9_fortify_55 fl_X9_7 rfl rfl rfl rfl ?_
    refine rn_bipush (v := 80) 60 dX9_fortify_58 (by decide) rfl ?_
    refine rn_iald 61 (mu 23 80) dX9_fortify_60 rfl (vp_in_nI (n := 80) (by decide) (by decide)) rfl rfl ?_
    refine rn_ishl 62 dX9_fortify_61 rfl ?_
    rw [hg.2.2.1, nb_1 (by omega)]
    refine rn_icmp_ge 131 65 dX9_fortify_62 (by decide) rfl (fun _ => ?_) (fun c62 => absurd (nI_le (Nat.le_refl _) (by omega)) c62)
    exact kk mu hg hfb
  | succ k ih =>
    intro j mu hek hg hfb
    have h16 := hg.1
    have hp := pw_le hg.1
    have hlt : j < 2 ^ g.length := by omega
    have hP := fmP_i (fmP_o (g := g) (s := s) (t := t) (B := B) z) j (by omega)
    have hm16 := mny_le j 16
    by_cases q1 : mny j 16 = z
    · skip
      have em0 : fmI g s t B z (fmO g s t B z) (j + 1) = wgh (fmI g s t B z (fmO g s t B z) j) (fvl g s t B j, z, j) := if_pos q1
      have hq := bqF_ok (s := s) (B := B) hg.2.1 ht (by omega) j
      have j3 := (bq_djs (s := s) (B := B) hg.2.1 ht (by omega) j).2.2
      refine rn_iload 53 dX9_fortify_51 rfl rfl ?_
      refine rn_iconst (v := 1) 54 dX9_fortify_53 (by decide) rfl ?_
      refine rn_aload_n 55 dX9_fortify_54 rfl rfl rfl ?_
      refine rn_get 58 (.ref 23) dX9_fortify_55 fl_X9_7 rfl rfl rfl rfl ?_
      refine rn_bipush (v := 80) 60 dX9_fortify_58 (by decide) rfl ?_
      refine rn_iald 61 (mu 23 80) dX9_fortify_60 rfl (vp_in_nI (n := 80) (by decide) (by decide)) rfl rfl ?_
      refine rn_ishl 62 dX9_fortify_61 rfl ?_
      rw [hg.2.2.1, nb_1 (by omega)]
      refine rn_icmp_ge 131 65 dX9_fortify_62 (by decide) rfl (fun c62 => absurd c62 (nI_ge hlt (by omega))) (fun _ => ?_)
      refine rn_iload 67 dX9_fortify_65 rfl rfl ?_
      refine rn_csp mX9_many [.int (nI j)] [] 70 (.int (nI (mny j 16))) dX9_fortify_67 cs_X9_173 rfl rfl (by simp [Value.category]) rfl (c_many (d + 5) mu h (S := j) (by omega)) ?_
      refine rn_iload 72 dX9_fortify_70 rfl rfl ?_
      refine rn_icmp_ne 88 75 dX9_fortify_72 (by decide) rfl (fun c72 => absurd (congrArg nI q1) c72) (fun _ => ?_)
      refine rn_aload_n 76 dX9_fortify_75 rfl rfl rfl ?_
      refine rn_iload_n 77 dX9_fortify_76 rfl rfl rfl ?_
      refine rn_iload_n 78 dX9_fortify_77 rfl rfl rfl ?_
      refine rn_iload_n 79 dX9_fortify_78 rfl rfl rfl ?_
      refine rn_iload 81 dX9_fortify_79 rfl rfl ?_
      refine rn_iconst (v := 0) 82 dX9_fortify_81 (by decide) rfl ?_
      refine rn_callV mX9_bestFar [.int (nI s), .int (nI t), .int (nI B), .int (nI j), .int 0] [] dX9_fortify_82 cv_X9_166 rfl rfl rfl (by simp [Value.category]) (c_best d (B := B) (rep := 0) (F := j) hs ht (by omega) (by omega) (vA_9 hg.2.1 ht ▸ hq) h hg) (fun r1 m1 h1 qq _ => ?_)
      obtain ⟨e1, s1, k1, f1⟩ := qq
      rw [e1, k1]
      have hg1 : mg g m1 := mg_of hg (f1.1 23 (by omega) (by omega))
      show rn_R _ mX9_fortify _ 85 [some (.ref 22), some (.int (nI s)), some (.int (nI t)), some (.int (nI B)), some (.int (nI most)), some (.int (fls (fmI g s t B z (fmO g s t B z) j))), some (.int (fch (fmI g s t B z (fmO g s t B z) j))), some (.int (nI z)), some (.int (nI j)), none] [.int (nI (bqF g s t B j).1)] m1 h _
      refine rn_goto 91 dX9_fortify_85 (by decide) ?_
      refine rn_istore 93 [some (.ref 22), some (.int (nI s)), some (.int (nI t)), some (.int (nI B)), some (.int (nI most)), some (.int (fls (fmI g s t B z (fmO g s t B z) j))), some (.int (fch (fmI g s t B z (fmO g s t B z) j))), some (.int (nI z)), some (.int (nI j)), some (.int (nI (bqF g s t B j).1))] dX9_fortify_91 rfl (Nat.le_of_ble_eq_true rfl) rfl ?_
      cases hbj : fmI g s t B z (fmO g s t B z) j with
      | none =>
        show rn_R _ mX9_fortify _ 93 [some (.ref 22), some (.int (nI s)), some (.int (nI t)), some (.int (nI B)), some (.int (nI most)), some (.int 10000), some (.int 0), some (.int (nI z)), some (.int (nI j)), some (.int (nI (bqF g s t B j).1))] [] m1 h _
        refine rn_iload 95 dX9_fortify_93 rfl rfl ?_
        refine rn_iload 97 dX9_fortify_95 rfl rfl ?_
        refine rn_icmp_ge 105 100 dX9_fortify_97 (by decide) rfl (fun c97 => absurd c97 (nI_ge (b := 10000) (by omega) (by omega))) (fun _ => ?_)
        refine rn_iload 102 dX9_fortify_100 rfl rfl ?_
        refine rn_goto 107 dX9_fortify_102 (by decide) ?_
        refine rn_istore 109 [some (.ref 22), some (.int (nI s)), some (.int (nI t)), some (.int (nI B)), some (.int (nI most)), some (.int 10000), some (.int (nI j)), some (.int (nI z)), some (.int (nI j)), some (.int (nI (bqF g s t B j).1))] dX9_fortify_107 rfl (Nat.le_of_ble_eq_true rfl) rfl ?_
        refine rn_iload 111 dX9_fortify_109 rfl rfl ?_
        refine rn_iload 113 dX9_fortify_111 rfl rfl ?_
        refine rn_icmp_ge 121 116 dX9_fortify_113 (by decide) rfl (fun c113 => absurd c113 (nI_ge (b := 10000) (by omega) (by omega))) (fun _ => ?_)
        refine rn_iload 118 dX9_fortify_116 rfl rfl ?_
        refine rn_goto 123 dX9_fortify_118 (by decide) ?_
        refine rn_istore 125 [some (.ref 22), some (.int (nI s)), some (.int (nI t)), some (.int (nI B)), some (.int (nI most)), some (.int (nI (bqF g s t B j).1)), some (.int (nI j)), some (.int (nI z)), some (.int (nI j)), some (.int (nI (bqF g s t B j).1))] dX9_fortify_123 rfl (Nat.le_of_ble_eq_true rfl) rfl ?_
        refine rn_iinc (v := (nI (j + 1))) 128 [some (.ref 22), some (.int (nI s)), some (.int (nI t)), some (.int (nI B)), some (.int (nI most)), some (.int (nI (bqF g s t B j).1)), some (.int (nI j)), some (.int (nI z)), some (.int (nI (j + 1))), some (.int (nI (bqF g s t B j).1))] dX9_fortify_125 rfl (nI_1 _) rfl rfl ?_
        refine rn_goto 51 dX9_fortify_128 (by decide) ?_
        refine rn_drop 9 [some (.ref 22), some (.int (nI s)), some (.int (nI t)), some (.int (nI B)), some (.int (nI most)), some (.int (nI (bqF g s t B j).1)), some (.int (nI j)), some (.int (nI z)), some (.int (nI (j + 1))), none] rfl ?_
        have em : fmI g s t B z (fmO g s t B z) (j + 1) = some (fvl g s t B j, z, j) := by rw [em0, hbj]; exact rfl
        have z2 := ih (j + 1) m1 (by omega) hg1 (FB_tr hfb f1)
        rw [em] at z2
        have ev : 9999 - fvl g s t B j = (bqF g s t B j).1 := by unfold fvl; omega
        have e5 : fls (some (fvl g s t B j, z, j)) = nI (bqF g s t B j).1 := by show nI (9999 - fvl g s t B j) = _; rw [ev]
        rw [e5] at z2
        exact z2
      | some p =>
        obtain ⟨p1, p2, p3⟩ := p
        rw [hbj] at hP
        obtain ⟨F, g1, g2, g3⟩ := hP.1 _ rfl
        have e1_ : p1 = fvl g s t B F := congrArg Prod.fst g3
        have e2_ : p2 = mny F 16 := congrArg (fun q => q.2.1) g3
        have e3_ : p3 = F := congrArg (fun q => q.2.2) g3
        have hp1 : p1 ≤ 9999 := by rw [e1_]; unfold fvl; omega
        show rn_R _ mX9_fortify _ 93 [some (.ref 22), some (.int (nI s)), some (.int (nI t)), some (.int (nI B)), some (.int (nI most)), some (.int (nI (9999 - p1))), some (.int (nI p3)), some (.int (nI z)), some (.int (nI j)), some (.int (nI (bqF g s t B j).1))] [] m1 h _
        by_cases q2 : (bqF g s t B j).1 < 9999 - p1
        · skip
          refine rn_iload 95 dX9_fortify_93 rfl rfl ?_
          refine rn_iload 97 dX9_fortify_95 rfl rfl ?_
          refine rn_icmp_ge 105 100 dX9_fortify_97 (by decide) rfl (fun c97 => absurd c97 (nI_ge q2 (by omega))) (fun _ => ?_)
          refine rn_iload 102 dX9_fortify_100 rfl rfl ?_
          refine rn_goto 107 dX9_fortify_102 (by decide) ?_
          refine rn_istore 109 [some (.ref 22), some (.int (nI s)), some (.int (nI t)), some (.int (nI B)), some (.int (nI most)), some (.int (nI (9999 - p1))), some (.int (nI j)), some (.int (nI z)), some (.int (nI j)), some (.int (nI (bqF g s t B j).1))] dX9_fortify_107 rfl (Nat.le_of_ble_eq_true rfl) rfl ?_
          refine rn_iload 111 dX9_fortify_109 rfl rfl ?_
          refine rn_iload 113 dX9_fortify_111 rfl rfl ?_
          refine rn_icmp_ge 121 116 dX9_fortify_113 (by decide) rfl (fun c113 => absurd c113 (nI_ge q2 (by omega))) (fun _ => ?_)
          refine rn_iload 118 dX9_fortify_116 rfl rfl ?_
          refine rn_goto 123 dX9_fortify_118 (by decide) ?_
          refine rn_istore 125 [some (.ref 22), some (.int (nI s)), some (.int (nI t)), some (.int (nI B)), some (.int (nI most)), some (.int (nI (bqF g s t B j).1)), some (.int (nI j)), some (.int (nI z)), some (.int (nI j)), some (.int (nI (bqF g s t B j).1))] dX9_fortify_123 rfl (Nat.le_of_ble_eq_true rfl) rfl ?_
          refine rn_iinc (v := (nI (j + 1))) 128 [some (.ref 22), some (.int (nI s)), some (.int (nI t)), some (.int (nI B)), some (.int (nI most)), some (.int (nI (bqF g s t B j).1)), some (.int (nI j)), some (.int (nI z)), some (.int (nI (j + 1))), some (.int (nI (bqF g s t B j).1))] dX9_fortify_125 rfl (nI_1 _) rfl rfl ?_
          refine rn_goto 51 dX9_fortify_128 (by decide) ?_
          refine rn_drop 9 [some (.ref 22), some (.int (nI s)), some (.int (nI t)), some (.int (nI B)), some (.int (nI most)), some (.int (nI (bqF g s t B j).1)), some (.int (nI j)), some (.int (nI z)), some (.int (nI (j + 1))), none] rfl ?_
          have em : fmI g s t B z (fmO g s t B z) (j + 1) = some (fvl g s t B j, z, j) := by rw [em0, hbj]; exact if_pos (Or.inl (by show p1 < fvl g s t B j; unfold fvl; omega))
          have z2 := ih (j + 1) m1 (by omega) hg1 (FB_tr hfb f1)
          rw [em] at z2
          have ev : 9999 - fvl g s t B j = (bqF g s t B j).1 := by unfold fvl; omega
          have e5 : fls (some (fvl g s t B j, z, j)) = nI (bqF g s t B j).1 := by show nI (9999 - fvl g s t B j) = _; rw [ev]
          rw [e5] at z2
          exact z2
        · skip
          refine rn_iload 95 dX9_fortify_93 rfl rfl ?_
          refine rn_iload 97 dX9_fortify_95 rfl rfl ?_
          refine rn_icmp_ge 105 100 dX9_fortify_97 (by decide) rfl (fun _ => ?_) (fun c97 => absurd (nI_le (by omega) (by omega)) c97)
          refine rn_iload 107 dX9_fortify_105 rfl rfl ?_
          refine rn_istore 109 [some (.ref 22), some (.int (nI s)), some (.int (nI t)), some (.int (nI B)), some (.int (nI most)), some (.int (nI (9999 - p1))), some (.int (nI p3)), some (.int (nI z)), some (.int (nI j)), some (.int (nI (bqF g s t B j).1))] dX9_fortify_107 rfl (Nat.le_of_ble_eq_true rfl) rfl ?_
          refine rn_iload 111 dX9_fortify_109 rfl rfl ?_
          refine rn_iload 113 dX9_fortify_111 rfl rfl ?_
          refine rn_icmp_ge 121 116 dX9_fortify_113 (by decide) rfl (fun _ => ?_) (fun c113 => absurd (nI_le (by omega) (by omega)) c113)
          refine rn_iload 123 dX9_fortify_121 rfl rfl ?_
          refine rn_istore 125 [some (.ref 22), some (.int (nI s)), some (.int (nI t)), some (.int (nI B)), some (.int (nI most)), some (.int (nI (9999 - p1))), some (.int (nI p3)), some (.int (nI z)), some (.int (nI j)), some (.int (nI (bqF g s t B j).1))] dX9_fortify_123 rfl (Nat.le_of_ble_eq_true rfl) rfl ?_
          refine rn_iinc (v := (nI (j + 1))) 128 [some (.ref 22), some (.int (nI s)), some (.int (nI t)), some (.int (nI B)), some (.int (nI most)), some (.int (nI (9999 - p1))), some (.int (nI p3)), some (.int (nI z)), some (.int (nI (j + 1))), some (.int (nI (bqF g s t B j).1))] dX9_fortify_125 rfl (nI_1 _) rfl rfl ?_
          refine rn_goto 51 dX9_fortify_128 (by decide) ?_
          refine rn_drop 9 [some (.ref 22), some (.int (nI s)), some (.int (nI t)), some (.int (nI B)), some (.int (nI most)), some (.int (nI (9999 - p1))), some (.int (nI p3)), some (.int (nI z)), some (.int (nI (j + 1))), none] rfl ?_
          have em : fmI g s t B z (fmO g s t B z) (j + 1) = some (p1, p2, p3) := by rw [em0, hbj]; exact if_neg (fun x => by have x2 : p1 < fvl g s t B j ∨ (fvl g s t B j = p1 ∧ (z < p2 ∨ (z = p2 ∧ j < p3))) := x; unfold fvl at x2; omega)
          have z2 := ih (j + 1) m1 (by omega) hg1 (FB_tr hfb f1)
          rw [em] at z2
          skip
          have z3 := z2
          exact z3
    · skip
      have em : fmI g s t B z (fmO g s t B z) (j + 1) = fmI g s t B z (fmO g s t B z) j := if_neg q1
      refine rn_iload 53 dX9_fortify_51 rfl rfl ?_
      refine rn_iconst (v := 1) 54 dX9_fortify_53 (by decide) rfl ?_
      refine rn_aload_n 55 dX9_fortify_54 rfl rfl rfl ?_
      refine rn_get 58 (.ref 23) dX9_fortify_55 fl_X9_7 rfl rfl rfl rfl ?_
      refine rn_bipush (v := 80) 60 dX9_fortify_58 (by decide) rfl ?_
      refine rn_iald 61 (mu 23 80) dX9_fortify_60 rfl (vp_in_nI (n := 80) (by decide) (by decide)) rfl rfl ?_
      refine rn_ishl 62 dX9_fortify_61 rfl ?_
      rw [hg.2.2.1, nb_1 (by omega)]
      refine rn_icmp_ge 131 65 dX9_fortify_62 (by decide) rfl (fun c62 => absurd c62 (nI_ge hlt (by omega))) (fun _ => ?_)
      refine rn_iload 67 dX9_fortify_65 rfl rfl ?_
      refine rn_csp mX9_many [.int (nI j)] [] 70 (.int (nI (mny j 16))) dX9_fortify_67 cs_X9_173 rfl rfl (by simp [Value.category]) rfl (c_many (d + 5) mu h (S := j) (by omega)) ?_
      refine rn_iload 72 dX9_fortify_70 rfl rfl ?_
      refine rn_icmp_ne 88 75 dX9_fortify_72 (by decide) rfl (fun _ => ?_) (fun c72 => absurd c72 (fun x => q1 ((nI_eq (by omega) (by omega)).mp x)))
      refine rn_sipush (v := 10000) 91 dX9_fortify_88 (by decide) rfl ?_
      refine rn_istore 93 [some (.ref 22), some (.int (nI s)), some (.int (nI t)), some (.int (nI B)), some (.int (nI most)), some (.int (fls (fmI g s t B z (fmO g s t B z) j))), some (.int (fch (fmI g s t B z (fmO g s t B z) j))), some (.int (nI z)), some (.int (nI j)), some (.int 10000)] dX9_fortify_91 rfl (Nat.le_of_ble_eq_true rfl) rfl ?_
      have hle : fls (fmI g s t B z (fmO g s t B z) j) ≤ 10000 := fls_le _
      refine rn_iload 95 dX9_fortify_93 rfl rfl ?_
      refine rn_iload 97 dX9_fortify_95 rfl rfl ?_
      refine rn_icmp_ge 105 100 dX9_fortify_97 (by decide) rfl (fun _ => ?_) (fun c97 => absurd (hle) c97)
      refine rn_iload 107 dX9_fortify_105 rfl rfl ?_
      refine rn_istore 109 [some (.ref 22), some (.int (nI s)), some (.int (nI t)), some (.int (nI B)), some (.int (nI most)), some (.int (fls (fmI g s t B z (fmO g s t B z) j))), some (.int (fch (fmI g s t B z (fmO g s t B z) j))), some (.int (nI z)), some (.int (nI j)), some (.int 10000)] dX9_fortify_107 rfl (Nat.le_of_ble_eq_true rfl) rfl ?_
      refine rn_iload 111 dX9_fortify_109 rfl rfl ?_
      refine rn_iload 113 dX9_fortify_111 rfl rfl ?_
      refine rn_icmp_ge 121 116 dX9_fortify_113 (by decide) rfl (fun _ => ?_) (fun c113 => absurd (hle) c113)
      refine rn_iload 123 dX9_fortify_121 rfl rfl ?_
      refine rn_istore 125 [some (.ref 22), some (.int (nI s)), some (.int (nI t)), some (.int (nI B)), some (.int (nI most)), some (.int (fls (fmI g s t B z (fmO g s t B z) j))), some (.int (fch (fmI g s t B z (fmO g s t B z) j))), some (.int (nI z)), some (.int (nI j)), some (.int 10000)] dX9_fortify_123 rfl (Nat.le_of_ble_eq_true rfl) rfl ?_
      refine rn_iinc (v := (nI (j + 1))) 128 [some (.ref 22), some (.int (nI s)), some (.int (nI t)), some (.int (nI B)), some (.int (nI most)), some (.int (fls (fmI g s t B z (fmO g s t B z) j))), some (.int (fch (fmI g s t B z (fmO g s t B z) j))), some (.int (nI z)), some (.int (nI (j + 1))), some (.int 10000)] dX9_fortify_125 rfl (nI_1 _) rfl rfl ?_
      refine rn_goto 51 dX9_fortify_128 (by decide) ?_
      refine rn_drop 9 [some (.ref 22), some (.int (nI s)), some (.int (nI t)), some (.int (nI B)), some (.int (nI most)), some (.int (fls (fmI g s t B z (fmO g s t B z) j))), some (.int (fch (fmI g s t B z (fmO g s t B z) j))), some (.int (nI z)), some (.int (nI (j + 1))), none] rfl ?_
      have z2 := ih (j + 1) mu (by omega) hg hfb
      rw [em] at z2
      exact z2

set_option maxRecDepth 100000 in
set_option maxHeartbeats 2000000 in
theorem lp_fo (d : Nat) {g : List Ed} {s t B most : Nat} (hs : s < 8) (ht : t < 8) (hB : B ≤ 5) (hmost : most ≤ 2) {mu0 : Nat → Nat → Int32} {h : Int64} : ∀ (k z : Nat) (mu : Nat → Nat → Int32), z + k = most + 1 → (mg g mu) → (FB mu0 mu) → rn_R none mX9_fortify (d + 6) 41 [some (.ref 22), some (.int (nI s)), some (.int (nI t)), some (.int (nI B)), some (.int (nI most)), some (.int (fls (fmO g s t B z))), some (.int (fch (fmO g s t B z))), some (.int (nI z)), none, none] [] mu h (fun r mu' _ => r = some (.int (fls (fmO g s t B (most + 1)))) ∧ mu' 22 3 = fch (fmO g s t B (most + 1)) ∧ (∀ c, c ≠ 27 → c ≠ 22 → mu' c = mu0 c) ∧ ∀ j, j ≠ 17 → j ≠ 3 → mu' 22 j = mu0 22 j) := by
  intro k
  induction k with
  | zero =>
    intro z mu hek hg hfb
    obtain rfl : z = most + 1 := by omega
    refine rn_iload 43 dX9_fortify_41 rfl rfl ?_
    refine rn_iload 45 dX9_fortify_43 rfl rfl ?_
    refine rn_icmp_gt 137 48 dX9_fortify_45 (by decide) rfl (fun _ => ?_) (fun c45 => absurd (nI_lt (by omega) (by omega)) c45)
    refine rn_aload_n 138 dX9_fortify_137 rfl rfl rfl ?_
    refine rn_iload 140 dX9_fortify_138 rfl rfl ?_
    refine rn_put 143 dX9_fortify_140 fp_X9_16 rfl rfl rfl rfl rfl ?_
    refine rn_iload 145 dX9_fortify_143 rfl rfl ?_
    exact rn_iret rfl dX9_fortify_145 (⟨rfl, by simp [mu_s, upd], fun c h3 h4 => by simp [mu_s, h4]; exact hfb.1 c h3 h4, fun j h3 h4 => by simp [mu_s, upd, h4]; exact hfb.2 j h3⟩)
  | succ k ih =>
    intro z mu hek hg hfb
    refine rn_iload 43 dX9_fortify_41 rfl rfl ?_
    refine rn_iload 45 dX9_fortify_43 rfl rfl ?_
    refine rn_icmp_gt 137 48 dX9_fortify_45 (by decide) rfl (fun c45 => absurd c45 (nI_nlt (by omega) (by omega))) (fun _ => ?_)
    refine rn_iconst (v := 0) 49 dX9_fortify_48 (by decide) rfl ?_
    refine rn_istore 51 [some (.ref 22), some (.int (nI s)), some (.int (nI t)), some (.int (nI B)), some (.int (nI most)), some (.int (fls (fmO g s t B z))), some (.int (fch (fmO g s t B z))), some (.int (nI z)), some (.int 0), none] dX9_fortify_49 rfl (Nat.le_of_ble_eq_true rfl) rfl ?_
    refine lp_fi d hs ht hB hmost (z := z) (by omega) (mu0 := mu0) (fun m1 hg1 hfb1 => ?_) (2 ^ g.length) 0 mu (by omega) hg hfb
    show rn_R _ mX9_fortify _ 131 [some (.ref 22), some (.int (nI s)), some (.int (nI t)), some (.int (nI B)), some (.int (nI most)), some (.int (fls (fmO g s t B (z + 1)))), some (.int (fch (fmO g s t B (z + 1)))), some (.int (nI z)), some (.int (nI (2 ^ g.length))), none] [] m1 h _
    refine rn_iinc (v := (nI (z + 1))) 134 [some (.ref 22), some (.int (nI s)), some (.int (nI t)), some (.int (nI B)), some (.int (nI most)), some (.int (fls (fmO g s t B (z + 1)))), some (.int (fch (fmO g s t B (z + 1)))), some (.int (nI (z + 1))), some (.int (nI (2 ^ g.length))), none] dX9_fortify_131 rfl (nI_1 _) rfl rfl ?_
    refine rn_goto 41 dX9_fortify_134 (by decide) ?_
    refine rn_drop 8 [some (.ref 22), some (.int (nI s)), some (.int (nI t)), some (.int (nI B)), some (.int (nI most)), some (.int (fls (fmO g s t B (z + 1)))), some (.int (fch (fmO g s t B (z + 1)))), some (.int (nI (z + 1))), none, none] rfl ?_
    exact ih (z + 1) m1 (by omega) hg1 hfb1

set_option maxRecDepth 100000 in
set_option maxHeartbeats 2000000 in
theorem m_for_b (d : Nat) {g : List Ed} {a : Nat} {hs : List Sg} {tx : List Nat} {f : Int32} {v1 v2 v3 v4 : Int32} (hv : ¬ ((isin v1 8 ∧ isin v2 8) ∧ isin v3 (3 + 1) ∧ isin v4 (2 + 1))) : MC mX9_fortify (d + 2) [.int v1, .int v2, .int v3, .int v4] (g, a, hs, tx, f) (g, a, hs, tx, f) (.int (-2)) := by
  intro mu h hs0
  obtain ⟨hg, ha, hh, ht, hf⟩ := id hs0
  simp only at hg ha hh ht hf
  refine gd_of rfl (Nat.le_of_ble_eq_true rfl) ?_
  show rn_R none mX9_fortify (d + 2) 0 [some (.ref 22), some (.int v1), some (.int v2), some (.int v3), some (.int v4), none, none, none, none, none] [] mu h (fun r mu' _ => r = some (.int (-2)) ∧ mS (g, a, hs, tx, f) mu' ∧ ∀ c, c < 22 → mu' c = mu c)
  by_cases qq0 : isin v1 8 ∧ isin v2 8
  · skip
    by_cases qq1 : isin v3 (3 + 1)
    · skip
      have qq2 : ¬ (isin v4 (2 + 1)) := fun z => hv ⟨qq0, qq1, z⟩
      refine rn_iload_n 1 dX9_fortify_0 rfl rfl rfl ?_
      refine rn_iload_n 2 dX9_fortify_1 rfl rfl rfl ?_
      refine rn_csp mX9_areNodes [.int v1, .int v2] [] 5 (.int 1) dX9_fortify_2 cs_X9_53 rfl rfl (by simp [Value.category]) rfl (c_mareNodes_t (d) mu h qq0.1 qq0.2) ?_
      refine rn_if_eq 27 8 dX9_fortify_5 (by decide) rfl (fun c5 => absurd c5 (by decide)) (fun _ => ?_)
      refine rn_iload_n 9 dX9_fortify_8 rfl rfl rfl ?_
      refine rn_iconst (v := 0) 10 dX9_fortify_9 (by decide) rfl ?_
      refine rn_iconst (v := 3) 11 dX9_fortify_10 (by decide) rfl ?_
      refine rn_csp mX9_in [.int v3, .int 0, .int 3] [] 14 (.int 1) dX9_fortify_11 cs_X9_38 rfl rfl (by simp [Value.category]) rfl (c_in_i (d + 1) mu h (M := 3) qq1 (by omega)) ?_
      refine rn_if_eq 27 17 dX9_fortify_14 (by decide) rfl (fun c14 => absurd c14 (by decide)) (fun _ => ?_)
      refine rn_iload 19 dX9_fortify_17 rfl rfl ?_
      refine rn_iconst (v := 0) 20 dX9_fortify_19 (by decide) rfl ?_
      refine rn_iconst (v := 2) 21 dX9_fortify_20 (by decide) rfl ?_
      refine rn_csp mX9_in [.int v4, .int 0, .int 2] [] 24 (.int 0) dX9_fortify_21 cs_X9_38 rfl rfl (by simp [Value.category]) rfl (c_in_f (d + 1) mu h (nisin (n := 2) (by omega) qq2)) ?_
      refine rn_if_ne 30 27 dX9_fortify_24 (by decide) rfl (fun c24 => absurd (rfl) c24) (fun _ => ?_)
      refine rn_bipush (v := (-2)) 29 dX9_fortify_27 (by decide) rfl ?_
      exact rn_iret rfl dX9_fortify_29 (⟨rfl, hs0, fun _ _ => rfl⟩)
    · skip
      refine rn_iload_n 1 dX9_fortify_0 rfl rfl rfl ?_
      refine rn_iload_n 2 dX9_fortify_1 rfl rfl rfl ?_
      refine rn_csp mX9_areNodes [.int v1, .int v2] [] 5 (.int 1) dX9_fortify_2 cs_X9_53 rfl rfl (by simp [Value.category]) rfl (c_mareNodes_t (d) mu h qq0.1 qq0.2) ?_
      refine rn_if_eq 27 8 dX9_fortify_5 (by decide) rfl (fun c5 => absurd c5 (by decide)) (fun _ => ?_)
      refine rn_iload_n 9 dX9_fortify_8 rfl rfl rfl ?_
      refine rn_iconst (v := 0) 10 dX9_fortify_9 (by decide) rfl ?_
      refine rn_iconst (v := 3) 11 dX9_fortify_10 (by decide) rfl ?_
      refine rn_csp mX9_in [.int v3, .int 0, .int 3] [] 14 (.int 0) dX9_fortify_11 cs_X9_38 rfl rfl (by simp [Value.category]) rfl (c_in_f (d + 1) mu h (nisin (n := 3) (by omega) qq1)) ?_
      refine rn_if_eq 27 17 dX9_fortify_14 (by decide) rfl (fun _ => ?_) (fun c14 => absurd (by decide) c14)
      refine rn_bipush (v := (-2)) 29 dX9_fortify_27 (by decide) rfl ?_
      exact rn_iret rfl dX9_fortify_29 (⟨rfl, hs0, fun _ _ => rfl⟩)
  · skip
    refine rn_iload_n 1 dX9_fortify_0 rfl rfl rfl ?_
    refine rn_iload_n 2 dX9_fortify_1 rfl rfl rfl ?_
    refine rn_csp mX9_areNodes [.int v1, .int v2] [] 5 (.int 0) dX9_fortify_2 cs_X9_53 rfl rfl (by simp [Value.category]) rfl (c_mareNodes_f (d) mu h qq0) ?_
    refine rn_if_eq 27 8 dX9_fortify_5 (by decide) rfl (fun _ => ?_) (fun c5 => absurd (by decide) c5)
    refine rn_bipush (v := (-2)) 29 dX9_fortify_27 (by decide) rfl ?_
    exact rn_iret rfl dX9_fortify_29 (⟨rfl, hs0, fun _ _ => rfl⟩)

theorem bsf_u {g : List Ed} {s t B most : Nat} {p q : Kx} (hp : bsf g s t B most p) (hq : bsf g s t B most q) : p = q := by
  obtain ⟨⟨F, f1, f2, f3⟩, p2⟩ := hp
  obtain ⟨⟨R, r1, r2, r3⟩, q2⟩ := hq
  have a := p2 R r1 r2
  have b := q2 F f1 f2
  rw [← r3] at a
  rw [← f3] at b
  exact KG_eq a b

set_option maxRecDepth 100000 in
set_option maxHeartbeats 2000000 in
theorem m_for_t (d : Nat) {g : List Ed} {a : Nat} {hs : List Sg} {tx : List Nat} {f : Int32} {u v : Nat} (hu : u < 8) (hv : v < 8) {B r : Nat} (hB : B < 4) (hr : r < 3) {q : Kx} (hq : bsf g u v B r q) : MC mX9_fortify (d + 6) [.int (nI u), .int (nI v), .int (nI B), .int (nI r)] (g, a, hs, tx, f) (g, a, hs, tx, nI q.2.2) (.int (nI (9999 - q.1))) := by
  intro mu h hs0
  obtain ⟨hg, ha, hh, ht, hf⟩ := id hs0
  simp only at hg ha hh ht hf
  refine gd_of rfl (Nat.le_of_ble_eq_true rfl) ?_
  show rn_R none mX9_fortify (d + 6) 0 [some (.ref 22), some (.int (nI u)), some (.int (nI v)), some (.int (nI B)), some (.int (nI r)), none, none, none, none, none] [] mu h (fun r mu' _ => r = some (.int (nI (9999 - q.1))) ∧ mS (g, a, hs, tx, nI q.2.2) mu' ∧ ∀ c, c < 22 → mu' c = mu c)
  have hqo : fmO g u v B (r + 1) = some q := by
    obtain ⟨p, p1, p2⟩ := fmO_bsf (g := g) (s := u) (t := v) (B := B) (most := r)
    rw [p1, bsf_u p2 hq]
  refine rn_iload_n 1 dX9_fortify_0 rfl rfl rfl ?_
  refine rn_iload_n 2 dX9_fortify_1 rfl rfl rfl ?_
  refine rn_csp mX9_areNodes [.int (nI u), .int (nI v)] [] 5 (.int 1) dX9_fortify_2 cs_X9_53 rfl rfl (by simp [Value.category]) rfl (c_mareNodes_t (d + 4) mu h ⟨u, hu, rfl⟩ ⟨v, hv, rfl⟩) ?_
  refine rn_if_eq 27 8 dX9_fortify_5 (by decide) rfl (fun c5 => absurd c5 (by decide)) (fun _ => ?_)
  refine rn_iload_n 9 dX9_fortify_8 rfl rfl rfl ?_
  refine rn_iconst (v := 0) 10 dX9_fortify_9 (by decide) rfl ?_
  refine rn_iconst (v := 3) 11 dX9_fortify_10 (by decide) rfl ?_
  refine rn_csp mX9_in [.int (nI B), .int 0, .int 3] [] 14 (.int 1) dX9_fortify_11 cs_X9_38 rfl rfl (by simp [Value.category]) rfl (c_in_i (d + 5) mu h (M := 3) (⟨B, hB, rfl⟩) (by omega)) ?_
  refine rn_if_eq 27 17 dX9_fortify_14 (by decide) rfl (fun c14 => absurd c14 (by decide)) (fun _ => ?_)
  refine rn_iload 19 dX9_fortify_17 rfl rfl ?_
  refine rn_iconst (v := 0) 20 dX9_fortify_19 (by decide) rfl ?_
  refine rn_iconst (v := 2) 21 dX9_fortify_20 (by decide) rfl ?_
  refine rn_csp mX9_in [.int (nI r), .int 0, .int 2] [] 24 (.int 1) dX9_fortify_21 cs_X9_38 rfl rfl (by simp [Value.category]) rfl (c_in_i (d + 5) mu h (M := 2) (⟨r, hr, rfl⟩) (by omega)) ?_
  refine rn_if_ne 30 27 dX9_fortify_24 (by decide) rfl (fun _ => ?_) (fun c24 => absurd c24 (by decide))
  refine rn_sipush (v := 10000) 33 dX9_fortify_30 (by decide) rfl ?_
  refine rn_istore 35 [some (.ref 22), some (.int (nI u)), some (.int (nI v)), some (.int (nI B)), some (.int (nI r)), some (.int 10000), none, none, none, none] dX9_fortify_33 rfl (Nat.le_of_ble_eq_true rfl) rfl ?_
  refine rn_iconst (v := 0) 36 dX9_fortify_35 (by decide) rfl ?_
  refine rn_istore 38 [some (.ref 22), some (.int (nI u)), some (.int (nI v)), some (.int (nI B)), some (.int (nI r)), some (.int 10000), some (.int 0), none, none, none] dX9_fortify_36 rfl (Nat.le_of_ble_eq_true rfl) rfl ?_
  refine rn_iconst (v := 0) 39 dX9_fortify_38 (by decide) rfl ?_
  refine rn_istore 41 [some (.ref 22), some (.int (nI u)), some (.int (nI v)), some (.int (nI B)), some (.int (nI r)), some (.int 10000), some (.int 0), some (.int 0), none, none] dX9_fortify_39 rfl (Nat.le_of_ble_eq_true rfl) rfl ?_
  refine rn_mono (lp_fo d hu hv (B := B) (most := r) (by omega) (by omega) (mu0 := mu) (r + 1) 0 mu (by omega) hg (FB_rfl mu)) (fun r2 m2 h2 z => ?_)
  rw [hqo] at z
  exact ⟨z.1, mS_fd hs0 (fun c c1 c2 => z.2.2.1 c (by omega) (by omega)) (z.2.2.2 2 (by omega) (by omega)) (z.2.2.2 5 (by omega) (by omega)) z.2.1, fun c hc => z.2.2.1 c (by omega) (by omega)⟩

theorem op_fortify (v1 v2 v3 v4 : Int32) : OP mX8_fortify mX9_fortify [.int v1, .int v2, .int v3, .int v4] := by
  rintro ⟨g, a, hs, tx, f⟩
  by_cases hv : (isin v1 8 ∧ isin v2 8) ∧ isin v3 (3 + 1) ∧ isin v4 (2 + 1)
  · obtain ⟨⟨⟨u, hu, rfl⟩, v, hv, rfl⟩, ⟨B, hB, rfl⟩, r, hr, rfl⟩ := hv
    obtain ⟨q, -, hq⟩ := fmO_bsf (g := g) (s := u) (t := v) (B := B) (most := r)
    exact ⟨_, _, x_for_t 75 hu hv hB hr hq, m_for_t 94 hu hv hB hr hq⟩
  · exact ⟨_, _, x_for_b 98 hv, m_for_b 98 hv⟩
