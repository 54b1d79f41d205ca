/-! THE CLASS: AttackSearch -/
abbrev Kx : Type := Nat × Nat × Nat
def BB (b : Option Kx) (mu : Nat → Nat → Int32) : Prop := match b with
  | none => mu 19 8 = -1
  | some q => mu 19 8 = nI q.1 ∧ mu 19 9 = nI q.2.1 ∧ mu 19 10 = nI q.2.2 ∧ q.1 ≤ 9999 ∧ q.2.1 < 65536 ∧ q.2.2 < 65536
abbrev Sta : Type := Option Kx × Nat
def SBm (m : Bool) (st : Sta) (mu : Nat → Nat → Int32) : Prop := if m then mu 19 11 = nI st.2 ∧ st.2 < 65536 else BB st.1 mu
def stp (g : List Ed) (s t rep aim : Nat) (m : Bool) (st : Sta) (p : Nat × Nat) : Sta := if m then (st.1, mkF g s t p.1 st.2) else (wgh st.1 (vA g s t rep aim p.1, p.2, p.1), st.2)
def CFx (s t B rep aim : Nat) (m : Bool) (mu : Nat → Nat → Int32) : Prop := mu 19 2 = nI s ∧ mu 19 3 = nI t ∧ mu 19 4 = nI B ∧ mu 19 5 = nI rep ∧ mu 19 6 = nI aim ∧ mu 19 7 = bi m
def FA (mu0 mu : Nat → Nat → Int32) : Prop := (∀ c, (c < 9 ∨ 13 < c) → c ≠ 19 → mu c = mu0 c) ∧ ∀ j, j < 8 → mu 19 j = mu0 19 j
theorem FA_rfl (mu : Nat → Nat → Int32) : FA mu mu := ⟨fun _ _ _ => rfl, fun _ _ => rfl⟩
theorem FA_tr {a b c : Nat → Nat → Int32} (h1 : FA a b) (h2 : FA b c) : FA a c := ⟨fun x h3 h4 => (h2.1 x h3 h4).trans (h1.1 x h3 h4), fun j hj => (h2.2 j hj).trans (h1.2 j hj)⟩
theorem FA_run {a b : Nat → Nat → Int32} (h : ∀ c, (c < 9 ∨ 13 < c) → b c = a c) : FA a b := ⟨fun x h3 _ => h x h3, fun j _ => by rw [h 19 (by omega)]⟩
theorem CFx_of {s t B rep aim : Nat} {m : Bool} {a b : Nat → Nat → Int32} (h : CFx s t B rep aim m a) (f : FA a b) : CFx s t B rep aim m b := by
  obtain ⟨h1, h2, h3, h4, h5, h6⟩ := h
  exact ⟨by rw [f.2 2 (by omega)]; exact h1, by rw [f.2 3 (by omega)]; exact h2, by rw [f.2 4 (by omega)]; exact h3, by rw [f.2 5 (by omega)]; exact h4, by rw [f.2 6 (by omega)]; exact h5, by rw [f.2 7 (by omega)]; exact h6⟩
theorem xg_FA {g : List Ed} {a b : Nat → Nat → Int32} (h : xg g a) (f : FA a b) : xg g b := xg_of h (by rw [f.1 1 (by omega) (by omega)]) (f.1 2 (by omega) (by omega))
theorem SBm_19 {m : Bool} {st : Sta} {a b : Nat → Nat → Int32} (h : SBm m st a) (e : b 19 = a 19) : SBm m st b := by
  unfold SBm at h ⊢
  unfold BB at h ⊢
  rw [e]
  exact h
theorem ng1 {v : Nat} (h : v < 2 ^ 31) : (-1 : Int32) < nI v := Int32.lt_of_lt_of_le (by decide) (nI_pos' h)

theorem rn_min {X : Option (Nat × (Nat → Int32))} {y : ym_T} {d pc : Nat} {L : List (Option Value)} {S : List Value} {mu : Nat → Nat → Int32} {h : Int64} {Q : rn_Q} (n' : Nat) {x z : Int32} {idx : Nat} (hd : decode y.2.1 pc = .ok (.invokestatic idx, 3)) (hc : cs_ok y.1.cls idx mJ9_min_7cf53 2) (hcat : (S.map fun v => v.category).sum ≤ 8) (hp : pc + 3 = n') (k : rn_R X y (d + 1) n' L (.int (if z < x then z else x) :: S) mu h Q) : rn_R X y (d + 1) pc L (.int z :: .int x :: S) mu h Q := by
  subst hp
  have hl0 : Cond.methodLink y.1.cls idx Lib.Math.min.name ∈ ly_G := by
    rcases hc.1 with c2 | ⟨host, c2⟩
    · exact c2
    · cases c2
  intro p l e R s m args below meth c cells slots dC dI ad ca A Qt E F H locs ls hst hl hlen
  have hk := k p l e R s m args below meth c cells slots dC dI ad ca A Qt E F H locs ls hst hl hlen
  obtain ⟨hx, hb, hml, hlk, hown, hts, hU, ⟨hR1, hR2, hR3, hR4⟩, hA, hX⟩ := E
  have a1 : Cond.static Lib.Math.min.name ∈ ly_G := cw_J9_min_7cf53.1
  have a2 : Cond.initialized "java/lang/Math" ∈ ly_G := cw_J9_min_7cf53.2
  have a3 : Cond.code Lib.Math.min.name Lib.Math.min.code 2 (some .int) ∈ ly_G := cd_J9_min_7cf53
  have hRf : (rm_d d).frames + 1 ≤ R.frames := hR1
  have hcat2 := hcat
  rw [← tv_catsum ad] at hcat2
  have hRl : 40 * (d + 1) ≤ R.locals := hR2
  exact va_mmin (cc := y.2.1) hx hb (by rw [hml, ← hlen, hl.1]) hown (hts _ hl0) (hts _ a1) (hts _ a2) (hts _ a3) (by omega) (by omega) hR3 hR4 hd hk
theorem min_nI {a b : Nat} (ha : a < 2 ^ 31) (hb : b < 2 ^ 31) : (if nI b < nI a then nI b else nI a) = nI (min a b) := by
  by_cases q : b < a
  · rw [if_pos (nI_lt q ha), Nat.min_eq_right (by omega)]
  · rw [if_neg (nI_nlt (by omega) hb), Nat.min_eq_left (by omega)]

set_option maxRecDepth 100000 in
set_option maxHeartbeats 2000000 in
theorem c_cheaper (d : Nat) {mu : Nat → Nat → Int32} (h : Int64) {S c p T : Nat} (hp : mu 19 9 = nI p) (hT : mu 19 10 = nI T) (h1 : S < 2 ^ 31) (h2 : c < 2 ^ 31) (h3 : p < 2 ^ 31) (h4 : T < 2 ^ 31) : gd_G mX0_isCheaper d [.ref 19, .int (nI S), .int (nI c)] mu h (pq (some (.int (if c < p ∨ (c = p ∧ S < T) then 1 else 0))) mu h) := by
  refine gd_of rfl (Nat.le_of_ble_eq_true rfl) ?_
  show rn_R none mX0_isCheaper d 0 [some (.ref 19), some (.int (nI S)), some (.int (nI c))] [] mu h (pq (some (.int (if c < p ∨ (c = p ∧ S < T) then 1 else 0))) mu h)
  by_cases q1 : c < p
  · skip
    refine rn_iload_n 1 dX0_isCheaper_0 rfl rfl rfl ?_
    refine rn_aload_n 2 dX0_isCheaper_1 rfl rfl rfl ?_
    refine rn_get 5 (.int (mu 19 9)) dX0_isCheaper_2 fl_X0_34 rfl rfl rfl rfl ?_
    refine rn_icmp_lt 24 8 dX0_isCheaper_5 (by decide) rfl (fun _ => ?_) (fun c5 => absurd (by rw [hp]; exact nI_lt q1 h3) c5)
    refine rn_iconst (v := 1) 25 dX0_isCheaper_24 (by decide) rfl ?_
    refine rn_goto 29 dX0_isCheaper_25 (by decide) ?_
    exact rn_zret rfl dX0_isCheaper_29 rfl (⟨by rw [if_pos (Or.inl q1)], rfl, rfl⟩)
  · skip
    by_cases q2 : c = p
    · skip
      by_cases q3 : S < T
      · skip
        refine rn_iload_n 1 dX0_isCheaper_0 rfl rfl rfl ?_
        refine rn_aload_n 2 dX0_isCheaper_1 rfl rfl rfl ?_
        refine rn_get 5 (.int (mu 19 9)) dX0_isCheaper_2 fl_X0_34 rfl rfl rfl rfl ?_
        refine rn_icmp_lt 24 8 dX0_isCheaper_5 (by decide) rfl (fun c5 => absurd c5 (by rw [hp]; exact nI_nlt (by omega) (by omega))) (fun _ => ?_)
        refine rn_iload_n 9 dX0_isCheaper_8 rfl rfl rfl ?_
        refine rn_aload_n 10 dX0_isCheaper_9 rfl rfl rfl ?_
        refine rn_get 13 (.int (mu 19 9)) dX0_isCheaper_10 fl_X0_34 rfl rfl rfl rfl ?_
        refine rn_icmp_ne 28 16 dX0_isCheaper_13 (by decide) rfl (fun c13 => absurd (by rw [hp, q2]) c13) (fun _ => ?_)
        refine rn_iload_n 17 dX0_isCheaper_16 rfl rfl rfl ?_
        refine rn_aload_n 18 dX0_isCheaper_17 rfl rfl rfl ?_
        refine rn_get 21 (.int (mu 19 10)) dX0_isCheaper_18 fl_X0_37 rfl rfl rfl rfl ?_
        refine rn_icmp_ge 28 24 dX0_isCheaper_21 (by decide) rfl (fun c21 => absurd c21 (by rw [hT]; exact nI_ge q3 h4)) (fun _ => ?_)
        refine rn_iconst (v := 1) 25 dX0_isCheaper_24 (by decide) rfl ?_
        refine rn_goto 29 dX0_isCheaper_25 (by decide) ?_
        exact rn_zret rfl dX0_isCheaper_29 rfl (⟨by rw [if_pos (Or.inr ⟨q2, q3⟩)], rfl, rfl⟩)
      · skip
        refine rn_iload_n 1 dX0_isCheaper_0 rfl rfl rfl ?_
        refine rn_aload_n 2 dX0_isCheaper_1 rfl rfl rfl ?_
        refine rn_get 5 (.int (mu 19 9)) dX0_isCheaper_2 fl_X0_34 rfl rfl rfl rfl ?_
        refine rn_icmp_lt 24 8 dX0_isCheaper_5 (by decide) rfl (fun c5 => absurd c5 (by rw [hp]; exact nI_nlt (by omega) (by omega))) (fun _ => ?_)
        refine rn_iload_n 9 dX0_isCheaper_8 rfl rfl rfl ?_
        refine rn_aload_n 10 dX0_isCheaper_9 rfl rfl rfl ?_
        refine rn_get 13 (.int (mu 19 9)) dX0_isCheaper_10 fl_X0_34 rfl rfl rfl rfl ?_
        refine rn_icmp_ne 28 16 dX0_isCheaper_13 (by decide) rfl (fun c13 => absurd (by rw [hp, q2]) c13) (fun _ => ?_)
        refine rn_iload_n 17 dX0_isCheaper_16 rfl rfl rfl ?_
        refine rn_aload_n 18 dX0_isCheaper_17 rfl rfl rfl ?_
        refine rn_get 21 (.int (mu 19 10)) dX0_isCheaper_18 fl_X0_37 rfl rfl rfl rfl ?_
        refine rn_icmp_ge 28 24 dX0_isCheaper_21 (by decide) rfl (fun _ => ?_) (fun c21 => absurd (by rw [hT]; exact nI_le (by omega) (by omega)) c21)
        refine rn_iconst (v := 0) 29 dX0_isCheaper_28 (by decide) rfl ?_
        exact rn_zret rfl dX0_isCheaper_29 rfl (⟨by rw [if_neg (by omega)], rfl, rfl⟩)
    · skip
      refine rn_iload_n 1 dX0_isCheaper_0 rfl rfl rfl ?_
      refine rn_aload_n 2 dX0_isCheaper_1 rfl rfl rfl ?_
      refine rn_get 5 (.int (mu 19 9)) dX0_isCheaper_2 fl_X0_34 rfl rfl rfl rfl ?_
      refine rn_icmp_lt 24 8 dX0_isCheaper_5 (by decide) rfl (fun c5 => absurd c5 (by rw [hp]; exact nI_nlt (by omega) (by omega))) (fun _ => ?_)
      refine rn_iload_n 9 dX0_isCheaper_8 rfl rfl rfl ?_
      refine rn_aload_n 10 dX0_isCheaper_9 rfl rfl rfl ?_
      refine rn_get 13 (.int (mu 19 9)) dX0_isCheaper_10 fl_X0_34 rfl rfl rfl rfl ?_
      refine rn_icmp_ne 28 16 dX0_isCheaper_13 (by decide) rfl (fun _ => ?_) (fun c13 => absurd c13 (by rw [hp]; exact fun z => q2 ((nI_eq h2 h3).mp z)))
      refine rn_iconst (v := 0) 29 dX0_isCheaper_28 (by decide) rfl ?_
      exact rn_zret rfl dX0_isCheaper_29 rfl (⟨by rw [if_neg (by omega)], rfl, rfl⟩)

set_option maxRecDepth 100000 in
set_option maxHeartbeats 2000000 in
theorem c_weigh (d : Nat) {mu : Nat → Nat → Int32} (h : Int64) {S c D aim : Nat} {b : Option Kx} (hb : BB b mu) (ha : mu 19 6 = nI aim) (h1 : S < 65536) (h2 : c < 65536) (h3 : D ≤ 9999) (h4 : aim ≤ 9999) : gd_G mX0_weigh (d + 1) [.ref 19, .int (nI S), .int (nI c), .int (nI D)] mu h (fun r mu' _ => r = none ∧ BB (wgh b (min D aim, c, S)) mu' ∧ FA mu mu') := by
  refine gd_of rfl (Nat.le_of_ble_eq_true rfl) ?_
  show rn_R none mX0_weigh (d + 1) 0 [some (.ref 19), some (.int (nI S)), some (.int (nI c)), some (.int (nI D)), none] [] mu h (fun r mu' _ => r = none ∧ BB (wgh b (min D aim, c, S)) mu' ∧ FA mu mu')
  have hv : min D aim < 2 ^ 31 := by omega
  cases b with
  | none =>
    have hb8 : mu 19 8 = -1 := hb
    refine rn_iload_n 1 dX0_weigh_0 rfl rfl rfl ?_
    refine rn_aload_n 2 dX0_weigh_1 rfl rfl rfl ?_
    refine rn_get 5 (.int (mu 19 6)) dX0_weigh_2 fl_X0_24 rfl rfl rfl rfl ?_
    rw [ha]
    refine rn_min 8 dX0_weigh_5 cs_X0_83 (by simp [Value.category]) rfl ?_
    rw [min_nI (a := D) (b := aim) (by omega) (by omega)]
    refine rn_istore 10 [some (.ref 19), some (.int (nI S)), some (.int (nI c)), some (.int (nI D)), some (.int (nI (min D aim)))] dX0_weigh_8 rfl (Nat.le_of_ble_eq_true rfl) rfl ?_
    refine rn_iload 12 dX0_weigh_10 rfl rfl ?_
    refine rn_aload_n 13 dX0_weigh_12 rfl rfl rfl ?_
    refine rn_get 16 (.int (mu 19 8)) dX0_weigh_13 fl_X0_31 rfl rfl rfl rfl ?_
    refine rn_icmp_gt 37 19 dX0_weigh_16 (by decide) rfl (fun _ => ?_) (fun c16 => absurd (by rw [hb8]; exact ng1 hv) c16)
    refine rn_aload_n 38 dX0_weigh_37 rfl rfl rfl ?_
    refine rn_iload 40 dX0_weigh_38 rfl rfl ?_
    refine rn_put 43 dX0_weigh_40 fp_X0_31 rfl rfl rfl rfl rfl ?_
    refine rn_aload_n 44 dX0_weigh_43 rfl rfl rfl ?_
    refine rn_iload_n 45 dX0_weigh_44 rfl rfl rfl ?_
    refine rn_put 48 dX0_weigh_45 fp_X0_34 rfl rfl rfl rfl rfl ?_
    refine rn_aload_n 49 dX0_weigh_48 rfl rfl rfl ?_
    refine rn_iload_n 50 dX0_weigh_49 rfl rfl rfl ?_
    refine rn_put 53 dX0_weigh_50 fp_X0_37 rfl rfl rfl rfl rfl ?_
    exact rn_vret rfl dX0_weigh_53 (⟨rfl, by rw [show wgh none (min D aim, c, S) = some (min D aim, c, S) from rfl]; exact ⟨by simp [mu_s, upd], by simp [mu_s, upd], by simp [mu_s, upd], by omega, h2, h1⟩, fun x _ hx => by simp [mu_s, hx], fun j hj => by simp [mu_s, upd, show j ≠ 8 by omega, show j ≠ 9 by omega, show j ≠ 10 by omega]⟩)
  | some q =>
    obtain ⟨p1, p2, p3⟩ := q
    obtain ⟨b1, b2, b3, b4, b5, b6⟩ := id hb
    simp only at b1 b2 b3 b4 b5 b6
    by_cases q1 : p1 < min D aim
    · skip
      refine rn_iload_n 1 dX0_weigh_0 rfl rfl rfl ?_
      refine rn_aload_n 2 dX0_weigh_1 rfl rfl rfl ?_
      refine rn_get 5 (.int (mu 19 6)) dX0_weigh_2 fl_X0_24 rfl rfl rfl rfl ?_
      rw [ha]
      refine rn_min 8 dX0_weigh_5 cs_X0_83 (by simp [Value.category]) rfl ?_
      rw [min_nI (a := D) (b := aim) (by omega) (by omega)]
      refine rn_istore 10 [some (.ref 19), some (.int (nI S)), some (.int (nI c)), some (.int (nI D)), some (.int (nI (min D aim)))] dX0_weigh_8 rfl (Nat.le_of_ble_eq_true rfl) rfl ?_
      refine rn_iload 12 dX0_weigh_10 rfl rfl ?_
      refine rn_aload_n 13 dX0_weigh_12 rfl rfl rfl ?_
      refine rn_get 16 (.int (mu 19 8)) dX0_weigh_13 fl_X0_31 rfl rfl rfl rfl ?_
      refine rn_icmp_gt 37 19 dX0_weigh_16 (by decide) rfl (fun _ => ?_) (fun c16 => absurd (by rw [b1]; exact nI_lt q1 hv) c16)
      refine rn_aload_n 38 dX0_weigh_37 rfl rfl rfl ?_
      refine rn_iload 40 dX0_weigh_38 rfl rfl ?_
      refine rn_put 43 dX0_weigh_40 fp_X0_31 rfl rfl rfl rfl rfl ?_
      refine rn_aload_n 44 dX0_weigh_43 rfl rfl rfl ?_
      refine rn_iload_n 45 dX0_weigh_44 rfl rfl rfl ?_
      refine rn_put 48 dX0_weigh_45 fp_X0_34 rfl rfl rfl rfl rfl ?_
      refine rn_aload_n 49 dX0_weigh_48 rfl rfl rfl ?_
      refine rn_iload_n 50 dX0_weigh_49 rfl rfl rfl ?_
      refine rn_put 53 dX0_weigh_50 fp_X0_37 rfl rfl rfl rfl rfl ?_
      exact rn_vret rfl dX0_weigh_53 (⟨rfl, by rw [show wgh (some (p1, p2, p3)) (min D aim, c, S) = some (min D aim, c, S) from if_pos (Or.inl q1)]; exact ⟨by simp [mu_s, upd], by simp [mu_s, upd], by simp [mu_s, upd], by omega, h2, h1⟩, fun x _ hx => by simp [mu_s, hx], fun j hj => by simp [mu_s, upd, show j ≠ 8 by omega, show j ≠ 9 by omega, show j ≠ 10 by omega]⟩)
    · skip
      by_cases q2 : min D aim = p1
      · skip
        by_cases q3 : c < p2 ∨ (c = p2 ∧ S < p3)
        · skip
          refine rn_iload_n 1 dX0_weigh_0 rfl rfl rfl ?_
          refine rn_aload_n 2 dX0_weigh_1 rfl rfl rfl ?_
          refine rn_get 5 (.int (mu 19 6)) dX0_weigh_2 fl_X0_24 rfl rfl rfl rfl ?_
          rw [ha]
          refine rn_min 8 dX0_weigh_5 cs_X0_83 (by simp [Value.category]) rfl ?_
          rw [min_nI (a := D) (b := aim) (by omega) (by omega)]
          refine rn_istore 10 [some (.ref 19), some (.int (nI S)), some (.int (nI c)), some (.int (nI D)), some (.int (nI (min D aim)))] dX0_weigh_8 rfl (Nat.le_of_ble_eq_true rfl) rfl ?_
          refine rn_iload 12 dX0_weigh_10 rfl rfl ?_
          refine rn_aload_n 13 dX0_weigh_12 rfl rfl rfl ?_
          refine rn_get 16 (.int (mu 19 8)) dX0_weigh_13 fl_X0_31 rfl rfl rfl rfl ?_
          refine rn_icmp_gt 37 19 dX0_weigh_16 (by decide) rfl (fun c16 => absurd c16 (by rw [b1]; exact nI_nlt (by omega) (by omega))) (fun _ => ?_)
          refine rn_iload 21 dX0_weigh_19 rfl rfl ?_
          refine rn_aload_n 22 dX0_weigh_21 rfl rfl rfl ?_
          refine rn_get 25 (.int (mu 19 8)) dX0_weigh_22 fl_X0_31 rfl rfl rfl rfl ?_
          refine rn_icmp_ne 53 28 dX0_weigh_25 (by decide) rfl (fun c25 => absurd (by rw [b1, q2]) c25) (fun _ => ?_)
          refine rn_aload_n 29 dX0_weigh_28 rfl rfl rfl ?_
          refine rn_iload_n 30 dX0_weigh_29 rfl rfl rfl ?_
          refine rn_iload_n 31 dX0_weigh_30 rfl rfl rfl ?_
          refine rn_cvp mX0_isCheaper [.int (nI S), .int (nI c)] [] 34 (.int (if c < p2 ∨ (c = p2 ∧ S < p3) then 1 else 0)) dX0_weigh_31 cv_X0_89 rfl rfl rfl (by simp [Value.category]) rfl (c_cheaper d h b2 b3 (by omega) (by omega) (by omega) (by omega)) ?_
          rw [if_pos q3]
          refine rn_if_eq 53 37 dX0_weigh_34 (by decide) rfl (fun c34 => absurd c34 (by decide)) (fun _ => ?_)
          refine rn_aload_n 38 dX0_weigh_37 rfl rfl rfl ?_
          refine rn_iload 40 dX0_weigh_38 rfl rfl ?_
          refine rn_put 43 dX0_weigh_40 fp_X0_31 rfl rfl rfl rfl rfl ?_
          refine rn_aload_n 44 dX0_weigh_43 rfl rfl rfl ?_
          refine rn_iload_n 45 dX0_weigh_44 rfl rfl rfl ?_
          refine rn_put 48 dX0_weigh_45 fp_X0_34 rfl rfl rfl rfl rfl ?_
          refine rn_aload_n 49 dX0_weigh_48 rfl rfl rfl ?_
          refine rn_iload_n 50 dX0_weigh_49 rfl rfl rfl ?_
          refine rn_put 53 dX0_weigh_50 fp_X0_37 rfl rfl rfl rfl rfl ?_
          exact rn_vret rfl dX0_weigh_53 (⟨rfl, by rw [show wgh (some (p1, p2, p3)) (min D aim, c, S) = some (min D aim, c, S) from if_pos (Or.inr ⟨q2, q3⟩)]; exact ⟨by simp [mu_s, upd], by simp [mu_s, upd], by simp [mu_s, upd], by omega, h2, h1⟩, fun x _ hx => by simp [mu_s, hx], fun j hj => by simp [mu_s, upd, show j ≠ 8 by omega, show j ≠ 9 by omega, show j ≠ 10 by omega]⟩)
        · skip
          refine rn_iload_n 1 dX0_weigh_0 rfl rfl rfl ?_
          refine rn_aload_n 2 dX0_weigh_1 rfl rfl rfl ?_
          refine rn_get 5 (.int (mu 19 6)) dX0_weigh_2 fl_X0_24 rfl rfl rfl rfl ?_
          rw [ha]
          refine rn_min 8 dX0_weigh_5 cs_X0_83 (by simp [Value.category]) rfl ?_
          rw [min_nI (a := D) (b := aim) (by omega) (by omega)]
          refine rn_istore 10 [some (.ref 19), some (.int (nI S)), some (.int (nI c)), some (.int (nI D)), some (.int (nI (min D aim)))] dX0_weigh_8 rfl (Nat.le_of_ble_eq_true rfl) rfl ?_
          refine rn_iload 12 dX0_weigh_10 rfl rfl ?_
          refine rn_aload_n 13 dX0_weigh_12 rfl rfl rfl ?_
          refine rn_get 16 (.int (mu 19 8)) dX0_weigh_13 fl_X0_31 rfl rfl rfl rfl ?_
          refine rn_icmp_gt 37 19 dX0_weigh_16 (by decide) rfl (fun c16 => absurd c16 (by rw [b1]; exact nI_nlt (by omega) (by omega))) (fun _ => ?_)
          refine rn_iload 21 dX0_weigh_19 rfl rfl ?_
          refine rn_aload_n 22 dX0_weigh_21 rfl rfl rfl ?_
          refine rn_get 25 (.int (mu 19 8)) dX0_weigh_22 fl_X0_31 rfl rfl rfl rfl ?_
          refine rn_icmp_ne 53 28 dX0_weigh_25 (by decide) rfl (fun c25 => absurd (by rw [b1, q2]) c25) (fun _ => ?_)
          refine rn_aload_n 29 dX0_weigh_28 rfl rfl rfl ?_
          refine rn_iload_n 30 dX0_weigh_29 rfl rfl rfl ?_
          refine rn_iload_n 31 dX0_weigh_30 rfl rfl rfl ?_
          refine rn_cvp mX0_isCheaper [.int (nI S), .int (nI c)] [] 34 (.int (if c < p2 ∨ (c = p2 ∧ S < p3) then 1 else 0)) dX0_weigh_31 cv_X0_89 rfl rfl rfl (by simp [Value.category]) rfl (c_cheaper d h b2 b3 (by omega) (by omega) (by omega) (by omega)) ?_
          rw [if_neg q3]
          refine rn_if_eq 53 37 dX0_weigh_34 (by decide) rfl (fun _ => ?_) (fun c34 => absurd (by decide) c34)
          exact rn_vret rfl dX0_weigh_53 (⟨rfl, by rw [show wgh (some (p1, p2, p3)) (min D aim, c, S) = some (p1, p2, p3) from if_neg (fun z => by rcases z with z | z; exact q1 z; exact q3 z.2)]; exact hb, FA_rfl mu⟩)
      · skip
        refine rn_iload_n 1 dX0_weigh_0 rfl rfl rfl ?_
        refine rn_aload_n 2 dX0_weigh_1 rfl rfl rfl ?_
        refine rn_get 5 (.int (mu 19 6)) dX0_weigh_2 fl_X0_24 rfl rfl rfl rfl ?_
        rw [ha]
        refine rn_min 8 dX0_weigh_5 cs_X0_83 (by simp [Value.category]) rfl ?_
        rw [min_nI (a := D) (b := aim) (by omega) (by omega)]
        refine rn_istore 10 [some (.ref 19), some (.int (nI S)), some (.int (nI c)), some (.int (nI D)), some (.int (nI (min D aim)))] dX0_weigh_8 rfl (Nat.le_of_ble_eq_true rfl) rfl ?_
        refine rn_iload 12 dX0_weigh_10 rfl rfl ?_
        refine rn_aload_n 13 dX0_weigh_12 rfl rfl rfl ?_
        refine rn_get 16 (.int (mu 19 8)) dX0_weigh_13 fl_X0_31 rfl rfl rfl rfl ?_
        refine rn_icmp_gt 37 19 dX0_weigh_16 (by decide) rfl (fun c16 => absurd c16 (by rw [b1]; exact nI_nlt (by omega) (by omega))) (fun _ => ?_)
        refine rn_iload 21 dX0_weigh_19 rfl rfl ?_
        refine rn_aload_n 22 dX0_weigh_21 rfl rfl rfl ?_
        refine rn_get 25 (.int (mu 19 8)) dX0_weigh_22 fl_X0_31 rfl rfl rfl rfl ?_
        refine rn_icmp_ne 53 28 dX0_weigh_25 (by decide) rfl (fun _ => ?_) (fun c25 => absurd c25 (by rw [b1]; exact fun z => q2 ((nI_eq (by omega) (by omega)).mp z)))
        exact rn_vret rfl dX0_weigh_53 (⟨rfl, by rw [show wgh (some (p1, p2, p3)) (min D aim, c, S) = some (p1, p2, p3) from if_neg (fun z => by rcases z with z | z; exact q1 z; exact q2 z.1)]; exact hb, FA_rfl mu⟩)

set_option maxRecDepth 100000 in
set_option maxHeartbeats 2000000 in
theorem lp_mark (d : Nat) {g : List Ed} {s t S X : Nat} (hs : s < 8) (ht : t < 8) (hS : S < 2 ^ g.length) (hX : X < 65536) {mu0 : Nat → Nat → Int32} : ∀ (k e : Nat) (H : Nat) (mu : Nat → Nat → Int32) (h : Int64), e + k = g.length → (xg g mu) → (mu 19 2 = nI s) → (mu 19 3 = nI t) → (mu 19 11 = nI H) → (H < 65536) → (FA mu0 mu) → rn_R none mX0_markHelpful (d + 2) 12 [some (.ref 19), some (.int (nI S)), some (.int (nI (xD g S s t 0))), some (.int (nI X)), some (.int (nI e)), none] [] mu h (fun r mu' _ => r = none ∧ mu' 19 11 = nI (mkL g s t S X k e H) ∧ FA mu0 mu') := by
  intro k
  induction k with
  | zero =>
    intro e H mu h hek hg h2 h3 hH hH2 hfa
    refine rn_iload 14 dX0_markHelpful_12 rfl rfl ?_
    refine rn_aload_n 15 dX0_markHelpful_14 rfl rfl rfl ?_
    refine rn_get 18 (.ref 1) dX0_markHelpful_15 fl_X0_43 rfl rfl rfl rfl ?_
    refine rn_get 21 (.int (mu 1 1)) dX0_markHelpful_18 fl_X0_75 rfl rfl rfl rfl ?_
    refine rn_icmp_ge 87 24 dX0_markHelpful_21 (by decide) rfl (fun _ => ?_) (fun c21 => absurd (by rw [hg.2.2.1]; exact nI_le (by omega) (by have := hg.1; omega)) c21)
    exact rn_vret rfl dX0_markHelpful_87 (⟨rfl, hH, hfa⟩)
  | succ k ih =>
    intro e H mu h hek hg h2 h3 hH hH2 hfa
    have hlt : e < g.length := by omega
    have h16 := hg.1
    have hp := pw_le hg.1
    have ho := hg.2.1
    have bx := xD_le (S := S) (s := s) (rep := 0) ho ht
    have by2 := xD_le (S := nd S (2 ^ e)) (s := s) (rep := 0) ho ht
    have hn : nd S (2 ^ e) < 2 ^ g.length := nd_lt hS
    by_cases q1 : X.testBit e = true
    · skip
      have ex : X &&& 2 ^ e ≠ 0 := fun z => by have z2 := congrArg (fun n => n.testBit e) z; simp [Nat.testBit_and, q1, Nat.testBit_two_pow_self] at z2
      have ex2 : X &&& 2 ^ e < 2 ^ 31 := by have := @Nat.and_le_left X (2 ^ e); omega
      refine rn_iload 14 dX0_markHelpful_12 rfl rfl ?_
      refine rn_aload_n 15 dX0_markHelpful_14 rfl rfl rfl ?_
      refine rn_get 18 (.ref 1) dX0_markHelpful_15 fl_X0_43 rfl rfl rfl rfl ?_
      refine rn_get 21 (.int (mu 1 1)) dX0_markHelpful_18 fl_X0_75 rfl rfl rfl rfl ?_
      refine rn_icmp_ge 87 24 dX0_markHelpful_21 (by decide) rfl (fun c21 => absurd c21 (by rw [hg.2.2.1]; exact nI_ge hlt (by omega))) (fun _ => ?_)
      refine rn_iconst (v := 1) 25 dX0_markHelpful_24 (by decide) rfl ?_
      refine rn_iload 27 dX0_markHelpful_25 rfl rfl ?_
      refine rn_ishl 28 dX0_markHelpful_27 rfl ?_
      rw [nb_1 (by omega)]
      refine rn_istore 30 [some (.ref 19), some (.int (nI S)), some (.int (nI (xD g S s t 0))), some (.int (nI X)), some (.int (nI e)), some (.int (nI (2 ^ e)))] dX0_markHelpful_28 rfl (Nat.le_of_ble_eq_true rfl) rfl ?_
      refine rn_iload_n 31 dX0_markHelpful_30 rfl rfl rfl ?_
      refine rn_iload 33 dX0_markHelpful_31 rfl rfl ?_
      refine rn_iand 34 dX0_markHelpful_33 rfl ?_
      rw [nb_and]
      refine rn_if_eq 81 37 dX0_markHelpful_34 (by decide) rfl (fun c34 => absurd c34 (nI_ne0 (Nat.pos_of_ne_zero ex) ex2)) (fun _ => ?_)
      refine rn_aload_n 38 dX0_markHelpful_37 rfl rfl rfl ?_
      refine rn_get 41 (.ref 8) dX0_markHelpful_38 fl_X0_47 rfl rfl rfl rfl ?_
      refine rn_aload_n 42 dX0_markHelpful_41 rfl rfl rfl ?_
      refine rn_get 45 (.int (mu 19 2)) dX0_markHelpful_42 fl_X0_9 rfl rfl rfl rfl ?_
      refine rn_iload_n 46 dX0_markHelpful_45 rfl rfl rfl ?_
      refine rn_iload 48 dX0_markHelpful_46 rfl rfl ?_
      refine rn_iconst (v := (-1)) 49 dX0_markHelpful_48 (by decide) rfl ?_
      refine rn_ixor 50 dX0_markHelpful_49 rfl ?_
      refine rn_iand 51 dX0_markHelpful_50 rfl ?_
      refine rn_iconst (v := 0) 52 dX0_markHelpful_51 (by decide) rfl ?_
      rw [nb_andn, h2]
      refine rn_callV mX5_run [.int (nI s), .int (nI (nd S (2 ^ e))), .int 0] [] dX0_markHelpful_52 cv_X0_55 rfl rfl rfl (by simp [Value.category]) (c_run (d) (S := nd S (2 ^ e)) (s := s) (rep := 0) (by omega) hs (by omega) h hg) (fun r1 m1 h1 q1 _ => ?_)
      obtain ⟨e1, R1, W1, f1⟩ := q1
      subst e1
      have hg1 : xg g m1 := xg_fr hg f1
      show rn_R _ mX0_markHelpful _ 55 [some (.ref 19), some (.int (nI S)), some (.int (nI (xD g S s t 0))), some (.int (nI X)), some (.int (nI e)), some (.int (nI (2 ^ e)))] [] m1 h1 _
      have h21 : m1 19 2 = nI s := by rw [f1 19 (by omega)]; exact h2
      have h31 : m1 19 3 = nI t := by rw [f1 19 (by omega)]; exact h3
      rw [ee0] at R1
      refine rn_aload_n 56 dX0_markHelpful_55 rfl rfl rfl ?_
      refine rn_get 59 (.ref 8) dX0_markHelpful_56 fl_X0_47 rfl rfl rfl rfl ?_
      refine rn_aload_n 60 dX0_markHelpful_59 rfl rfl rfl ?_
      refine rn_get 63 (.int (m1 19 3)) dX0_markHelpful_60 fl_X0_15 rfl rfl rfl rfl ?_
      rw [h31]
      refine rn_cvp mX5_distanceTo [.int (nI t)] [] 66 (.int (nI (xD g (nd S (2 ^ e)) s t 0))) dX0_markHelpful_63 cv_X0_61 rfl rfl rfl (by simp [Value.category]) rfl ((xD_r g (nd S (2 ^ e)) s t ▸ c_distanceTo (d + 1) h1 R1 ht)) ?_
      have fa1 := FA_tr hfa (FA_run f1)
      by_cases q2 : xD g (nd S (2 ^ e)) s t 0 < xD g S s t 0
      · skip
        have em : mkL g s t S X (k + 1) e H = mkL g s t S X k (e + 1) (H ||| 2 ^ e) := by show mkL g s t S X k (e + 1) (if _ then _ else _) = _; rw [if_pos ⟨q1, q2⟩]
        refine rn_iload_n 67 dX0_markHelpful_66 rfl rfl rfl ?_
        refine rn_icmp_ge 81 70 dX0_markHelpful_67 (by decide) rfl (fun c67 => absurd c67 (nI_ge q2 (by omega))) (fun _ => ?_)
        refine rn_aload_n 71 dX0_markHelpful_70 rfl rfl rfl ?_
        refine rn_dup 72 dX0_markHelpful_71 rfl rfl ?_
        refine rn_get 75 (.int (m1 19 11)) dX0_markHelpful_72 fl_X0_40 rfl rfl rfl rfl ?_
        refine rn_iload 77 dX0_markHelpful_75 rfl rfl ?_
        refine rn_ior 78 dX0_markHelpful_77 rfl ?_
        rw [show m1 19 11 = nI H by rw [f1 19 (by omega)]; exact hH, nb_or]
        refine rn_put 81 dX0_markHelpful_78 fp_X0_40 rfl rfl rfl rfl rfl ?_
        refine rn_iinc (v := (nI (e + 1))) 84 [some (.ref 19), some (.int (nI S)), some (.int (nI (xD g S s t 0))), some (.int (nI X)), some (.int (nI (e + 1))), some (.int (nI (2 ^ e)))] dX0_markHelpful_81 rfl (nI_1 _) rfl rfl ?_
        refine rn_goto 12 dX0_markHelpful_84 (by decide) ?_
        refine rn_drop 5 [some (.ref 19), some (.int (nI S)), some (.int (nI (xD g S s t 0))), some (.int (nI X)), some (.int (nI (e + 1))), none] rfl ?_
        have z := ih (e + 1) (H ||| 2 ^ e) (mu_s m1 19 11 (nI (H ||| 2 ^ e))) h1 (by omega) (xg_of hg1 (by simp [mu_s]) (by simp [mu_s])) (by simp [mu_s, upd, h21]) (by simp [mu_s, upd, h31]) (by simp [mu_s, upd]) (tb_add_lt (n := 16) hH2 (by omega)) (FA_tr fa1 ⟨fun x _ hx => by simp [mu_s, hx], fun j hj => by simp [mu_s, upd, show j ≠ 11 by omega]⟩)
        rw [← em] at z
        exact z
      · skip
        have em : mkL g s t S X (k + 1) e H = mkL g s t S X k (e + 1) H := by show mkL g s t S X k (e + 1) (if _ then _ else _) = _; rw [if_neg (fun z => q2 z.2)]
        refine rn_iload_n 67 dX0_markHelpful_66 rfl rfl rfl ?_
        refine rn_icmp_ge 81 70 dX0_markHelpful_67 (by decide) rfl (fun _ => ?_) (fun c67 => absurd (nI_le (by omega) (by omega)) c67)
        refine rn_iinc (v := (nI (e + 1))) 84 [some (.ref 19), some (.int (nI S)), some (.int (nI (xD g S s t 0))), some (.int (nI X)), some (.int (nI (e + 1))), some (.int (nI (2 ^ e)))] dX0_markHelpful_81 rfl (nI_1 _) rfl rfl ?_
        refine rn_goto 12 dX0_markHelpful_84 (by decide) ?_
        refine rn_drop 5 [some (.ref 19), some (.int (nI S)), some (.int (nI (xD g S s t 0))), some (.int (nI X)), some (.int (nI (e + 1))), none] rfl ?_
        have z := ih (e + 1) H m1 h1 (by omega) hg1 h21 h31 (by rw [f1 19 (by omega)]; exact hH) hH2 fa1
        rw [← em] at z
        exact z
    · skip
      have ex : X &&& 2 ^ e = 0 := tb_ext (fun i => by rw [Nat.testBit_and, tb_pow, Nat.zero_testBit]; by_cases z : e = i; (subst z; simpa using q1); (simp [z]))
      have em : mkL g s t S X (k + 1) e H = mkL g s t S X k (e + 1) H := by show mkL g s t S X k (e + 1) (if _ then _ else _) = _; rw [if_neg (fun z => q1 z.1)]
      refine rn_iload 14 dX0_markHelpful_12 rfl rfl ?_
      refine rn_aload_n 15 dX0_markHelpful_14 rfl rfl rfl ?_
      refine rn_get 18 (.ref 1) dX0_markHelpful_15 fl_X0_43 rfl rfl rfl rfl ?_
      refine rn_get 21 (.int (mu 1 1)) dX0_markHelpful_18 fl_X0_75 rfl rfl rfl rfl ?_
      refine rn_icmp_ge 87 24 dX0_markHelpful_21 (by decide) rfl (fun c21 => absurd c21 (by rw [hg.2.2.1]; exact nI_ge hlt (by omega))) (fun _ => ?_)
      refine rn_iconst (v := 1) 25 dX0_markHelpful_24 (by decide) rfl ?_
      refine rn_iload 27 dX0_markHelpful_25 rfl rfl ?_
      refine rn_ishl 28 dX0_markHelpful_27 rfl ?_
      rw [nb_1 (by omega)]
      refine rn_istore 30 [some (.ref 19), some (.int (nI S)), some (.int (nI (xD g S s t 0))), some (.int (nI X)), some (.int (nI e)), some (.int (nI (2 ^ e)))] dX0_markHelpful_28 rfl (Nat.le_of_ble_eq_true rfl) rfl ?_
      refine rn_iload_n 31 dX0_markHelpful_30 rfl rfl rfl ?_
      refine rn_iload 33 dX0_markHelpful_31 rfl rfl ?_
      refine rn_iand 34 dX0_markHelpful_33 rfl ?_
      rw [nb_and]
      refine rn_if_eq 81 37 dX0_markHelpful_34 (by decide) rfl (fun _ => ?_) (fun c34 => absurd (by rw [ex]; rfl) c34)
      refine rn_iinc (v := (nI (e + 1))) 84 [some (.ref 19), some (.int (nI S)), some (.int (nI (xD g S s t 0))), some (.int (nI X)), some (.int (nI (e + 1))), some (.int (nI (2 ^ e)))] dX0_markHelpful_81 rfl (nI_1 _) rfl rfl ?_
      refine rn_goto 12 dX0_markHelpful_84 (by decide) ?_
      refine rn_drop 5 [some (.ref 19), some (.int (nI S)), some (.int (nI (xD g S s t 0))), some (.int (nI X)), some (.int (nI (e + 1))), none] rfl ?_
      have z := ih (e + 1) H mu h (by omega) hg h2 h3 hH hH2 hfa
      rw [← em] at z
      exact z

set_option maxRecDepth 100000 in
set_option maxHeartbeats 2000000 in
theorem c_mark (d : Nat) {g : List Ed} {s t S H : Nat} (hs : s < 8) (ht : t < 8) (hS : S < 2 ^ g.length) {mu : Nat → Nat → Int32} (h : Int64) (hg : xg g mu) (h2 : mu 19 2 = nI s) (h3 : mu 19 3 = nI t) (hH : mu 19 11 = nI H) (hH2 : H < 65536) : gd_G mX0_markHelpful (d + 2) [.ref 19, .int (nI S), .int (nI (xD g S s t 0))] mu h (fun r mu' _ => r = none ∧ mu' 19 11 = nI (mkF g s t S H) ∧ FA mu mu') := by
  refine gd_of rfl (Nat.le_of_ble_eq_true rfl) ?_
  show rn_R none mX0_markHelpful (d + 2) 0 [some (.ref 19), some (.int (nI S)), some (.int (nI (xD g S s t 0))), none, none, none] [] mu h (fun r mu' _ => r = none ∧ mu' 19 11 = nI (mkF g s t S H) ∧ FA mu mu')
  have hp := pw_le hg.1
  refine rn_iload_n 1 dX0_markHelpful_0 rfl rfl rfl ?_
  refine rn_aload_n 2 dX0_markHelpful_1 rfl rfl rfl ?_
  refine rn_get 5 (.int (mu 19 11)) dX0_markHelpful_2 fl_X0_40 rfl rfl rfl rfl ?_
  refine rn_iconst (v := (-1)) 6 dX0_markHelpful_5 (by decide) rfl ?_
  refine rn_ixor 7 dX0_markHelpful_6 rfl ?_
  refine rn_iand 8 dX0_markHelpful_7 rfl ?_
  rw [hH, nb_andn]
  refine rn_istore_n 9 [some (.ref 19), some (.int (nI S)), some (.int (nI (xD g S s t 0))), some (.int (nI (nd S H))), none, none] dX0_markHelpful_8 rfl rfl (Nat.le_of_ble_eq_true rfl) rfl ?_
  refine rn_iconst (v := 0) 10 dX0_markHelpful_9 (by decide) rfl ?_
  refine rn_istore 12 [some (.ref 19), some (.int (nI S)), some (.int (nI (xD g S s t 0))), some (.int (nI (nd S H))), some (.int 0), none] dX0_markHelpful_10 rfl (Nat.le_of_ble_eq_true rfl) rfl ?_
  exact lp_mark d hs ht hS (X := nd S H) (by have := nd_lt (b := H) hS; omega) (mu0 := mu) g.length 0 H mu h (by omega) hg h2 h3 hH hH2 (FA_rfl mu)
