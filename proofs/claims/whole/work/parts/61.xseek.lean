/-! THE CLASS: seekBest, seekHelpful; interdict, budgetFor, neverHelps -/
theorem stp_f {g : List Ed} {s t rep aim : Nat} : ∀ (L : List (Nat × Nat)) (st : Sta), (L.foldl (stp g s t rep aim false) st).1 = L.foldl (fun o p => wgh o (vA g s t rep aim p.1, p.2, p.1)) st.1 := by
  intro L
  induction L with
  | nil => intro st; rfl
  | cons p L ih => intro st; exact ih _
theorem stp_t {g : List Ed} {s t rep aim : Nat} : ∀ (L : List (Nat × Nat)) (st : Sta), (L.foldl (stp g s t rep aim true) st).2 = L.foldl (fun H p => mkF g s t p.1 H) st.2 := by
  intro L
  induction L with
  | nil => intro st; rfl
  | cons p L ih => intro st; exact ih _
def hlpF (g : List Ed) (s t B : Nat) : Nat := (gwL g s t 0 B 9999 16 0 0 0).foldl (fun H p => mkF g s t p.1 H) 0
theorem bst_le {g : List Ed} {B F s t rep aim : Nat} (ho : ∀ x ∈ g, e_ok x) (ht : t < 8) (h16 : g.length ≤ 16) {q : Nat × Nat × Nat} (h : bst g B F (vA g s t rep aim) q) : q.1 ≤ 9999 ∧ q.1 ≤ aim ∧ q.2.1 ≤ B ∧ q.2.2 < 2 ^ g.length ∧ q.2.2 < 65536 := by
  obtain ⟨⟨T, t1, t2⟩, -⟩ := h
  have := xD_le (S := T) (s := s) (rep := rep) ho ht
  have hp := pw_le h16
  subst t2
  have a := t1.1
  refine ⟨?_, ?_, t1.2.1, t1.1, by show T < 65536; omega⟩
  · show min _ _ ≤ 9999; omega
  · show min _ _ ≤ aim; omega
theorem xS_fd {g : List Ed} {a : Nat} {hs : List Sg} {tx : List Nat} {f f2 : Int32} {mu mu' : Nat → Nat → Int32} (h : xS (g, a, hs, tx, f) mu) (fr : ∀ c, 1 ≤ c → c < 7 → mu' c = mu c) (hf : mu' 0 8 = f2) : xS (g, a, hs, tx, f2) mu' := by
  obtain ⟨h1, h2, h3, h4, h5⟩ := h
  have e1 := fr 1 (by omega) (by omega)
  have e3 := fr 3 (by omega) (by omega)
  obtain ⟨o, o1, o2, o3, o4, o5⟩ := h3
  exact ⟨xg_of h1 (by rw [e1]) (fr 2 (by omega) (by omega)), ⟨by rw [e1]; exact h2.1, h2.2⟩, ⟨o, o1, o2, by rw [e3]; exact o3, by rw [e3]; exact o4, fun i x hx => by rw [fr 4 (by omega) (by omega)]; exact o5 i x hx⟩, xt_of h4 (by rw [fr 5 (by omega) (by omega)]) (fr 6 (by omega) (by omega)), hf⟩

set_option maxRecDepth 100000 in
set_option maxHeartbeats 2000000 in
theorem c_seekBest (d : Nat) {g : List Ed} {s t B rep aim F : Nat} (hs : s < 8) (ht : t < 8) (hB : B ≤ 5) (hrep : rep ≤ 3) (haim : aim ≤ 9999) (hF : F < 65536) {q : Kx} (hq : bst g B F (vA g s t rep aim) q) {mu : Nat → Nat → Int32} (h : Int64) (hg : xg g mu) : gd_G mX0_seekBest (d + 20) [.ref 19, .int (nI s), .int (nI t), .int (nI B), .int (nI rep), .int (nI aim), .int (nI F)] mu h (fun r mu' _ => r = none ∧ mu' 19 8 = nI q.1 ∧ mu' 19 9 = nI q.2.1 ∧ mu' 19 10 = nI q.2.2 ∧ ∀ c, (c < 9 ∨ 13 < c) → c ≠ 19 → mu' c = mu c) := by
  refine gd_of rfl (Nat.le_of_ble_eq_true rfl) ?_
  show rn_R none mX0_seekBest (d + 20) 0 [some (.ref 19), some (.int (nI s)), some (.int (nI t)), some (.int (nI B)), some (.int (nI rep)), some (.int (nI aim)), some (.int (nI F))] [] mu h (fun r mu' _ => r = none ∧ mu' 19 8 = nI q.1 ∧ mu' 19 9 = nI q.2.1 ∧ mu' 19 10 = nI q.2.2 ∧ ∀ c, (c < 9 ∨ 13 < c) → c ≠ 19 → mu' c = mu c)
  refine rn_aload_n 1 dX0_seekBest_0 rfl rfl rfl ?_
  refine rn_iload_n 2 dX0_seekBest_1 rfl rfl rfl ?_
  refine rn_put 5 dX0_seekBest_2 fp_X0_9 rfl rfl rfl rfl rfl ?_
  refine rn_aload_n 6 dX0_seekBest_5 rfl rfl rfl ?_
  refine rn_iload_n 7 dX0_seekBest_6 rfl rfl rfl ?_
  refine rn_put 10 dX0_seekBest_7 fp_X0_15 rfl rfl rfl rfl rfl ?_
  refine rn_aload_n 11 dX0_seekBest_10 rfl rfl rfl ?_
  refine rn_iload_n 12 dX0_seekBest_11 rfl rfl rfl ?_
  refine rn_put 15 dX0_seekBest_12 fp_X0_18 rfl rfl rfl rfl rfl ?_
  refine rn_aload_n 16 dX0_seekBest_15 rfl rfl rfl ?_
  refine rn_iload 18 dX0_seekBest_16 rfl rfl ?_
  refine rn_put 21 dX0_seekBest_18 fp_X0_21 rfl rfl rfl rfl rfl ?_
  refine rn_aload_n 22 dX0_seekBest_21 rfl rfl rfl ?_
  refine rn_iload 24 dX0_seekBest_22 rfl rfl ?_
  refine rn_put 27 dX0_seekBest_24 fp_X0_24 rfl rfl rfl rfl rfl ?_
  refine rn_aload_n 28 dX0_seekBest_27 rfl rfl rfl ?_
  refine rn_iconst (v := 0) 29 dX0_seekBest_28 (by decide) rfl ?_
  refine rn_put 32 dX0_seekBest_29 fp_X0_27 rfl rfl rfl rfl rfl ?_
  refine rn_aload_n 33 dX0_seekBest_32 rfl rfl rfl ?_
  refine rn_iconst (v := (-1)) 34 dX0_seekBest_33 (by decide) rfl ?_
  refine rn_put 37 dX0_seekBest_34 fp_X0_31 rfl rfl rfl rfl rfl ?_
  refine rn_aload_n 38 dX0_seekBest_37 rfl rfl rfl ?_
  refine rn_iconst (v := 0) 39 dX0_seekBest_38 (by decide) rfl ?_
  refine rn_iconst (v := 0) 40 dX0_seekBest_39 (by decide) rfl ?_
  refine rn_iload 42 dX0_seekBest_40 rfl rfl ?_
  refine rn_iconst (v := 0) 43 dX0_seekBest_42 (by decide) rfl ?_
  refine rn_callV mX0_grow [.int 0, .int 0, .int (nI F), .int 0] [] dX0_seekBest_43 cv_X0_51 rfl rfl rfl (by simp [Value.category]) (c_grow d hs ht hB hrep haim (m := false) (fun z => by cases z) 16 0 0 0 F (none, 0) (mu_s (mu_s (mu_s (mu_s (mu_s (mu_s (mu_s mu 19 2 (nI s)) 19 3 (nI t)) 19 4 (nI B)) 19 5 (nI rep)) 19 6 (nI aim)) 19 7 0) 19 8 (-1)) h rfl (pw_pos _) (Nat.zero_le _) hF (xg_of hg (by simp [mu_s]) (by simp [mu_s])) ⟨by simp [mu_s, upd], by simp [mu_s, upd], by simp [mu_s, upd], by simp [mu_s, upd], by simp [mu_s, upd], by simp [mu_s, upd, bi]⟩ (by show mu_s _ _ _ _ 19 8 = -1; simp [mu_s, upd])) (fun r1 m1 h1 qq _ => ?_)
  obtain ⟨e1, sb1, fa1⟩ := qq
  subst e1
  obtain ⟨q2, e2, hq2⟩ := grow_best (s := s) (rep := rep) (aim := aim) (F := F) hg.2.1 ht (show B ≤ 16 by omega)
  have e3 : q2 = q := bst_u hq2 hq
  subst e3
  have sb2 : BB (List.foldl (stp g s t rep aim false) (none, 0) (gwL g s t rep B aim 16 0 0 F)).1 m1 := sb1
  rw [stp_f, e2] at sb2
  obtain ⟨b1, b2, b3, -⟩ := sb2
  show rn_R _ mX0_seekBest _ 46 [some (.ref 19), some (.int (nI s)), some (.int (nI t)), some (.int (nI B)), some (.int (nI rep)), some (.int (nI aim)), some (.int (nI F))] [] m1 h1 _
  exact rn_vret rfl dX0_seekBest_46 (⟨rfl, b1, b2, b3, fun c h1 h2 => by rw [fa1.1 c h1 h2]; simp [mu_s, h2]⟩)

set_option maxRecDepth 100000 in
set_option maxHeartbeats 2000000 in
theorem c_seekHelp (d : Nat) {g : List Ed} {s t B : Nat} (hs : s < 8) (ht : t < 8) (hB : B ≤ 5) {mu : Nat → Nat → Int32} (h : Int64) (hg : xg g mu) : gd_G mX0_seekHelpful (d + 20) [.ref 19, .int (nI s), .int (nI t), .int (nI B)] mu h (fun r mu' _ => r = none ∧ mu' 19 11 = nI (hlpF g s t B) ∧ ∀ c, (c < 9 ∨ 13 < c) → c ≠ 19 → mu' c = mu c) := by
  refine gd_of rfl (Nat.le_of_ble_eq_true rfl) ?_
  show rn_R none mX0_seekHelpful (d + 20) 0 [some (.ref 19), some (.int (nI s)), some (.int (nI t)), some (.int (nI B))] [] mu h (fun r mu' _ => r = none ∧ mu' 19 11 = nI (hlpF g s t B) ∧ ∀ c, (c < 9 ∨ 13 < c) → c ≠ 19 → mu' c = mu c)
  refine rn_aload_n 1 dX0_seekHelpful_0 rfl rfl rfl ?_
  refine rn_iload_n 2 dX0_seekHelpful_1 rfl rfl rfl ?_
  refine rn_put 5 dX0_seekHelpful_2 fp_X0_9 rfl rfl rfl rfl rfl ?_
  refine rn_aload_n 6 dX0_seekHelpful_5 rfl rfl rfl ?_
  refine rn_iload_n 7 dX0_seekHelpful_6 rfl rfl rfl ?_
  refine rn_put 10 dX0_seekHelpful_7 fp_X0_15 rfl rfl rfl rfl rfl ?_
  refine rn_aload_n 11 dX0_seekHelpful_10 rfl rfl rfl ?_
  refine rn_iload_n 12 dX0_seekHelpful_11 rfl rfl rfl ?_
  refine rn_put 15 dX0_seekHelpful_12 fp_X0_18 rfl rfl rfl rfl rfl ?_
  refine rn_aload_n 16 dX0_seekHelpful_15 rfl rfl rfl ?_
  refine rn_iconst (v := 0) 17 dX0_seekHelpful_16 (by decide) rfl ?_
  refine rn_put 20 dX0_seekHelpful_17 fp_X0_21 rfl rfl rfl rfl rfl ?_
  refine rn_aload_n 21 dX0_seekHelpful_20 rfl rfl rfl ?_
  refine rn_sipush (v := 9999) 24 dX0_seekHelpful_21 (by decide) rfl ?_
  refine rn_put 27 dX0_seekHelpful_24 fp_X0_24 rfl rfl rfl rfl rfl ?_
  refine rn_aload_n 28 dX0_seekHelpful_27 rfl rfl rfl ?_
  refine rn_iconst (v := 1) 29 dX0_seekHelpful_28 (by decide) rfl ?_
  refine rn_put 32 dX0_seekHelpful_29 fp_X0_27 rfl rfl rfl rfl rfl ?_
  refine rn_aload_n 33 dX0_seekHelpful_32 rfl rfl rfl ?_
  refine rn_iconst (v := 0) 34 dX0_seekHelpful_33 (by decide) rfl ?_
  refine rn_put 37 dX0_seekHelpful_34 fp_X0_40 rfl rfl rfl rfl rfl ?_
  refine rn_aload_n 38 dX0_seekHelpful_37 rfl rfl rfl ?_
  refine rn_iconst (v := 0) 39 dX0_seekHelpful_38 (by decide) rfl ?_
  refine rn_iconst (v := 0) 40 dX0_seekHelpful_39 (by decide) rfl ?_
  refine rn_iconst (v := 0) 41 dX0_seekHelpful_40 (by decide) rfl ?_
  refine rn_iconst (v := 0) 42 dX0_seekHelpful_41 (by decide) rfl ?_
  refine rn_callV mX0_grow [.int 0, .int 0, .int 0, .int 0] [] dX0_seekHelpful_42 cv_X0_51 rfl rfl rfl (by simp [Value.category]) (c_grow d hs ht hB (rep := 0) (aim := 9999) (by omega) (by omega) (m := true) (fun _ => ⟨rfl, rfl⟩) 16 0 0 0 0 (none, 0) (mu_s (mu_s (mu_s (mu_s (mu_s (mu_s (mu_s mu 19 2 (nI s)) 19 3 (nI t)) 19 4 (nI B)) 19 5 0) 19 6 9999) 19 7 1) 19 11 0) h rfl (pw_pos _) (Nat.zero_le _) (by omega) (xg_of hg (by simp [mu_s]) (by simp [mu_s])) ⟨by simp [mu_s, upd], by simp [mu_s, upd], by simp [mu_s, upd], by simp [mu_s, upd]; rfl, by simp [mu_s, upd]; rfl, by simp [mu_s, upd, bi]⟩ (by refine ⟨?_, (by decide)⟩; simp [mu_s, upd]; rfl)) (fun r1 m1 h1 qq _ => ?_)
  obtain ⟨e1, sb1, fa1⟩ := qq
  subst e1
  have sb2 : m1 19 11 = nI (List.foldl (stp g s t 0 9999 true) (none, 0) (gwL g s t 0 B 9999 16 0 0 0)).2 := sb1.1
  rw [stp_t] at sb2
  show rn_R _ mX0_seekHelpful _ 45 [some (.ref 19), some (.int (nI s)), some (.int (nI t)), some (.int (nI B))] [] m1 h1 _
  exact rn_vret rfl dX0_seekHelpful_45 (⟨rfl, sb2, fun c h1 h2 => by rw [fa1.1 c h1 h2]; simp [mu_s, h2]⟩)

set_option maxRecDepth 100000 in
set_option maxHeartbeats 2000000 in
theorem x_intR_b (d : Nat) {g : List Ed} {a : Nat} {hs : List Sg} {tx : List Nat} {f : Int32} {v1 v2 v3 v4 : Int32} (hv : ¬ ((isin v1 8 ∧ isin v2 8) ∧ isin v3 (5 + 1) ∧ isin v4 (3 + 1))) : XC mX8_interdictResponse (d + 2) [.int v1, .int v2, .int v3, .int v4] (g, a, hs, tx, f) (g, a, hs, tx, f) (.int (-2)) := by
  intro mu h hs0
  obtain ⟨hg, ha, hh, ht, hf⟩ := id hs0
  simp only at hg ha hh ht hf
  refine gd_of rfl (Nat.le_of_ble_eq_true rfl) ?_
  show rn_R none mX8_interdictResponse (d + 2) 0 [some (.ref 0), some (.int v1), some (.int v2), some (.int v3), some (.int v4)] [] mu h (fun r mu' _ => r = some (.int (-2)) ∧ xS (g, a, hs, tx, f) mu' ∧ ∀ c, 22 ≤ c → mu' c = mu c)
  by_cases qq0 : isin v1 8 ∧ isin v2 8
  · skip
    by_cases qq1 : isin v3 (5 + 1)
    · skip
      have qq2 : ¬ (isin v4 (3 + 1)) := fun z => hv ⟨qq0, qq1, z⟩
      refine rn_iload_n 1 dX8_interdictResponse_0 rfl rfl rfl ?_
      refine rn_iload_n 2 dX8_interdictResponse_1 rfl rfl rfl ?_
      refine rn_csp mX8_areNodes [.int v1, .int v2] [] 5 (.int 1) dX8_interdictResponse_2 cs_X8_75 rfl rfl (by simp [Value.category]) rfl (c_areNodes_t (d) mu h qq0.1 qq0.2) ?_
      refine rn_if_eq 25 8 dX8_interdictResponse_5 (by decide) rfl (fun c5 => absurd c5 (by decide)) (fun _ => ?_)
      refine rn_iload_n 9 dX8_interdictResponse_8 rfl rfl rfl ?_
      refine rn_iconst (v := 5) 10 dX8_interdictResponse_9 (by decide) rfl ?_
      refine rn_csp mX8_isWithin [.int v3, .int 5] [] 13 (.int 1) dX8_interdictResponse_10 cs_X8_164 rfl rfl (by simp [Value.category]) rfl (c_isWithin_i (d + 1) mu h (M := 5) qq1 (by omega)) ?_
      refine rn_if_eq 25 16 dX8_interdictResponse_13 (by decide) rfl (fun c13 => absurd c13 (by decide)) (fun _ => ?_)
      refine rn_iload 18 dX8_interdictResponse_16 rfl rfl ?_
      refine rn_iconst (v := 3) 19 dX8_interdictResponse_18 (by decide) rfl ?_
      refine rn_csp mX8_isWithin [.int v4, .int 3] [] 22 (.int 0) dX8_interdictResponse_19 cs_X8_164 rfl rfl (by simp [Value.category]) rfl (c_isWithin_f (d + 1) mu h v4 3 qq2 (by omega)) ?_
      refine rn_if_ne 28 25 dX8_interdictResponse_22 (by decide) rfl (fun c22 => absurd (rfl) c22) (fun _ => ?_)
      refine rn_bipush (v := (-2)) 27 dX8_interdictResponse_25 (by decide) rfl ?_
      exact rn_iret rfl dX8_interdictResponse_27 (⟨rfl, hs0, fun _ _ => rfl⟩)
    · skip
      refine rn_iload_n 1 dX8_interdictResponse_0 rfl rfl rfl ?_
      refine rn_iload_n 2 dX8_interdictResponse_1 rfl rfl rfl ?_
      refine rn_csp mX8_areNodes [.int v1, .int v2] [] 5 (.int 1) dX8_interdictResponse_2 cs_X8_75 rfl rfl (by simp [Value.category]) rfl (c_areNodes_t (d) mu h qq0.1 qq0.2) ?_
      refine rn_if_eq 25 8 dX8_interdictResponse_5 (by decide) rfl (fun c5 => absurd c5 (by decide)) (fun _ => ?_)
      refine rn_iload_n 9 dX8_interdictResponse_8 rfl rfl rfl ?_
      refine rn_iconst (v := 5) 10 dX8_interdictResponse_9 (by decide) rfl ?_
      refine rn_csp mX8_isWithin [.int v3, .int 5] [] 13 (.int 0) dX8_interdictResponse_10 cs_X8_164 rfl rfl (by simp [Value.category]) rfl (c_isWithin_f (d + 1) mu h v3 5 qq1 (by omega)) ?_
      refine rn_if_eq 25 16 dX8_interdictResponse_13 (by decide) rfl (fun _ => ?_) (fun c13 => absurd (by decide) c13)
      refine rn_bipush (v := (-2)) 27 dX8_interdictResponse_25 (by decide) rfl ?_
      exact rn_iret rfl dX8_interdictResponse_27 (⟨rfl, hs0, fun _ _ => rfl⟩)
  · skip
    refine rn_iload_n 1 dX8_interdictResponse_0 rfl rfl rfl ?_
    refine rn_iload_n 2 dX8_interdictResponse_1 rfl rfl rfl ?_
    refine rn_csp mX8_areNodes [.int v1, .int v2] [] 5 (.int 0) dX8_interdictResponse_2 cs_X8_75 rfl rfl (by simp [Value.category]) rfl (c_areNodes_f (d) mu h qq0) ?_
    refine rn_if_eq 25 8 dX8_interdictResponse_5 (by decide) rfl (fun _ => ?_) (fun c5 => absurd (by decide) c5)
    refine rn_bipush (v := (-2)) 27 dX8_interdictResponse_25 (by decide) rfl ?_
    exact rn_iret rfl dX8_interdictResponse_27 (⟨rfl, hs0, fun _ _ => rfl⟩)

set_option maxRecDepth 100000 in
set_option maxHeartbeats 2000000 in
theorem x_intR_t (d : Nat) {g : List Ed} {a : Nat} {hs : List Sg} {tx : List Nat} {f : Int32} {u v : Nat} (hu : u < 8) (hv : v < 8) {B r : Nat} (hB : B < 6) (hr : r < 4) {q : Kx} (hq : bst g B 0 (vA g u v r 9999) q) : XC mX8_interdictResponse (d + 21) [.int (nI u), .int (nI v), .int (nI B), .int (nI r)] (g, a, hs, tx, f) (g, a, hs, tx, nI q.2.2) (.int (nI q.1)) := by
  intro mu h hs0
  obtain ⟨hg, ha, hh, ht, hf⟩ := id hs0
  simp only at hg ha hh ht hf
  refine gd_of rfl (Nat.le_of_ble_eq_true rfl) ?_
  show rn_R none mX8_interdictResponse (d + 21) 0 [some (.ref 0), some (.int (nI u)), some (.int (nI v)), some (.int (nI B)), some (.int (nI r))] [] mu h (fun r mu' _ => r = some (.int (nI q.1)) ∧ xS (g, a, hs, tx, nI q.2.2) mu' ∧ ∀ c, 22 ≤ c → mu' c = mu c)
  refine rn_iload_n 1 dX8_interdictResponse_0 rfl rfl rfl ?_
  refine rn_iload_n 2 dX8_interdictResponse_1 rfl rfl rfl ?_
  refine rn_csp mX8_areNodes [.int (nI u), .int (nI v)] [] 5 (.int 1) dX8_interdictResponse_2 cs_X8_75 rfl rfl (by simp [Value.category]) rfl (c_areNodes_t (d + 19) mu h ⟨u, hu, rfl⟩ ⟨v, hv, rfl⟩) ?_
  refine rn_if_eq 25 8 dX8_interdictResponse_5 (by decide) rfl (fun c5 => absurd c5 (by decide)) (fun _ => ?_)
  refine rn_iload_n 9 dX8_interdictResponse_8 rfl rfl rfl ?_
  refine rn_iconst (v := 5) 10 dX8_interdictResponse_9 (by decide) rfl ?_
  refine rn_csp mX8_isWithin [.int (nI B), .int 5] [] 13 (.int 1) dX8_interdictResponse_10 cs_X8_164 rfl rfl (by simp [Value.category]) rfl (c_isWithin_i (d + 20) mu h (M := 5) (⟨B, hB, rfl⟩) (by omega)) ?_
  refine rn_if_eq 25 16 dX8_interdictResponse_13 (by decide) rfl (fun c13 => absurd c13 (by decide)) (fun _ => ?_)
  refine rn_iload 18 dX8_interdictResponse_16 rfl rfl ?_
  refine rn_iconst (v := 3) 19 dX8_interdictResponse_18 (by decide) rfl ?_
  refine rn_csp mX8_isWithin [.int (nI r), .int 3] [] 22 (.int 1) dX8_interdictResponse_19 cs_X8_164 rfl rfl (by simp [Value.category]) rfl (c_isWithin_i (d + 20) mu h (M := 3) (⟨r, hr, rfl⟩) (by omega)) ?_
  refine rn_if_ne 28 25 dX8_interdictResponse_22 (by decide) rfl (fun _ => ?_) (fun c22 => absurd c22 (by decide))
  refine rn_aload_n 29 dX8_interdictResponse_28 rfl rfl rfl ?_
  refine rn_get 32 (.ref 19) dX8_interdictResponse_29 fl_X8_51 rfl rfl rfl rfl ?_
  refine rn_iload_n 33 dX8_interdictResponse_32 rfl rfl rfl ?_
  refine rn_iload_n 34 dX8_interdictResponse_33 rfl rfl rfl ?_
  refine rn_iload_n 35 dX8_interdictResponse_34 rfl rfl rfl ?_
  refine rn_iload 37 dX8_interdictResponse_35 rfl rfl ?_
  refine rn_sipush (v := 9999) 40 dX8_interdictResponse_37 (by decide) rfl ?_
  refine rn_iconst (v := 0) 41 dX8_interdictResponse_40 (by decide) rfl ?_
  refine rn_callV mX0_seekBest [.int (nI u), .int (nI v), .int (nI B), .int (nI r), .int 9999, .int 0] [] dX8_interdictResponse_41 cv_X8_173 rfl rfl rfl (by simp [Value.category]) (c_seekBest (d) (B := B) (rep := r) (aim := 9999) (F := 0) hu hv (by omega) (by omega) (by omega) (by omega) hq h hg) (fun r1 m1 h1 qq _ => ?_)
  obtain ⟨e1, s1, s2, s3, f1⟩ := qq
  subst e1
  show rn_R _ mX8_interdictResponse _ 44 [some (.ref 0), some (.int (nI u)), some (.int (nI v)), some (.int (nI B)), some (.int (nI r))] [] m1 h1 _
  refine rn_aload_n 45 dX8_interdictResponse_44 rfl rfl rfl ?_
  refine rn_aload_n 46 dX8_interdictResponse_45 rfl rfl rfl ?_
  refine rn_get 49 (.ref 19) dX8_interdictResponse_46 fl_X8_51 rfl rfl rfl rfl ?_
  refine rn_get 52 (.int (m1 19 10)) dX8_interdictResponse_49 fl_X8_180 rfl rfl rfl rfl ?_
  refine rn_put 55 dX8_interdictResponse_52 fp_X8_71 rfl rfl rfl rfl rfl ?_
  refine rn_aload_n 56 dX8_interdictResponse_55 rfl rfl rfl ?_
  refine rn_get 59 (.ref 19) dX8_interdictResponse_56 fl_X8_51 rfl rfl rfl rfl ?_
  refine rn_get 62 (.int (m1 19 8)) dX8_interdictResponse_59 fl_X8_177 rfl rfl rfl rfl ?_
  exact rn_iret rfl dX8_interdictResponse_62 (⟨by rw [s1], xS_fd hs0 (fun c h1 h2 => by simp [mu_s, show c ≠ 0 by omega]; exact f1 c (by omega) (by omega)) (by simp [mu_s, upd, s3]), fun c hc => by simp [mu_s, show c ≠ 0 by omega]; exact f1 c (by omega) (by omega)⟩)

set_option maxRecDepth 100000 in
set_option maxHeartbeats 2000000 in
theorem x_int_b (d : Nat) {g : List Ed} {a : Nat} {hs : List Sg} {tx : List Nat} {f : Int32} {v1 v2 v3 : Int32} (hv : ¬ ((isin v1 8 ∧ isin v2 8) ∧ isin v3 (5 + 1))) : XC mX8_interdict (d + 3) [.int v1, .int v2, .int v3] (g, a, hs, tx, f) (g, a, hs, tx, f) (.int (-2)) := by
  intro mu h hs0
  obtain ⟨hg, ha, hh, ht, hf⟩ := id hs0
  simp only at hg ha hh ht hf
  refine gd_of rfl (Nat.le_of_ble_eq_true rfl) ?_
  show rn_R none mX8_interdict (d + 3) 0 [some (.ref 0), some (.int v1), some (.int v2), some (.int v3)] [] mu h (fun r mu' _ => r = some (.int (-2)) ∧ xS (g, a, hs, tx, f) mu' ∧ ∀ c, 22 ≤ c → mu' c = mu c)
  refine rn_aload_n 1 dX8_interdict_0 rfl rfl rfl ?_
  refine rn_iload_n 2 dX8_interdict_1 rfl rfl rfl ?_
  refine rn_iload_n 3 dX8_interdict_2 rfl rfl rfl ?_
  refine rn_iload_n 4 dX8_interdict_3 rfl rfl rfl ?_
  refine rn_iconst (v := 0) 5 dX8_interdict_4 (by decide) rfl ?_
  refine rn_callV mX8_interdictResponse [.int v1, .int v2, .int v3, .int 0] [] dX8_interdict_5 cv_X8_161 rfl rfl rfl (by simp [Value.category]) (x_intR_b d (v4 := 0) (fun z => hv ⟨z.1, z.2.1⟩) mu h hs0) (fun r1 m1 h1 qq _ => ?_)
  obtain ⟨e1, x1, f1⟩ := qq
  subst e1
  show rn_R _ mX8_interdict _ 8 [some (.ref 0), some (.int v1), some (.int v2), some (.int v3)] [.int (-2)] m1 h1 _
  exact rn_iret rfl dX8_interdict_8 (⟨rfl, x1, f1⟩)

set_option maxRecDepth 100000 in
set_option maxHeartbeats 2000000 in
theorem x_int_t (d : Nat) {g : List Ed} {a : Nat} {hs : List Sg} {tx : List Nat} {f : Int32} {u v : Nat} (hu : u < 8) (hv : v < 8) {B : Nat} (hB : B < 6) {q : Kx} (hq : bst g B 0 (vA g u v 0 9999) q) : XC mX8_interdict (d + 22) [.int (nI u), .int (nI v), .int (nI B)] (g, a, hs, tx, f) (g, a, hs, tx, nI q.2.2) (.int (nI q.1)) := by
  intro mu h hs0
  obtain ⟨hg, ha, hh, ht, hf⟩ := id hs0
  simp only at hg ha hh ht hf
  refine gd_of rfl (Nat.le_of_ble_eq_true rfl) ?_
  show rn_R none mX8_interdict (d + 22) 0 [some (.ref 0), some (.int (nI u)), some (.int (nI v)), some (.int (nI B))] [] mu h (fun r mu' _ => r = some (.int (nI q.1)) ∧ xS (g, a, hs, tx, nI q.2.2) mu' ∧ ∀ c, 22 ≤ c → mu' c = mu c)
  refine rn_aload_n 1 dX8_interdict_0 rfl rfl rfl ?_
  refine rn_iload_n 2 dX8_interdict_1 rfl rfl rfl ?_
  refine rn_iload_n 3 dX8_interdict_2 rfl rfl rfl ?_
  refine rn_iload_n 4 dX8_interdict_3 rfl rfl rfl ?_
  refine rn_iconst (v := 0) 5 dX8_interdict_4 (by decide) rfl ?_
  refine rn_callV mX8_interdictResponse [.int (nI u), .int (nI v), .int (nI B), .int 0] [] dX8_interdict_5 cv_X8_161 rfl rfl rfl (by simp [Value.category]) (x_intR_t d hu hv hB (r := 0) (by omega) hq mu h hs0) (fun r1 m1 h1 qq _ => ?_)
  obtain ⟨e1, x1, f1⟩ := qq
  subst e1
  show rn_R _ mX8_interdict _ 8 [some (.ref 0), some (.int (nI u)), some (.int (nI v)), some (.int (nI B))] [.int (nI q.1)] m1 h1 _
  exact rn_iret rfl dX8_interdict_8 (⟨rfl, x1, f1⟩)

set_option maxRecDepth 100000 in
set_option maxHeartbeats 2000000 in
theorem x_bud_b (d : Nat) {g : List Ed} {a : Nat} {hs : List Sg} {tx : List Nat} {f : Int32} {v1 v2 v3 : Int32} (hv : ¬ ((isin v1 8 ∧ isin v2 8) ∧ isin v3 (9999 + 1))) : XC mX8_budgetFor (d + 2) [.int v1, .int v2, .int v3] (g, a, hs, tx, f) (g, a, hs, tx, f) (.int (-2)) := by
  intro mu h hs0
  obtain ⟨hg, ha, hh, ht, hf⟩ := id hs0
  simp only at hg ha hh ht hf
  refine gd_of rfl (Nat.le_of_ble_eq_true rfl) ?_
  show rn_R none mX8_budgetFor (d + 2) 0 [some (.ref 0), some (.int v1), some (.int v2), some (.int v3)] [] mu h (fun r mu' _ => r = some (.int (-2)) ∧ xS (g, a, hs, tx, f) mu' ∧ ∀ c, 22 ≤ c → mu' c = mu c)
  by_cases qq0 : isin v1 8 ∧ isin v2 8
  · skip
    have qq1 : ¬ (isin v3 (9999 + 1)) := fun z => hv ⟨qq0, z⟩
    refine rn_iload_n 1 dX8_budgetFor_0 rfl rfl rfl ?_
    refine rn_iload_n 2 dX8_budgetFor_1 rfl rfl rfl ?_
    refine rn_csp mX8_areNodes [.int v1, .int v2] [] 5 (.int 1) dX8_budgetFor_2 cs_X8_75 rfl rfl (by simp [Value.category]) rfl (c_areNodes_t (d) mu h qq0.1 qq0.2) ?_
    refine rn_if_eq 18 8 dX8_budgetFor_5 (by decide) rfl (fun c5 => absurd c5 (by decide)) (fun _ => ?_)
    refine rn_iload_n 9 dX8_budgetFor_8 rfl rfl rfl ?_
    refine rn_sipush (v := 9999) 12 dX8_budgetFor_9 (by decide) rfl ?_
    refine rn_csp mX8_isWithin [.int v3, .int 9999] [] 15 (.int 0) dX8_budgetFor_12 cs_X8_164 rfl rfl (by simp [Value.category]) rfl (c_isWithin_f (d + 1) mu h v3 9999 qq1 (by omega)) ?_
    refine rn_if_ne 21 18 dX8_budgetFor_15 (by decide) rfl (fun c15 => absurd (rfl) c15) (fun _ => ?_)
    refine rn_bipush (v := (-2)) 20 dX8_budgetFor_18 (by decide) rfl ?_
    exact rn_iret rfl dX8_budgetFor_20 (⟨rfl, hs0, fun _ _ => rfl⟩)
  · skip
    refine rn_iload_n 1 dX8_budgetFor_0 rfl rfl rfl ?_
    refine rn_iload_n 2 dX8_budgetFor_1 rfl rfl rfl ?_
    refine rn_csp mX8_areNodes [.int v1, .int v2] [] 5 (.int 0) dX8_budgetFor_2 cs_X8_75 rfl rfl (by simp [Value.category]) rfl (c_areNodes_f (d) mu h qq0) ?_
    refine rn_if_eq 18 8 dX8_budgetFor_5 (by decide) rfl (fun _ => ?_) (fun c5 => absurd (by decide) c5)
    refine rn_bipush (v := (-2)) 20 dX8_budgetFor_18 (by decide) rfl ?_
    exact rn_iret rfl dX8_budgetFor_20 (⟨rfl, hs0, fun _ _ => rfl⟩)

set_option maxRecDepth 100000 in
set_option maxHeartbeats 2000000 in
theorem x_bud_n (d : Nat) {g : List Ed} {a : Nat} {hs : List Sg} {tx : List Nat} {f : Int32} {u v : Nat} (hu : u < 8) (hv : v < 8) {m : Nat} (hm : m < 9999 + 1) {q : Kx} (hq : bst g 5 0 (vA g u v 0 m) q) (hn : q.1 < m) : XC mX8_budgetFor (d + 21) [.int (nI u), .int (nI v), .int (nI m)] (g, a, hs, tx, f) (g, a, hs, tx, f) (.int (-1)) := by
  intro mu h hs0
  obtain ⟨hg, ha, hh, ht, hf⟩ := id hs0
  simp only at hg ha hh ht hf
  refine gd_of rfl (Nat.le_of_ble_eq_true rfl) ?_
  show rn_R none mX8_budgetFor (d + 21) 0 [some (.ref 0), some (.int (nI u)), some (.int (nI v)), some (.int (nI m))] [] mu h (fun r mu' _ => r = some (.int (-1)) ∧ xS (g, a, hs, tx, f) mu' ∧ ∀ c, 22 ≤ c → mu' c = mu c)
  have hq2 := bst_le hg.2.1 hv hg.1 hq
  refine rn_iload_n 1 dX8_budgetFor_0 rfl rfl rfl ?_
  refine rn_iload_n 2 dX8_budgetFor_1 rfl rfl rfl ?_
  refine rn_csp mX8_areNodes [.int (nI u), .int (nI v)] [] 5 (.int 1) dX8_budgetFor_2 cs_X8_75 rfl rfl (by simp [Value.category]) rfl (c_areNodes_t (d + 19) mu h ⟨u, hu, rfl⟩ ⟨v, hv, rfl⟩) ?_
  refine rn_if_eq 18 8 dX8_budgetFor_5 (by decide) rfl (fun c5 => absurd c5 (by decide)) (fun _ => ?_)
  refine rn_iload_n 9 dX8_budgetFor_8 rfl rfl rfl ?_
  refine rn_sipush (v := 9999) 12 dX8_budgetFor_9 (by decide) rfl ?_
  refine rn_csp mX8_isWithin [.int (nI m), .int 9999] [] 15 (.int 1) dX8_budgetFor_12 cs_X8_164 rfl rfl (by simp [Value.category]) rfl (c_isWithin_i (d + 20) mu h (M := 9999) (⟨m, hm, rfl⟩) (by omega)) ?_
  refine rn_if_ne 21 18 dX8_budgetFor_15 (by decide) rfl (fun _ => ?_) (fun c15 => absurd c15 (by decide))
  refine rn_aload_n 22 dX8_budgetFor_21 rfl rfl rfl ?_
  refine rn_get 25 (.ref 19) dX8_budgetFor_22 fl_X8_51 rfl rfl rfl rfl ?_
  refine rn_iload_n 26 dX8_budgetFor_25 rfl rfl rfl ?_
  refine rn_iload_n 27 dX8_budgetFor_26 rfl rfl rfl ?_
  refine rn_iconst (v := 5) 28 dX8_budgetFor_27 (by decide) rfl ?_
  refine rn_iconst (v := 0) 29 dX8_budgetFor_28 (by decide) rfl ?_
  refine rn_iload_n 30 dX8_budgetFor_29 rfl rfl rfl ?_
  refine rn_iconst (v := 0) 31 dX8_budgetFor_30 (by decide) rfl ?_
  refine rn_callV mX0_seekBest [.int (nI u), .int (nI v), .int 5, .int 0, .int (nI m), .int 0] [] dX8_budgetFor_31 cv_X8_173 rfl rfl rfl (by simp [Value.category]) (c_seekBest (d) (B := 5) (rep := 0) (aim := m) (F := 0) hu hv (by omega) (by omega) (by omega) (by omega) hq h hg) (fun r1 m1 h1 qq _ => ?_)
  obtain ⟨e1, s1, s2, s3, f1⟩ := qq
  subst e1
  show rn_R _ mX8_budgetFor _ 34 [some (.ref 0), some (.int (nI u)), some (.int (nI v)), some (.int (nI m))] [] m1 h1 _
  refine rn_aload_n 35 dX8_budgetFor_34 rfl rfl rfl ?_
  refine rn_get 38 (.ref 19) dX8_budgetFor_35 fl_X8_51 rfl rfl rfl rfl ?_
  refine rn_get 41 (.int (m1 19 8)) dX8_budgetFor_38 fl_X8_177 rfl rfl rfl rfl ?_
  rw [s1]
  refine rn_iload_n 42 dX8_budgetFor_41 rfl rfl rfl ?_
  refine rn_icmp_ge 47 45 dX8_budgetFor_42 (by decide) rfl (fun c42 => absurd c42 (nI_ge hn (by omega))) (fun _ => ?_)
  refine rn_iconst (v := (-1)) 46 dX8_budgetFor_45 (by decide) rfl ?_
  exact rn_iret rfl dX8_budgetFor_46 (⟨rfl, xS_fr hs0 (fun c hc => f1 c (by omega) (by omega)), fun c hc => f1 c (by omega) (by omega)⟩)

set_option maxRecDepth 100000 in
set_option maxHeartbeats 2000000 in
theorem x_bud_t (d : Nat) {g : List Ed} {a : Nat} {hs : List Sg} {tx : List Nat} {f : Int32} {u v : Nat} (hu : u < 8) (hv : v < 8) {m : Nat} (hm : m < 9999 + 1) {q : Kx} (hq : bst g 5 0 (vA g u v 0 m) q) (hn : ¬ q.1 < m) : XC mX8_budgetFor (d + 21) [.int (nI u), .int (nI v), .int (nI m)] (g, a, hs, tx, f) (g, a, hs, tx, nI q.2.2) (.int (nI q.2.1)) := by
  intro mu h hs0
  obtain ⟨hg, ha, hh, ht, hf⟩ := id hs0
  simp only at hg ha hh ht hf
  refine gd_of rfl (Nat.le_of_ble_eq_true rfl) ?_
  show rn_R none mX8_budgetFor (d + 21) 0 [some (.ref 0), some (.int (nI u)), some (.int (nI v)), some (.int (nI m))] [] mu h (fun r mu' _ => r = some (.int (nI q.2.1)) ∧ xS (g, a, hs, tx, nI q.2.2) mu' ∧ ∀ c, 22 ≤ c → mu' c = mu c)
  have hq2 := bst_le hg.2.1 hv hg.1 hq
  refine rn_iload_n 1 dX8_budgetFor_0 rfl rfl rfl ?_
  refine rn_iload_n 2 dX8_budgetFor_1 rfl rfl rfl ?_
  refine rn_csp mX8_areNodes [.int (nI u), .int (nI v)] [] 5 (.int 1) dX8_budgetFor_2 cs_X8_75 rfl rfl (by simp [Value.category]) rfl (c_areNodes_t (d + 19) mu h ⟨u, hu, rfl⟩ ⟨v, hv, rfl⟩) ?_
  refine rn_if_eq 18 8 dX8_budgetFor_5 (by decide) rfl (fun c5 => absurd c5 (by decide)) (fun _ => ?_)
  refine rn_iload_n 9 dX8_budgetFor_8 rfl rfl rfl ?_
  refine rn_sipush (v := 9999) 12 dX8_budgetFor_9 (by decide) rfl ?_
  refine rn_csp mX8_isWithin [.int (nI m), .int 9999] [] 15 (.int 1) dX8_budgetFor_12 cs_X8_164 rfl rfl (by simp [Value.category]) rfl (c_isWithin_i (d + 20) mu h (M := 9999) (⟨m, hm, rfl⟩) (by omega)) ?_
  refine rn_if_ne 21 18 dX8_budgetFor_15 (by decide) rfl (fun _ => ?_) (fun c15 => absurd c15 (by decide))
  refine rn_aload_n 22 dX8_budgetFor_21 rfl rfl rfl ?_
  refine rn_get 25 (.ref 19) dX8_budgetFor_22 fl_X8_51 rfl rfl rfl rfl ?_
  refine rn_iload_n 26 dX8_budgetFor_25 rfl rfl rfl ?_
  refine rn_iload_n 27 dX8_budgetFor_26 rfl rfl rfl ?_
  refine rn_iconst (v := 5) 28 dX8_budgetFor_27 (by decide) rfl ?_
  refine rn_iconst (v := 0) 29 dX8_budgetFor_28 (by decide) rfl ?_
  refine rn_iload_n 30 dX8_budgetFor_29 rfl rfl rfl ?_
  refine rn_iconst (v := 0) 31 dX8_budgetFor_30 (by decide) rfl ?_
  refine rn_callV mX0_seekBest [.int (nI u), .int (nI v), .int 5, .int 0, .int (nI m), .int 0] [] dX8_budgetFor_31 cv_X8_173 rfl rfl rfl (by simp [Value.category]) (c_seekBest (d) (B := 5) (rep := 0) (aim := m) (F := 0) hu hv (by omega) (by omega) (by omega) (by omega) hq h hg) (fun r1 m1 h1 qq _ => ?_)
  obtain ⟨e1, s1, s2, s3, f1⟩ := qq
  subst e1
  show rn_R _ mX8_budgetFor _ 34 [some (.ref 0), some (.int (nI u)), some (.int (nI v)), some (.int (nI m))] [] m1 h1 _
  refine rn_aload_n 35 dX8_budgetFor_34 rfl rfl rfl ?_
  refine rn_get 38 (.ref 19) dX8_budgetFor_35 fl_X8_51 rfl rfl rfl rfl ?_
  refine rn_get 41 (.int (m1 19 8)) dX8_budgetFor_38 fl_X8_177 rfl rfl rfl rfl ?_
  rw [s1]
  refine rn_iload_n 42 dX8_budgetFor_41 rfl rfl rfl ?_
  refine rn_icmp_ge 47 45 dX8_budgetFor_42 (by decide) rfl (fun _ => ?_) (fun c42 => absurd (nI_le (by omega) (by omega)) c42)
  refine rn_aload_n 48 dX8_budgetFor_47 rfl rfl rfl ?_
  refine rn_aload_n 49 dX8_budgetFor_48 rfl rfl rfl ?_
  refine rn_get 52 (.ref 19) dX8_budgetFor_49 fl_X8_51 rfl rfl rfl rfl ?_
  refine rn_get 55 (.int (m1 19 10)) dX8_budgetFor_52 fl_X8_180 rfl rfl rfl rfl ?_
  refine rn_put 58 dX8_budgetFor_55 fp_X8_71 rfl rfl rfl rfl rfl ?_
  refine rn_aload_n 59 dX8_budgetFor_58 rfl rfl rfl ?_
  refine rn_get 62 (.ref 19) dX8_budgetFor_59 fl_X8_51 rfl rfl rfl rfl ?_
  refine rn_get 65 (.int (m1 19 9)) dX8_budgetFor_62 fl_X8_181 rfl rfl rfl rfl ?_
  exact rn_iret rfl dX8_budgetFor_65 (⟨by rw [s2], xS_fd hs0 (fun c h1 h2 => by simp [mu_s, show c ≠ 0 by omega]; exact f1 c (by omega) (by omega)) (by simp [mu_s, upd, s3]), fun c hc => by simp [mu_s, show c ≠ 0 by omega]; exact f1 c (by omega) (by omega)⟩)

set_option maxRecDepth 100000 in
set_option maxHeartbeats 2000000 in
theorem x_nev_b (d : Nat) {g : List Ed} {a : Nat} {hs : List Sg} {tx : List Nat} {f : Int32} {v1 v2 v3 : Int32} (hv : ¬ ((isin v1 8 ∧ isin v2 8) ∧ isin v3 (5 + 1))) : XC mX8_neverHelps (d + 2) [.int v1, .int v2, .int v3] (g, a, hs, tx, f) (g, a, hs, tx, f) (.int (-2)) := by
  intro mu h hs0
  obtain ⟨hg, ha, hh, ht, hf⟩ := id hs0
  simp only at hg ha hh ht hf
  refine gd_of rfl (Nat.le_of_ble_eq_true rfl) ?_
  show rn_R none mX8_neverHelps (d + 2) 0 [some (.ref 0), some (.int v1), some (.int v2), some (.int v3)] [] mu h (fun r mu' _ => r = some (.int (-2)) ∧ xS (g, a, hs, tx, f) mu' ∧ ∀ c, 22 ≤ c → mu' c = mu c)
  by_cases qq0 : isin v1 8 ∧ isin v2 8
  · skip
    have qq1 : ¬ (isin v3 (5 + 1)) := fun z => hv ⟨qq0, z⟩
    refine rn_iload_n 1 dX8_neverHelps_0 rfl rfl rfl ?_
    refine rn_iload_n 2 dX8_neverHelps_1 rfl rfl rfl ?_
    refine rn_csp mX8_areNodes [.int v1, .int v2] [] 5 (.int 1) dX8_neverHelps_2 cs_X8_75 rfl rfl (by simp [Value.category]) rfl (c_areNodes_t (d) mu h qq0.1 qq0.2) ?_
    refine rn_if_eq 16 8 dX8_neverHelps_5 (by decide) rfl (fun c5 => absurd c5 (by decide)) (fun _ => ?_)
    refine rn_iload_n 9 dX8_neverHelps_8 rfl rfl rfl ?_
    refine rn_iconst (v := 5) 10 dX8_neverHelps_9 (by decide) rfl ?_
    refine rn_csp mX8_isWithin [.int v3, .int 5] [] 13 (.int 0) dX8_neverHelps_10 cs_X8_164 rfl rfl (by simp [Value.category]) rfl (c_isWithin_f (d + 1) mu h v3 5 qq1 (by omega)) ?_
    refine rn_if_ne 19 16 dX8_neverHelps_13 (by decide) rfl (fun c13 => absurd (rfl) c13) (fun _ => ?_)
    refine rn_bipush (v := (-2)) 18 dX8_neverHelps_16 (by decide) rfl ?_
    exact rn_iret rfl dX8_neverHelps_18 (⟨rfl, hs0, fun _ _ => rfl⟩)
  · skip
    refine rn_iload_n 1 dX8_neverHelps_0 rfl rfl rfl ?_
    refine rn_iload_n 2 dX8_neverHelps_1 rfl rfl rfl ?_
    refine rn_csp mX8_areNodes [.int v1, .int v2] [] 5 (.int 0) dX8_neverHelps_2 cs_X8_75 rfl rfl (by simp [Value.category]) rfl (c_areNodes_f (d) mu h qq0) ?_
    refine rn_if_eq 16 8 dX8_neverHelps_5 (by decide) rfl (fun _ => ?_) (fun c5 => absurd (by decide) c5)
    refine rn_bipush (v := (-2)) 18 dX8_neverHelps_16 (by decide) rfl ?_
    exact rn_iret rfl dX8_neverHelps_18 (⟨rfl, hs0, fun _ _ => rfl⟩)

set_option maxRecDepth 100000 in
set_option maxHeartbeats 2000000 in
theorem x_nev_t (d : Nat) {g : List Ed} {a : Nat} {hs : List Sg} {tx : List Nat} {f : Int32} {u v : Nat} (hu : u < 8) (hv : v < 8) {B : Nat} (hB : B < 6) : XC mX8_neverHelps (d + 21) [.int (nI u), .int (nI v), .int (nI B)] (g, a, hs, tx, f) (g, a, hs, tx, f) (.int (nI (nd (2 ^ g.length - 1) (hlpF g u v B)))) := by
  intro mu h hs0
  obtain ⟨hg, ha, hh, ht, hf⟩ := id hs0
  simp only at hg ha hh ht hf
  refine gd_of rfl (Nat.le_of_ble_eq_true rfl) ?_
  show rn_R none mX8_neverHelps (d + 21) 0 [some (.ref 0), some (.int (nI u)), some (.int (nI v)), some (.int (nI B))] [] mu h (fun r mu' _ => r = some (.int (nI (nd (2 ^ g.length - 1) (hlpF g u v B)))) ∧ xS (g, a, hs, tx, f) mu' ∧ ∀ c, 22 ≤ c → mu' c = mu c)
  refine rn_iload_n 1 dX8_neverHelps_0 rfl rfl rfl ?_
  refine rn_iload_n 2 dX8_neverHelps_1 rfl rfl rfl ?_
  refine rn_csp mX8_areNodes [.int (nI u), .int (nI v)] [] 5 (.int 1) dX8_neverHelps_2 cs_X8_75 rfl rfl (by simp [Value.category]) rfl (c_areNodes_t (d + 19) mu h ⟨u, hu, rfl⟩ ⟨v, hv, rfl⟩) ?_
  refine rn_if_eq 16 8 dX8_neverHelps_5 (by decide) rfl (fun c5 => absurd c5 (by decide)) (fun _ => ?_)
  refine rn_iload_n 9 dX8_neverHelps_8 rfl rfl rfl ?_
  refine rn_iconst (v := 5) 10 dX8_neverHelps_9 (by decide) rfl ?_
  refine rn_csp mX8_isWithin [.int (nI B), .int 5] [] 13 (.int 1) dX8_neverHelps_10 cs_X8_164 rfl rfl (by simp [Value.category]) rfl (c_isWithin_i (d + 20) mu h (M := 5) (⟨B, hB, rfl⟩) (by omega)) ?_
  refine rn_if_ne 19 16 dX8_neverHelps_13 (by decide) rfl (fun _ => ?_) (fun c13 => absurd c13 (by decide))
  refine rn_aload_n 20 dX8_neverHelps_19 rfl rfl rfl ?_
  refine rn_get 23 (.ref 19) dX8_neverHelps_20 fl_X8_51 rfl rfl rfl rfl ?_
  refine rn_iload_n 24 dX8_neverHelps_23 rfl rfl rfl ?_
  refine rn_iload_n 25 dX8_neverHelps_24 rfl rfl rfl ?_
  refine rn_iload_n 26 dX8_neverHelps_25 rfl rfl rfl ?_
  refine rn_callV mX0_seekHelpful [.int (nI u), .int (nI v), .int (nI B)] [] dX8_neverHelps_26 cv_X8_190 rfl rfl rfl (by simp [Value.category]) (c_seekHelp d (B := B) hu hv (by omega) h hg) (fun r1 m1 h1 qq _ => ?_)
  obtain ⟨e1, s1, f1⟩ := qq
  subst e1
  have hg1 : xg g m1 := xg_of hg (by rw [f1 1 (by omega) (by omega)]) (f1 2 (by omega) (by omega))
  show rn_R _ mX8_neverHelps _ 29 [some (.ref 0), some (.int (nI u)), some (.int (nI v)), some (.int (nI B))] [] m1 h1 _
  refine rn_aload_n 30 dX8_neverHelps_29 rfl rfl rfl ?_
  refine rn_get 33 (.ref 1) dX8_neverHelps_30 fl_X8_10 rfl rfl rfl rfl ?_
  refine rn_cvp mX2_all [] [] 36 (.int (nI (2 ^ g.length - 1))) dX8_neverHelps_33 cv_X8_193 rfl rfl rfl (by simp [Value.category]) rfl (c_all (d + 20) h1 hg1) ?_
  refine rn_aload_n 37 dX8_neverHelps_36 rfl rfl rfl ?_
  refine rn_get 40 (.ref 19) dX8_neverHelps_37 fl_X8_51 rfl rfl rfl rfl ?_
  refine rn_get 43 (.int (m1 19 11)) dX8_neverHelps_40 fl_X8_196 rfl rfl rfl rfl ?_
  refine rn_iconst (v := (-1)) 44 dX8_neverHelps_43 (by decide) rfl ?_
  refine rn_ixor 45 dX8_neverHelps_44 rfl ?_
  refine rn_iand 46 dX8_neverHelps_45 rfl ?_
  exact rn_iret rfl dX8_neverHelps_46 (⟨by rw [s1, nb_andn], xS_fr hs0 (fun c hc => f1 c (by omega) (by omega)), fun c hc => f1 c (by omega) (by omega)⟩)
