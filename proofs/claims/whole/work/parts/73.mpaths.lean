/-! BOTH SIDES: paths, pathLength, first -/
def FP (mu0 mu : Nat → Nat → Int32) : Prop := (∀ c, c ≠ 22 → c ≠ 28 → c ≠ 29 → c ≠ 30 → mu c = mu0 c) ∧ ∀ j, j ≠ 12 → j ≠ 13 → j ≠ 14 → mu 22 j = mu0 22 j
theorem FP_rfl (mu : Nat → Nat → Int32) : FP mu mu := ⟨fun _ _ _ _ _ => rfl, fun _ _ _ _ => rfl⟩
theorem FP_tr {a b c : Nat → Nat → Int32} (h1 : FP a b) (h2 : FP b c) : FP a c := ⟨fun x h3 h4 h5 h6 => (h2.1 x h3 h4 h5 h6).trans (h1.1 x h3 h4 h5 h6), fun j h3 h4 h5 => (h2.2 j h3 h4 h5).trans (h1.2 j h3 h4 h5)⟩
theorem FP_N {a b : Nat → Nat → Int32} (h : FN a b) : FP a b := ⟨fun x h3 h4 _ _ => h.1 x h3 h4, h.2⟩
theorem mg_FP {g : List Ed} {a b : Nat → Nat → Int32} (h : mg g a) (f : FP a b) : mg g b := mg_of h (f.1 23 (by omega) (by omega) (by omega) (by omega))
theorem ma_FP {g : List Ed} {n : Nat} {a b : Nat → Nat → Int32} (h : ma g n a) (f : FP a b) : ma g n b := by
  unfold ma at h ⊢
  rw [f.1 23 (by omega) (by omega) (by omega) (by omega)]
  exact h
theorem mS_FP {g : List Ed} {a : Nat} {hs : List Sg} {tx : List Nat} {f : Int32} {mu mu' : Nat → Nat → Int32} (h : mS (g, a, hs, tx, f) mu) (q : FP mu mu') : mS (g, a, hs, tx, f) mu' := mS_fd h (fun c c1 c2 => q.1 c (by omega) (by omega) (by omega) (by omega)) (q.2 2 (by omega) (by omega) (by omega)) (q.2 5 (by omega) (by omega) (by omega)) ((q.2 3 (by omega) (by omega) (by omega)).trans h.2.2.2.2)
def cnP (g : List Ed) (a m : Nat) (L : List (List Nat)) : Nat := (L.filter (fun Q => decide (ptL g a Q ≤ m))).length
theorem cnP_y {g : List Ed} {a m : Nat} {Q : List Nat} {L : List (List Nat)} (h : ptL g a Q ≤ m) : cnP g a m (Q :: L) = cnP g a m L + 1 := by
  unfold cnP
  rw [List.filter_cons_of_pos (by simpa using h)]
  rfl
theorem cnP_n {g : List Ed} {a m : Nat} {Q : List Nat} {L : List (List Nat)} (h : ¬ ptL g a Q ≤ m) : cnP g a m (Q :: L) = cnP g a m L := by
  unfold cnP
  rw [List.filter_cons_of_neg (by simpa using h)]
theorem ptL_9 {g : List Ed} {a s : Nat} (ho : ∀ x ∈ g, e_ok x) (hs : s < 8) {q : List Nat} (h : ptV g a s q) : ptL g a q ≤ 1393 := by
  have a2 := ptL_le ho q h
  have a3 := ptV_len ho hs h
  omega

set_option maxRecDepth 100000 in
set_option maxHeartbeats 2000000 in
theorem lp_mpat (d : Nat) {g : List Ed} {a s t : Nat} (hs : s < 8) (ht : t < 8) {m : Nat} (hm : m < 2 ^ 31) {mu0 : Nat → Nat → Int32} : ∀ (rest : List (List Nat)) (q : List Nat) (n : Nat) (mu : Nat → Nat → Int32) (h : Int64), SPx g a s q mu → ptV g a s q → ptE g s q = t → ptF g s t (ptX g a s t q) = rest → mg g mu → ma g a mu → FP mu0 mu → rn_R none mX9_paths (d + 5) 32 [some (.ref 22), some (.int (nI s)), some (.int (nI t)), some (.int (nI m)), some (.int (nI n)), some (.int 1)] [] mu h (fun r mu' _ => r = some (.int (nI (n + cnP g a m (q :: rest)))) ∧ FP mu0 mu') := by
  intro rest
  induction rest with
  | nil =>
    intro q n mu h hP hv he hr hg ha hfp
    obtain ⟨p1, p2, p3, p4⟩ := id hP
    have h9 := ptL_9 hg.2.1 hs hv
    by_cases qm : ptL g a q ≤ m
    · skip
      refine rn_iload 34 dX9_paths_32 rfl rfl ?_
      refine rn_if_eq 67 37 dX9_paths_34 (by decide) rfl (fun c34 => absurd c34 (by decide)) (fun _ => ?_)
      refine rn_iload 39 dX9_paths_37 rfl rfl ?_
      refine rn_aload_n 40 dX9_paths_39 rfl rfl rfl ?_
      refine rn_get 43 (.int (mu 22 13)) dX9_paths_40 fl_X9_141 rfl rfl rfl rfl ?_
      refine rn_iload_n 44 dX9_paths_43 rfl rfl rfl ?_
      refine rn_icmp_gt 51 47 dX9_paths_44 (by decide) rfl (fun c44 => absurd c44 (by rw [p2]; exact nI_nlt qm (by omega))) (fun _ => ?_)
      refine rn_iconst (v := 1) 48 dX9_paths_47 (by decide) rfl ?_
      refine rn_goto 52 dX9_paths_48 (by decide) ?_
      refine rn_iadd 53 dX9_paths_52 rfl ?_
      rw [nI_1]
      refine rn_istore 55 [some (.ref 22), some (.int (nI s)), some (.int (nI t)), some (.int (nI m)), some (.int (nI (n + 1))), some (.int 1)] dX9_paths_53 rfl (Nat.le_of_ble_eq_true rfl) rfl ?_
      refine rn_aload_n 56 dX9_paths_55 rfl rfl rfl ?_
      refine rn_iload_n 57 dX9_paths_56 rfl rfl rfl ?_
      refine rn_iload_n 58 dX9_paths_57 rfl rfl rfl ?_
      refine rn_iconst (v := 0) 59 dX9_paths_58 (by decide) rfl ?_
      refine rn_callV mX9_nextPath [.int (nI s), .int (nI t), .int 0] [] dX9_paths_59 cv_X9_159 rfl rfl rfl (by simp [Value.category]) (c_npN (d) h hg hs ht hv hP ha he) (fun r1 m1 h1 qq _ => ?_)
      obtain ⟨b1, f1⟩ := qq
      rw [hr] at b1
      subst b1
      show rn_R _ mX9_paths _ 62 [some (.ref 22), some (.int (nI s)), some (.int (nI t)), some (.int (nI m)), some (.int (nI (n + 1))), some (.int 1)] [.int 0] m1 h1 _
      refine rn_istore 64 [some (.ref 22), some (.int (nI s)), some (.int (nI t)), some (.int (nI m)), some (.int (nI (n + 1))), some (.int 0)] dX9_paths_62 rfl (Nat.le_of_ble_eq_true rfl) rfl ?_
      refine rn_goto 32 dX9_paths_64 (by decide) ?_
      refine rn_iload 34 dX9_paths_32 rfl rfl ?_
      refine rn_if_eq 67 37 dX9_paths_34 (by decide) rfl (fun _ => ?_) (fun c34 => absurd (by decide) c34)
      refine rn_iload 69 dX9_paths_67 rfl rfl ?_
      exact rn_iret rfl dX9_paths_69 (⟨by rw [cnP_y qm]; rfl, FP_tr hfp (FP_N f1)⟩)
    · skip
      refine rn_iload 34 dX9_paths_32 rfl rfl ?_
      refine rn_if_eq 67 37 dX9_paths_34 (by decide) rfl (fun c34 => absurd c34 (by decide)) (fun _ => ?_)
      refine rn_iload 39 dX9_paths_37 rfl rfl ?_
      refine rn_aload_n 40 dX9_paths_39 rfl rfl rfl ?_
      refine rn_get 43 (.int (mu 22 13)) dX9_paths_40 fl_X9_141 rfl rfl rfl rfl ?_
      refine rn_iload_n 44 dX9_paths_43 rfl rfl rfl ?_
      refine rn_icmp_gt 51 47 dX9_paths_44 (by decide) rfl (fun _ => ?_) (fun c44 => absurd (by rw [p2]; exact nI_lt (by omega) (by omega)) c44)
      refine rn_iconst (v := 0) 52 dX9_paths_51 (by decide) rfl ?_
      refine rn_iadd 53 dX9_paths_52 rfl ?_
      rw [show nI n + 0 = nI n from nI_add _ 0]
      refine rn_istore 55 [some (.ref 22), some (.int (nI s)), some (.int (nI t)), some (.int (nI m)), some (.int (nI n)), some (.int 1)] dX9_paths_53 rfl (Nat.le_of_ble_eq_true rfl) rfl ?_
      refine rn_aload_n 56 dX9_paths_55 rfl rfl rfl ?_
      refine rn_iload_n 57 dX9_paths_56 rfl rfl rfl ?_
      refine rn_iload_n 58 dX9_paths_57 rfl rfl rfl ?_
      refine rn_iconst (v := 0) 59 dX9_paths_58 (by decide) rfl ?_
      refine rn_callV mX9_nextPath [.int (nI s), .int (nI t), .int 0] [] dX9_paths_59 cv_X9_159 rfl rfl rfl (by simp [Value.category]) (c_npN (d) h hg hs ht hv hP ha he) (fun r1 m1 h1 qq _ => ?_)
      obtain ⟨b1, f1⟩ := qq
      rw [hr] at b1
      subst b1
      show rn_R _ mX9_paths _ 62 [some (.ref 22), some (.int (nI s)), some (.int (nI t)), some (.int (nI m)), some (.int (nI n)), some (.int 1)] [.int 0] m1 h1 _
      refine rn_istore 64 [some (.ref 22), some (.int (nI s)), some (.int (nI t)), some (.int (nI m)), some (.int (nI n)), some (.int 0)] dX9_paths_62 rfl (Nat.le_of_ble_eq_true rfl) rfl ?_
      refine rn_goto 32 dX9_paths_64 (by decide) ?_
      refine rn_iload 34 dX9_paths_32 rfl rfl ?_
      refine rn_if_eq 67 37 dX9_paths_34 (by decide) rfl (fun _ => ?_) (fun c34 => absurd (by decide) c34)
      refine rn_iload 69 dX9_paths_67 rfl rfl ?_
      exact rn_iret rfl dX9_paths_69 (⟨by rw [cnP_n qm]; rfl, FP_tr hfp (FP_N f1)⟩)
  | cons q2 rest ih =>
    intro q n mu h hP hv he hr hg ha hfp
    obtain ⟨p1, p2, p3, p4⟩ := id hP
    have h9 := ptL_9 hg.2.1 hs hv
    by_cases qm : ptL g a q ≤ m
    · skip
      refine rn_iload 34 dX9_paths_32 rfl rfl ?_
      refine rn_if_eq 67 37 dX9_paths_34 (by decide) rfl (fun c34 => absurd c34 (by decide)) (fun _ => ?_)
      refine rn_iload 39 dX9_paths_37 rfl rfl ?_
      refine rn_aload_n 40 dX9_paths_39 rfl rfl rfl ?_
      refine rn_get 43 (.int (mu 22 13)) dX9_paths_40 fl_X9_141 rfl rfl rfl rfl ?_
      refine rn_iload_n 44 dX9_paths_43 rfl rfl rfl ?_
      refine rn_icmp_gt 51 47 dX9_paths_44 (by decide) rfl (fun c44 => absurd c44 (by rw [p2]; exact nI_nlt qm (by omega))) (fun _ => ?_)
      refine rn_iconst (v := 1) 48 dX9_paths_47 (by decide) rfl ?_
      refine rn_goto 52 dX9_paths_48 (by decide) ?_
      refine rn_iadd 53 dX9_paths_52 rfl ?_
      rw [nI_1]
      refine rn_istore 55 [some (.ref 22), some (.int (nI s)), some (.int (nI t)), some (.int (nI m)), some (.int (nI (n + 1))), some (.int 1)] dX9_paths_53 rfl (Nat.le_of_ble_eq_true rfl) rfl ?_
      refine rn_aload_n 56 dX9_paths_55 rfl rfl rfl ?_
      refine rn_iload_n 57 dX9_paths_56 rfl rfl rfl ?_
      refine rn_iload_n 58 dX9_paths_57 rfl rfl rfl ?_
      refine rn_iconst (v := 0) 59 dX9_paths_58 (by decide) rfl ?_
      refine rn_callV mX9_nextPath [.int (nI s), .int (nI t), .int 0] [] dX9_paths_59 cv_X9_159 rfl rfl rfl (by simp [Value.category]) (c_npN (d) h hg hs ht hv hP ha he) (fun r1 m1 h1 qq _ => ?_)
      obtain ⟨b1, f1⟩ := qq
      rw [hr] at b1
      obtain ⟨e1, b2, b3, b4, b5⟩ := b1
      subst e1
      show rn_R _ mX9_paths _ 62 [some (.ref 22), some (.int (nI s)), some (.int (nI t)), some (.int (nI m)), some (.int (nI (n + 1))), some (.int 1)] [.int 1] m1 h1 _
      refine rn_istore 64 [some (.ref 22), some (.int (nI s)), some (.int (nI t)), some (.int (nI m)), some (.int (nI (n + 1))), some (.int 1)] dX9_paths_62 rfl (Nat.le_of_ble_eq_true rfl) rfl ?_
      refine rn_goto 32 dX9_paths_64 (by decide) ?_
      have z := ih q2 (n + 1) m1 h1 b2 b3 b4 b5 (mg_FN hg f1) (ma_FN ha f1) (FP_tr hfp (FP_N f1))
      rw [cnP_y qm, show n + (cnP g a m (q2 :: rest) + 1) = n + 1 + cnP g a m (q2 :: rest) by omega]
      exact z
    · skip
      refine rn_iload 34 dX9_paths_32 rfl rfl ?_
      refine rn_if_eq 67 37 dX9_paths_34 (by decide) rfl (fun c34 => absurd c34 (by decide)) (fun _ => ?_)
      refine rn_iload 39 dX9_paths_37 rfl rfl ?_
      refine rn_aload_n 40 dX9_paths_39 rfl rfl rfl ?_
      refine rn_get 43 (.int (mu 22 13)) dX9_paths_40 fl_X9_141 rfl rfl rfl rfl ?_
      refine rn_iload_n 44 dX9_paths_43 rfl rfl rfl ?_
      refine rn_icmp_gt 51 47 dX9_paths_44 (by decide) rfl (fun _ => ?_) (fun c44 => absurd (by rw [p2]; exact nI_lt (by omega) (by omega)) c44)
      refine rn_iconst (v := 0) 52 dX9_paths_51 (by decide) rfl ?_
      refine rn_iadd 53 dX9_paths_52 rfl ?_
      rw [show nI n + 0 = nI n from nI_add _ 0]
      refine rn_istore 55 [some (.ref 22), some (.int (nI s)), some (.int (nI t)), some (.int (nI m)), some (.int (nI n)), some (.int 1)] dX9_paths_53 rfl (Nat.le_of_ble_eq_true rfl) rfl ?_
      refine rn_aload_n 56 dX9_paths_55 rfl rfl rfl ?_
      refine rn_iload_n 57 dX9_paths_56 rfl rfl rfl ?_
      refine rn_iload_n 58 dX9_paths_57 rfl rfl rfl ?_
      refine rn_iconst (v := 0) 59 dX9_paths_58 (by decide) rfl ?_
      refine rn_callV mX9_nextPath [.int (nI s), .int (nI t), .int 0] [] dX9_paths_59 cv_X9_159 rfl rfl rfl (by simp [Value.category]) (c_npN (d) h hg hs ht hv hP ha he) (fun r1 m1 h1 qq _ => ?_)
      obtain ⟨b1, f1⟩ := qq
      rw [hr] at b1
      obtain ⟨e1, b2, b3, b4, b5⟩ := b1
      subst e1
      show rn_R _ mX9_paths _ 62 [some (.ref 22), some (.int (nI s)), some (.int (nI t)), some (.int (nI m)), some (.int (nI n)), some (.int 1)] [.int 1] m1 h1 _
      refine rn_istore 64 [some (.ref 22), some (.int (nI s)), some (.int (nI t)), some (.int (nI m)), some (.int (nI n)), some (.int 1)] dX9_paths_62 rfl (Nat.le_of_ble_eq_true rfl) rfl ?_
      refine rn_goto 32 dX9_paths_64 (by decide) ?_
      have z := ih q2 (n) m1 h1 b2 b3 b4 b5 (mg_FN hg f1) (ma_FN ha f1) (FP_tr hfp (FP_N f1))
      rw [cnP_n qm]
      exact z

set_option maxRecDepth 100000 in
set_option maxHeartbeats 2000000 in
theorem m_pat_b (d : Nat) {g : List Ed} {a : Nat} {hs : List Sg} {tx : List Nat} {f : Int32} {v1 v2 v3 : Int32} (hv : ¬ ((isin v1 8 ∧ isin v2 8) ∧ ¬ v3 < 0)) : MC mX9_paths (d + 2) [.int v1, .int v2, .int v3] (g, a, hs, tx, f) (g, a, hs, tx, f) (.int (-2)) := by
  intro mu h hs0
  obtain ⟨hg, ha, hh, ht, hf⟩ := id hs0
  simp only at hg ha hh ht hf
  refine gd_of rfl (Nat.le_of_ble_eq_true rfl) ?_
  show rn_R none mX9_paths (d + 2) 0 [some (.ref 22), some (.int v1), some (.int v2), some (.int v3), none, none] [] mu h (fun r mu' _ => r = some (.int (-2)) ∧ mS (g, a, hs, tx, f) mu' ∧ ∀ c, c < 22 → mu' c = mu c)
  by_cases q1 : isin v1 8 ∧ isin v2 8
  · skip
    have q3 : v3 < 0 := Classical.byContradiction (fun z => hv ⟨q1, z⟩)
    refine rn_iload_n 1 dX9_paths_0 rfl rfl rfl ?_
    refine rn_iload_n 2 dX9_paths_1 rfl rfl rfl ?_
    refine rn_csp mX9_areNodes [.int v1, .int v2] [] 5 (.int 1) dX9_paths_2 cs_X9_53 rfl rfl (by simp [Value.category]) rfl (c_mareNodes_t d mu h q1.1 q1.2) ?_
    refine rn_if_eq 12 8 dX9_paths_5 (by decide) rfl (fun c5 => absurd c5 (by decide)) (fun _ => ?_)
    refine rn_iload_n 9 dX9_paths_8 rfl rfl rfl ?_
    refine rn_if_ge 15 12 dX9_paths_9 (by decide) rfl (fun c9 => absurd c9 (Int32.not_le.mpr q3)) (fun _ => ?_)
    refine rn_bipush (v := (-2)) 14 dX9_paths_12 (by decide) rfl ?_
    exact rn_iret rfl dX9_paths_14 (⟨rfl, hs0, fun _ _ => rfl⟩)
  · skip
    refine rn_iload_n 1 dX9_paths_0 rfl rfl rfl ?_
    refine rn_iload_n 2 dX9_paths_1 rfl rfl rfl ?_
    refine rn_csp mX9_areNodes [.int v1, .int v2] [] 5 (.int 0) dX9_paths_2 cs_X9_53 rfl rfl (by simp [Value.category]) rfl (c_mareNodes_f d mu h q1) ?_
    refine rn_if_eq 12 8 dX9_paths_5 (by decide) rfl (fun _ => ?_) (fun c5 => absurd (by decide) c5)
    refine rn_bipush (v := (-2)) 14 dX9_paths_12 (by decide) rfl ?_
    exact rn_iret rfl dX9_paths_14 (⟨rfl, hs0, fun _ _ => rfl⟩)

set_option maxRecDepth 100000 in
set_option maxHeartbeats 2000000 in
theorem m_pat_t (d : Nat) {g : List Ed} {a : Nat} {hs : List Sg} {tx : List Nat} {f : Int32} {u v : Nat} (hu : u < 8) (hv : v < 8) {m : Nat} (hm : m < 2 ^ 31) : MC mX9_paths (d + 5) [.int (nI u), .int (nI v), .int (nI m)] (g, a, hs, tx, f) (g, a, hs, tx, f) (.int (nI (ctP g a u v m))) := by
  intro mu h hs0
  obtain ⟨hg, ha, hh, ht, hf⟩ := id hs0
  simp only at hg ha hh ht hf
  refine gd_of rfl (Nat.le_of_ble_eq_true rfl) ?_
  show rn_R none mX9_paths (d + 5) 0 [some (.ref 22), some (.int (nI u)), some (.int (nI v)), some (.int (nI m)), none, none] [] mu h (fun r mu' _ => r = some (.int (nI (ctP g a u v m))) ∧ mS (g, a, hs, tx, f) mu' ∧ ∀ c, c < 22 → mu' c = mu c)
  refine rn_iload_n 1 dX9_paths_0 rfl rfl rfl ?_
  refine rn_iload_n 2 dX9_paths_1 rfl rfl rfl ?_
  refine rn_csp mX9_areNodes [.int (nI u), .int (nI v)] [] 5 (.int 1) dX9_paths_2 cs_X9_53 rfl rfl (by simp [Value.category]) rfl (c_mareNodes_t (d + 3) mu h ⟨u, hu, rfl⟩ ⟨v, hv, rfl⟩) ?_
  refine rn_if_eq 12 8 dX9_paths_5 (by decide) rfl (fun c5 => absurd c5 (by decide)) (fun _ => ?_)
  refine rn_iload_n 9 dX9_paths_8 rfl rfl rfl ?_
  refine rn_if_ge 15 12 dX9_paths_9 (by decide) rfl (fun _ => ?_) (fun c9 => absurd (nI_pos' hm) c9)
  refine rn_iconst (v := 0) 16 dX9_paths_15 (by decide) rfl ?_
  refine rn_istore 18 [some (.ref 22), some (.int (nI u)), some (.int (nI v)), some (.int (nI m)), some (.int 0), none] dX9_paths_16 rfl (Nat.le_of_ble_eq_true rfl) rfl ?_
  refine rn_aload_n 19 dX9_paths_18 rfl rfl rfl ?_
  refine rn_iload_n 20 dX9_paths_19 rfl rfl rfl ?_
  refine rn_callV mX9_starts [.int (nI u)] [] dX9_paths_20 cv_X9_156 rfl rfl rfl (by simp [Value.category]) (c_starts (d + 4) (g := g) (a := a) h hu) (fun r1 m1 h1 qq _ => ?_)
  obtain ⟨e1, s1, f1⟩ := qq
  subst e1
  have hg1 := mg_FN hg f1
  have ha1 := ma_FN ha f1
  show rn_R _ mX9_paths _ 23 [some (.ref 22), some (.int (nI u)), some (.int (nI v)), some (.int (nI m)), some (.int 0), none] [] m1 h1 _
  refine rn_aload_n 24 dX9_paths_23 rfl rfl rfl ?_
  refine rn_iload_n 25 dX9_paths_24 rfl rfl rfl ?_
  refine rn_iload_n 26 dX9_paths_25 rfl rfl rfl ?_
  refine rn_iconst (v := 1) 27 dX9_paths_26 (by decide) rfl ?_
  refine rn_callV mX9_nextPath [.int (nI u), .int (nI v), .int 1] [] dX9_paths_27 cv_X9_159 rfl rfl rfl (by simp [Value.category]) (c_npF (d) h1 hg1 hu hv trivial s1 ha1) (fun r2 m2 h2 qq _ => ?_)
  obtain ⟨b2, f2⟩ := qq
  have eP : ptF g u v (ptA g a u v 8 []) = ptP g a u v := rfl
  rw [eP] at b2
  cases hL : ptP g a u v with
  | nil =>
    rw [hL] at b2
    subst b2
    show rn_R _ mX9_paths _ 30 [some (.ref 22), some (.int (nI u)), some (.int (nI v)), some (.int (nI m)), some (.int 0), none] [.int 0] m2 h2 _
    refine rn_istore 32 [some (.ref 22), some (.int (nI u)), some (.int (nI v)), some (.int (nI m)), some (.int 0), some (.int 0)] dX9_paths_30 rfl (Nat.le_of_ble_eq_true rfl) rfl ?_
    refine rn_iload 34 dX9_paths_32 rfl rfl ?_
    refine rn_if_eq 67 37 dX9_paths_34 (by decide) rfl (fun _ => ?_) (fun c34 => absurd (by decide) c34)
    refine rn_iload 69 dX9_paths_67 rfl rfl ?_
    exact rn_iret rfl dX9_paths_69 (⟨by unfold ctP; rw [hL]; rfl, mS_FP hs0 (FP_tr (FP_N f1) (FP_N f2)), fun c hc => (FP_tr (FP_N f1) (FP_N f2)).1 c (by omega) (by omega) (by omega) (by omega)⟩)
  | cons q rest =>
    rw [hL] at b2
    obtain ⟨e2, c2, c3, c4, c5⟩ := b2
    subst e2
    show rn_R _ mX9_paths _ 30 [some (.ref 22), some (.int (nI u)), some (.int (nI v)), some (.int (nI m)), some (.int 0), none] [.int 1] m2 h2 _
    refine rn_istore 32 [some (.ref 22), some (.int (nI u)), some (.int (nI v)), some (.int (nI m)), some (.int 0), some (.int 1)] dX9_paths_30 rfl (Nat.le_of_ble_eq_true rfl) rfl ?_
    refine rn_mono (lp_mpat d hu hv hm (mu0 := mu) rest q 0 m2 h2 c2 c3 c4 c5 (mg_FN hg1 f2) (ma_FN ha1 f2) (FP_tr (FP_N f1) (FP_N f2))) (fun r m3 h3 z => ?_)
    refine ⟨?_, mS_FP hs0 z.2, fun c hc => z.2.1 c (by omega) (by omega) (by omega) (by omega)⟩
    rw [z.1, Nat.zero_add]
    unfold ctP
    rw [hL]
    rfl

theorem op_paths (v1 v2 v3 : Int32) : OP mX8_paths mX9_paths [.int v1, .int v2, .int v3] := by
  rintro ⟨g, a, hs, tx, f⟩
  by_cases hv : (isin v1 8 ∧ isin v2 8) ∧ ¬ v3 < 0
  · obtain ⟨⟨⟨u, hu, rfl⟩, v, hv, rfl⟩, h3⟩ := hv
    obtain ⟨m, hm, rfl⟩ := nI_of h3
    exact ⟨_, _, x_pat_t 86 hu hv hm, m_pat_t 95 hu hv hm⟩
  · exact ⟨_, _, x_pat_b 98 hv, m_pat_b 98 hv⟩
