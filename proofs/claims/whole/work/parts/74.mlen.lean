/-! BOTH SIDES: pathLength, first -/

set_option maxRecDepth 100000 in
set_option maxHeartbeats 2000000 in
theorem tl_mins (d : Nat) {i1 i2 i3 : Int32} {x p : Nat} {R : List Nat} (hI : rkI 100 R) (hx : x ≤ 9998) {mu mu0 : Nat → Nat → Int32} {h : Int64} {Q : rn_Q} (hp : p ≤ R.length) (c1 : ∀ i, i < p → mu 29 i = nI (R.getD i 0)) (c2 : ∀ i, p ≤ i → i < R.length → i + 1 < 100 → mu 29 (i + 1) = nI (R.getD i 0)) (c3 : ∀ i, p ≤ i → i < R.length → x < R.getD i 0) (c4 : ∀ i, i < p → R.getD i 0 ≤ x) (h13 : mu 22 13 = nI x) (f1 : ∀ c, c ≠ 29 → mu c = mu0 c) (kk : ∀ mu2 : Nat → Nat → Int32, ALs (rkC 100 x R) (mu2 29) → (∀ c, c ≠ 29 → mu2 c = mu0 c) → rn_R none mX9_pathLength d 133 [some (.ref 22), some (.int i1), some (.int i2), some (.int i3), some (.int (nI ((rkC 100 x R).length))), some (.int 1), none] [] mu2 h Q) : rn_R none mX9_pathLength d 97 [some (.ref 22), some (.int i1), some (.int i2), some (.int i3), some (.int (nI R.length)), some (.int 1), some (.int (nI p))] [] mu h Q := by
  have hl := hI.1
  by_cases qf : p = 100
  · skip
    have e1 : R.length = 100 := by omega
    have er : rkC 100 x R = R := by rw [← e1]; rw [← e1] at hI; exact rkC_full hI (fun i hi => c4 i (by omega))
    rw [er] at kk
    refine rn_iload 99 dX9_pathLength_97 rfl rfl ?_
    refine rn_bipush (v := 100) 101 dX9_pathLength_99 (by decide) rfl ?_
    refine rn_icmp_ge 133 104 dX9_pathLength_101 (by decide) rfl (fun _ => ?_) (fun c101 => absurd (by rw [show p = 100 by omega]; decide) c101)
    refine rn_drop 6 [some (.ref 22), some (.int i1), some (.int i2), some (.int i3), some (.int (nI R.length)), some (.int 1), none] rfl ?_
    exact kk mu (fun i hi => c1 i (by omega)) f1
  · skip
    have key : ∀ i, i < min 100 (R.length + 1) → upd (mu 29) p (nI x) i = nI ((rkC 100 x R).getD i 0) := by
      intro i hi
      rw [rkC_at hI hp c4 (fun q => c3 p (Nat.le_refl _) q) i (by omega)]
      by_cases q : i < p
      · rw [if_pos q, pk_un (by omega)]; exact c1 i q
      · rw [if_neg q]
        by_cases q2 : i = p
        · rw [if_pos q2, q2, pk_us]
        · rw [if_neg q2, pk_un q2]
          have := c2 (i - 1) (by omega) (by omega) (by omega)
          rwa [show i - 1 + 1 = i by omega] at this
    rw [rkC_len] at kk
    by_cases q3 : R.length = 100
    · skip
      refine rn_iload 99 dX9_pathLength_97 rfl rfl ?_
      refine rn_bipush (v := 100) 101 dX9_pathLength_99 (by decide) rfl ?_
      refine rn_icmp_ge 133 104 dX9_pathLength_101 (by decide) rfl (fun c101 => absurd c101 (nI_ge (b := 100) (by omega) (by omega))) (fun _ => ?_)
      refine rn_aload_n 105 dX9_pathLength_104 rfl rfl rfl ?_
      refine rn_get 108 (.ref 29) dX9_pathLength_105 fl_X9_32 rfl rfl rfl rfl ?_
      refine rn_iload 110 dX9_pathLength_108 rfl rfl ?_
      refine rn_aload_n 111 dX9_pathLength_110 rfl rfl rfl ?_
      refine rn_get 114 (.int (mu 22 13)) dX9_pathLength_111 fl_X9_141 rfl rfl rfl rfl ?_
      rw [h13]
      refine rn_iast 115 dX9_pathLength_114 rfl (vp_in_nI (by omega) (by omega)) rfl ?_
      rw [nI_clamp (by omega)]
      refine rn_iload 117 dX9_pathLength_115 rfl rfl ?_
      refine rn_bipush (v := 100) 119 dX9_pathLength_117 (by decide) rfl ?_
      refine rn_icmp_ge 129 122 dX9_pathLength_119 (by decide) rfl (fun _ => ?_) (fun c119 => absurd (by rw [q3]; exact Int32.le_refl _) c119)
      refine rn_iload 131 dX9_pathLength_129 rfl rfl ?_
      refine rn_istore 133 [some (.ref 22), some (.int i1), some (.int i2), some (.int i3), some (.int (nI R.length)), some (.int 1), some (.int (nI p))] dX9_pathLength_131 rfl (Nat.le_of_ble_eq_true rfl) rfl ?_
      refine rn_drop 6 [some (.ref 22), some (.int i1), some (.int i2), some (.int i3), some (.int (nI R.length)), some (.int 1), none] rfl ?_
      rw [show min 100 (R.length + 1) = R.length by omega] at kk
      exact kk (mu_s mu 29 p (nI x)) (fun i hi => by rw [rkC_len] at hi; exact key i hi) (fun c hc => by simp [mu_s, hc]; exact f1 c hc)
    · skip
      refine rn_iload 99 dX9_pathLength_97 rfl rfl ?_
      refine rn_bipush (v := 100) 101 dX9_pathLength_99 (by decide) rfl ?_
      refine rn_icmp_ge 133 104 dX9_pathLength_101 (by decide) rfl (fun c101 => absurd c101 (nI_ge (b := 100) (by omega) (by omega))) (fun _ => ?_)
      refine rn_aload_n 105 dX9_pathLength_104 rfl rfl rfl ?_
      refine rn_get 108 (.ref 29) dX9_pathLength_105 fl_X9_32 rfl rfl rfl rfl ?_
      refine rn_iload 110 dX9_pathLength_108 rfl rfl ?_
      refine rn_aload_n 111 dX9_pathLength_110 rfl rfl rfl ?_
      refine rn_get 114 (.int (mu 22 13)) dX9_pathLength_111 fl_X9_141 rfl rfl rfl rfl ?_
      rw [h13]
      refine rn_iast 115 dX9_pathLength_114 rfl (vp_in_nI (by omega) (by omega)) rfl ?_
      rw [nI_clamp (by omega)]
      refine rn_iload 117 dX9_pathLength_115 rfl rfl ?_
      refine rn_bipush (v := 100) 119 dX9_pathLength_117 (by decide) rfl ?_
      refine rn_icmp_ge 129 122 dX9_pathLength_119 (by decide) rfl (fun c119 => absurd c119 (nI_ge (b := 100) (by omega) (by omega))) (fun _ => ?_)
      refine rn_iload 124 dX9_pathLength_122 rfl rfl ?_
      refine rn_iconst (v := 1) 125 dX9_pathLength_124 (by decide) rfl ?_
      refine rn_iadd 126 dX9_pathLength_125 rfl ?_
      rw [nI_1]
      refine rn_goto 131 dX9_pathLength_126 (by decide) ?_
      refine rn_istore 133 [some (.ref 22), some (.int i1), some (.int i2), some (.int i3), some (.int (nI (R.length + 1))), some (.int 1), some (.int (nI p))] dX9_pathLength_131 rfl (Nat.le_of_ble_eq_true rfl) rfl ?_
      refine rn_drop 6 [some (.ref 22), some (.int i1), some (.int i2), some (.int i3), some (.int (nI (R.length + 1))), some (.int 1), none] rfl ?_
      rw [show min 100 (R.length + 1) = R.length + 1 by omega] at kk
      exact kk (mu_s mu 29 p (nI x)) (fun i hi => by rw [rkC_len] at hi; exact key i hi) (fun c hc => by simp [mu_s, hc]; exact f1 c hc)

set_option maxRecDepth 100000 in
set_option maxHeartbeats 2000000 in
theorem lp_mins (d : Nat) {i1 i2 i3 : Int32} {x : Nat} {R : List Nat} (hI : rkI 100 R) (hx : x ≤ 9998) {mu0 : Nat → Nat → Int32} {h : Int64} {Q : rn_Q} (kk : ∀ mu2 : Nat → Nat → Int32, ALs (rkC 100 x R) (mu2 29) → (∀ c, c ≠ 29 → mu2 c = mu0 c) → rn_R none mX9_pathLength d 133 [some (.ref 22), some (.int i1), some (.int i2), some (.int i3), some (.int (nI ((rkC 100 x R).length))), some (.int 1), none] [] mu2 h Q) : ∀ (p : Nat) (mu : Nat → Nat → Int32), p ≤ R.length → (∀ i, i < p → mu 29 i = nI (R.getD i 0)) → (∀ i, p ≤ i → i < R.length → i + 1 < 100 → mu 29 (i + 1) = nI (R.getD i 0)) → (∀ i, p ≤ i → i < R.length → x < R.getD i 0) → mu 22 13 = nI x → (∀ c, c ≠ 29 → mu c = mu0 c) → rn_R none mX9_pathLength d 47 [some (.ref 22), some (.int i1), some (.int i2), some (.int i3), some (.int (nI R.length)), some (.int 1), some (.int (nI p))] [] mu h Q := by
  intro p
  induction p with
  | zero =>
    intro mu hp c1 c2 c3 h13 f1
    refine rn_iload 49 dX9_pathLength_47 rfl rfl ?_
    refine rn_if_le 97 52 dX9_pathLength_49 (by decide) rfl (fun _ => ?_) (fun c49 => absurd (by decide) c49)
    exact tl_mins d hI hx hp c1 c2 c3 (fun i hi => absurd hi (Nat.not_lt_zero _)) h13 f1 kk
  | succ p ih =>
    intro mu hp c1 c2 c3 h13 f1
    have hl := hI.1
    have hD := rkI_D hI (i := p) (by omega)
    by_cases q : R.getD p 0 ≤ x
    · skip
      refine rn_iload 49 dX9_pathLength_47 rfl rfl ?_
      refine rn_if_le 97 52 dX9_pathLength_49 (by decide) rfl (fun c49 => absurd c49 (nI_nle (by omega) (by omega))) (fun _ => ?_)
      refine rn_aload_n 53 dX9_pathLength_52 rfl rfl rfl ?_
      refine rn_get 56 (.ref 29) dX9_pathLength_53 fl_X9_32 rfl rfl rfl rfl ?_
      refine rn_iload 58 dX9_pathLength_56 rfl rfl ?_
      refine rn_iconst (v := 1) 59 dX9_pathLength_58 (by decide) rfl ?_
      refine rn_isub 60 dX9_pathLength_59 rfl ?_
      rw [nI_pred]
      refine rn_iald 61 (nI (R.getD p 0)) dX9_pathLength_60 rfl (vp_in_nI (by omega) (by omega)) (by rw [nI_clamp (by omega)]; exact c1 p (by omega)) rfl ?_
      refine rn_aload_n 62 dX9_pathLength_61 rfl rfl rfl ?_
      refine rn_get 65 (.int (mu 22 13)) dX9_pathLength_62 fl_X9_141 rfl rfl rfl rfl ?_
      rw [h13]
      refine rn_icmp_le 97 68 dX9_pathLength_65 (by decide) rfl (fun _ => ?_) (fun c65 => absurd (nI_le q (by omega)) c65)
      exact tl_mins d hI hx hp c1 c2 c3 (fun i hi => Nat.le_trans (sor_D hI.2.1 (show i ≤ p by omega) (by omega)) q) h13 f1 kk
    · skip
      by_cases q2 : p + 1 < 100
      · skip
        refine rn_iload 49 dX9_pathLength_47 rfl rfl ?_
        refine rn_if_le 97 52 dX9_pathLength_49 (by decide) rfl (fun c49 => absurd c49 (nI_nle (by omega) (by omega))) (fun _ => ?_)
        refine rn_aload_n 53 dX9_pathLength_52 rfl rfl rfl ?_
        refine rn_get 56 (.ref 29) dX9_pathLength_53 fl_X9_32 rfl rfl rfl rfl ?_
        refine rn_iload 58 dX9_pathLength_56 rfl rfl ?_
        refine rn_iconst (v := 1) 59 dX9_pathLength_58 (by decide) rfl ?_
        refine rn_isub 60 dX9_pathLength_59 rfl ?_
        rw [nI_pred]
        refine rn_iald 61 (nI (R.getD p 0)) dX9_pathLength_60 rfl (vp_in_nI (by omega) (by omega)) (by rw [nI_clamp (by omega)]; exact c1 p (by omega)) rfl ?_
        refine rn_aload_n 62 dX9_pathLength_61 rfl rfl rfl ?_
        refine rn_get 65 (.int (mu 22 13)) dX9_pathLength_62 fl_X9_141 rfl rfl rfl rfl ?_
        rw [h13]
        refine rn_icmp_le 97 68 dX9_pathLength_65 (by decide) rfl (fun c65 => absurd c65 (nI_ge (by omega) (by omega))) (fun _ => ?_)
        refine rn_iload 70 dX9_pathLength_68 rfl rfl ?_
        refine rn_bipush (v := 100) 72 dX9_pathLength_70 (by decide) rfl ?_
        refine rn_icmp_ge 91 75 dX9_pathLength_72 (by decide) rfl (fun c72 => absurd c72 (nI_ge (b := 100) (by omega) (by omega))) (fun _ => ?_)
        refine rn_aload_n 76 dX9_pathLength_75 rfl rfl rfl ?_
        refine rn_get 79 (.ref 29) dX9_pathLength_76 fl_X9_32 rfl rfl rfl rfl ?_
        refine rn_iload 81 dX9_pathLength_79 rfl rfl ?_
        refine rn_aload_n 82 dX9_pathLength_81 rfl rfl rfl ?_
        refine rn_get 85 (.ref 29) dX9_pathLength_82 fl_X9_32 rfl rfl rfl rfl ?_
        refine rn_iload 87 dX9_pathLength_85 rfl rfl ?_
        refine rn_iconst (v := 1) 88 dX9_pathLength_87 (by decide) rfl ?_
        refine rn_isub 89 dX9_pathLength_88 rfl ?_
        rw [nI_pred]
        refine rn_iald 90 (nI (R.getD p 0)) dX9_pathLength_89 rfl (vp_in_nI (by omega) (by omega)) (by rw [nI_clamp (by omega)]; exact c1 p (by omega)) rfl ?_
        refine rn_iast 91 dX9_pathLength_90 rfl (vp_in_nI (by omega) (by omega)) rfl ?_
        rw [nI_clamp (by omega)]
        refine rn_iinc (v := ((nI (p + 1)) + (-1))) 94 [some (.ref 22), some (.int i1), some (.int i2), some (.int i3), some (.int (nI R.length)), some (.int 1), some (.int ((nI (p + 1)) + (-1)))] dX9_pathLength_91 rfl rfl rfl rfl ?_
        refine rn_goto 47 dX9_pathLength_94 (by decide) ?_
        rw [pk_m1]
        exact ih (mu_s mu 29 (p + 1) (nI (R.getD p 0))) (by omega) (fun i hi => by simp [mu_s]; rw [pk_un (by omega)]; exact c1 i (by omega)) (fun i h1 h2 h3 => by simp [mu_s]; by_cases z : i = p; (subst z; rw [pk_us]); (rw [pk_un (by omega)]; exact c2 i (by omega) h2 h3)) (fun i h1 h2 => by by_cases z : i = p; (subst z; omega); exact c3 i (by omega) h2) (by simp [mu_s]; exact h13) (fun c hc => by simp [mu_s, hc]; exact f1 c hc)
      · skip
        refine rn_iload 49 dX9_pathLength_47 rfl rfl ?_
        refine rn_if_le 97 52 dX9_pathLength_49 (by decide) rfl (fun c49 => absurd c49 (nI_nle (by omega) (by omega))) (fun _ => ?_)
        refine rn_aload_n 53 dX9_pathLength_52 rfl rfl rfl ?_
        refine rn_get 56 (.ref 29) dX9_pathLength_53 fl_X9_32 rfl rfl rfl rfl ?_
        refine rn_iload 58 dX9_pathLength_56 rfl rfl ?_
        refine rn_iconst (v := 1) 59 dX9_pathLength_58 (by decide) rfl ?_
        refine rn_isub 60 dX9_pathLength_59 rfl ?_
        rw [nI_pred]
        refine rn_iald 61 (nI (R.getD p 0)) dX9_pathLength_60 rfl (vp_in_nI (by omega) (by omega)) (by rw [nI_clamp (by omega)]; exact c1 p (by omega)) rfl ?_
        refine rn_aload_n 62 dX9_pathLength_61 rfl rfl rfl ?_
        refine rn_get 65 (.int (mu 22 13)) dX9_pathLength_62 fl_X9_141 rfl rfl rfl rfl ?_
        rw [h13]
        refine rn_icmp_le 97 68 dX9_pathLength_65 (by decide) rfl (fun c65 => absurd c65 (nI_ge (by omega) (by omega))) (fun _ => ?_)
        refine rn_iload 70 dX9_pathLength_68 rfl rfl ?_
        refine rn_bipush (v := 100) 72 dX9_pathLength_70 (by decide) rfl ?_
        refine rn_icmp_ge 91 75 dX9_pathLength_72 (by decide) rfl (fun _ => ?_) (fun c72 => absurd (nI_le (a := 100) (by omega) (by omega)) c72)
        refine rn_iinc (v := ((nI (p + 1)) + (-1))) 94 [some (.ref 22), some (.int i1), some (.int i2), some (.int i3), some (.int (nI R.length)), some (.int 1), some (.int ((nI (p + 1)) + (-1)))] dX9_pathLength_91 rfl rfl rfl rfl ?_
        refine rn_goto 47 dX9_pathLength_94 (by decide) ?_
        rw [pk_m1]
        exact ih mu (by omega) (fun i hi => c1 i (by omega)) (fun i h1 h2 h3 => c2 i (by omega) h2 h3) (fun i h1 h2 => by by_cases z : i = p; (subst z; omega); exact c3 i (by omega) h2) h13 f1

set_option maxRecDepth 100000 in
set_option maxHeartbeats 2000000 in
theorem lp_mlen (d : Nat) {g : List Ed} {a s t : Nat} (hs : s < 8) (ht : t < 8) {k : Nat} (hk : k < 100) {mu0 : Nat → Nat → Int32} : ∀ (rest : List (List Nat)) (q : List Nat) (R : List Nat) (mu : Nat → Nat → Int32) (h : Int64), SPx g a s q mu → ptV g a s q → ptE g s q = t → ptF g s t (ptX g a s t q) = rest → mg g mu → ma g a mu → FP mu0 mu → rkI 100 R → ALs R (mu 29) → rn_R none mX9_pathLength (d + 5) 38 [some (.ref 22), some (.int (nI s)), some (.int (nI t)), some (.int (nI k)), some (.int (nI R.length)), some (.int 1), none] [] mu h (fun r mu' _ => r = some (.int (plA ((q :: rest).foldl (fun R Q => rkC 100 (ptL g a Q) R) R) k)) ∧ FP mu0 mu') := by
  intro rest
  induction rest with
  | nil =>
    intro q R mu h hP hv he hr hg ha hfp hI hA
    obtain ⟨p1, p2, p3, p4⟩ := id hP
    have h9 := ptL_9 hg.2.1 hs hv
    have hI2 := rkI_C (x := ptL g a q) hI (by omega)
    refine rn_iload 40 dX9_pathLength_38 rfl rfl ?_
    refine rn_if_eq 145 43 dX9_pathLength_40 (by decide) rfl (fun c40 => absurd c40 (by decide)) (fun _ => ?_)
    refine rn_iload 45 dX9_pathLength_43 rfl rfl ?_
    refine rn_istore 47 [some (.ref 22), some (.int (nI s)), some (.int (nI t)), some (.int (nI k)), some (.int (nI R.length)), some (.int 1), some (.int (nI R.length))] dX9_pathLength_45 rfl (Nat.le_of_ble_eq_true rfl) rfl ?_
    refine lp_mins (d + 5) (x := ptL g a q) hI (by omega) (mu0 := mu) (fun m1 al1 f1 => ?_) R.length mu (Nat.le_refl _) (fun i hi => hA i hi) (fun i h1 h2 => by omega) (fun i h1 h2 => by omega) p2 (fun _ _ => rfl)
    have fp1 : FP mu m1 := ⟨fun c h1 h2 h3 h4 => f1 c h3, fun j h1 h2 h3 => by rw [f1 22 (by omega)]⟩
    have hP1 : SPx g a s q m1 := by unfold SPx at hP ⊢; rw [f1 22 (by omega), f1 28 (by omega)]; exact hP
    have hg1 := mg_FP hg fp1
    have ha1 := ma_FP ha fp1
    show rn_R _ mX9_pathLength _ 133 [some (.ref 22), some (.int (nI s)), some (.int (nI t)), some (.int (nI k)), some (.int (nI (rkC 100 (ptL g a q) R).length)), some (.int 1), none] [] m1 h _
    refine rn_aload_n 134 dX9_pathLength_133 rfl rfl rfl ?_
    refine rn_iload_n 135 dX9_pathLength_134 rfl rfl rfl ?_
    refine rn_iload_n 136 dX9_pathLength_135 rfl rfl rfl ?_
    refine rn_iconst (v := 0) 137 dX9_pathLength_136 (by decide) rfl ?_
    refine rn_callV mX9_nextPath [.int (nI s), .int (nI t), .int 0] [] dX9_pathLength_137 cv_X9_159 rfl rfl rfl (by simp [Value.category]) (c_npN (d) h hg1 hs ht hv hP1 ha1 he) (fun r2 m2 h2 qq _ => ?_)
    obtain ⟨b2, f2⟩ := qq
    rw [hr] at b2
    have fp2 := FP_tr hfp (FP_tr fp1 (FP_N f2))
    have al2 : ALs (rkC 100 (ptL g a q) R) (m2 29) := by rw [f2.1 29 (by omega) (by omega)]; exact al1
    subst b2
    show rn_R _ mX9_pathLength _ 140 [some (.ref 22), some (.int (nI s)), some (.int (nI t)), some (.int (nI k)), some (.int (nI (rkC 100 (ptL g a q) R).length)), some (.int 1), none] [.int 0] m2 h2 _
    refine rn_istore 142 [some (.ref 22), some (.int (nI s)), some (.int (nI t)), some (.int (nI k)), some (.int (nI (rkC 100 (ptL g a q) R).length)), some (.int 0), none] dX9_pathLength_140 rfl (Nat.le_of_ble_eq_true rfl) rfl ?_
    refine rn_goto 38 dX9_pathLength_142 (by decide) ?_
    show rn_R _ _ _ _ _ _ _ _ (fun r mu2 _ => r = some (.int (plA (rkC 100 (ptL g a q) R) k)) ∧ FP mu0 mu2)
    refine rn_iload 40 dX9_pathLength_38 rfl rfl ?_
    refine rn_if_eq 145 43 dX9_pathLength_40 (by decide) rfl (fun _ => ?_) (fun c40 => absurd (by decide) c40)
    have hlR := hI2.1
    by_cases qk : k < (rkC 100 (ptL g a q) R).length
    · skip
      refine rn_iload_n 146 dX9_pathLength_145 rfl rfl rfl ?_
      refine rn_iload 148 dX9_pathLength_146 rfl rfl ?_
      refine rn_icmp_ge 160 151 dX9_pathLength_148 (by decide) rfl (fun c148 => absurd c148 (nI_ge qk (by omega))) (fun _ => ?_)
      refine rn_aload_n 152 dX9_pathLength_151 rfl rfl rfl ?_
      refine rn_get 155 (.ref 29) dX9_pathLength_152 fl_X9_32 rfl rfl rfl rfl ?_
      refine rn_iload_n 156 dX9_pathLength_155 rfl rfl rfl ?_
      refine rn_iald 157 (nI ((rkC 100 (ptL g a q) R).getD k 0)) dX9_pathLength_156 rfl (vp_in_nI (by omega) (by omega)) (by rw [nI_clamp (by omega)]; exact al2 k qk) rfl ?_
      refine rn_goto 161 dX9_pathLength_157 (by decide) ?_
      exact rn_iret rfl dX9_pathLength_161 (⟨by unfold plA; rw [if_pos qk], fp2⟩)
    · skip
      refine rn_iload_n 146 dX9_pathLength_145 rfl rfl rfl ?_
      refine rn_iload 148 dX9_pathLength_146 rfl rfl ?_
      refine rn_icmp_ge 160 151 dX9_pathLength_148 (by decide) rfl (fun _ => ?_) (fun c148 => absurd (nI_le (by omega) (by omega)) c148)
      refine rn_iconst (v := (-1)) 161 dX9_pathLength_160 (by decide) rfl ?_
      exact rn_iret rfl dX9_pathLength_161 (⟨by unfold plA; rw [if_neg qk], fp2⟩)
  | cons q2 rest ih =>
    intro q R mu h hP hv he hr hg ha hfp hI hA
    obtain ⟨p1, p2, p3, p4⟩ := id hP
    have h9 := ptL_9 hg.2.1 hs hv
    have hI2 := rkI_C (x := ptL g a q) hI (by omega)
    refine rn_iload 40 dX9_pathLength_38 rfl rfl ?_
    refine rn_if_eq 145 43 dX9_pathLength_40 (by decide) rfl (fun c40 => absurd c40 (by decide)) (fun _ => ?_)
    refine rn_iload 45 dX9_pathLength_43 rfl rfl ?_
    refine rn_istore 47 [some (.ref 22), some (.int (nI s)), some (.int (nI t)), some (.int (nI k)), some (.int (nI R.length)), some (.int 1), some (.int (nI R.length))] dX9_pathLength_45 rfl (Nat.le_of_ble_eq_true rfl) rfl ?_
    refine lp_mins (d + 5) (x := ptL g a q) hI (by omega) (mu0 := mu) (fun m1 al1 f1 => ?_) R.length mu (Nat.le_refl _) (fun i hi => hA i hi) (fun i h1 h2 => by omega) (fun i h1 h2 => by omega) p2 (fun _ _ => rfl)
    have fp1 : FP mu m1 := ⟨fun c h1 h2 h3 h4 => f1 c h3, fun j h1 h2 h3 => by rw [f1 22 (by omega)]⟩
    have hP1 : SPx g a s q m1 := by unfold SPx at hP ⊢; rw [f1 22 (by omega), f1 28 (by omega)]; exact hP
    have hg1 := mg_FP hg fp1
    have ha1 := ma_FP ha fp1
    show rn_R _ mX9_pathLength _ 133 [some (.ref 22), some (.int (nI s)), some (.int (nI t)), some (.int (nI k)), some (.int (nI (rkC 100 (ptL g a q) R).length)), some (.int 1), none] [] m1 h _
    refine rn_aload_n 134 dX9_pathLength_133 rfl rfl rfl ?_
    refine rn_iload_n 135 dX9_pathLength_134 rfl rfl rfl ?_
    refine rn_iload_n 136 dX9_pathLength_135 rfl rfl rfl ?_
    refine rn_iconst (v := 0) 137 dX9_pathLength_136 (by decide) rfl ?_
    refine rn_callV mX9_nextPath [.int (nI s), .int (nI t), .int 0] [] dX9_pathLength_137 cv_X9_159 rfl rfl rfl (by simp [Value.category]) (c_npN (d) h hg1 hs ht hv hP1 ha1 he) (fun r2 m2 h2 qq _ => ?_)
    obtain ⟨b2, f2⟩ := qq
    rw [hr] at b2
    have fp2 := FP_tr hfp (FP_tr fp1 (FP_N f2))
    have al2 : ALs (rkC 100 (ptL g a q) R) (m2 29) := by rw [f2.1 29 (by omega) (by omega)]; exact al1
    obtain ⟨e1, b3, b4, b5, b6⟩ := b2
    subst e1
    show rn_R _ mX9_pathLength _ 140 [some (.ref 22), some (.int (nI s)), some (.int (nI t)), some (.int (nI k)), some (.int (nI (rkC 100 (ptL g a q) R).length)), some (.int 1), none] [.int 1] m2 h2 _
    refine rn_istore 142 [some (.ref 22), some (.int (nI s)), some (.int (nI t)), some (.int (nI k)), some (.int (nI (rkC 100 (ptL g a q) R).length)), some (.int 1), none] dX9_pathLength_140 rfl (Nat.le_of_ble_eq_true rfl) rfl ?_
    refine rn_goto 38 dX9_pathLength_142 (by decide) ?_
    exact ih q2 (rkC 100 (ptL g a q) R) m2 h2 b3 b4 b5 b6 (mg_FN hg1 f2) (ma_FN ha1 f2) fp2 hI2 al2

set_option maxRecDepth 100000 in
set_option maxHeartbeats 2000000 in
theorem m_len_b (d : Nat) {g : List Ed} {a : Nat} {hs : List Sg} {tx : List Nat} {f : Int32} {v1 v2 v3 : Int32} (hv : ¬ ((isin v1 8 ∧ isin v2 8) ∧ isin v3 (99 + 1))) : MC mX9_pathLength (d + 2) [.int v1, .int v2, .int v3] (g, a, hs, tx, f) (g, a, hs, tx, f) (.int (-2)) := by
  intro mu h hs0
  obtain ⟨hg, ha, hh, ht, hf⟩ := id hs0
  simp only at hg ha hh ht hf
  refine gd_of rfl (Nat.le_of_ble_eq_true rfl) ?_
  show rn_R none mX9_pathLength (d + 2) 0 [some (.ref 22), some (.int v1), some (.int v2), some (.int v3), none, none, none] [] mu h (fun r mu' _ => r = some (.int (-2)) ∧ mS (g, a, hs, tx, f) mu' ∧ ∀ c, c < 22 → mu' c = mu c)
  by_cases qq0 : isin v1 8 ∧ isin v2 8
  · skip
    have qq1 : ¬ (isin v3 (99 + 1)) := fun z => hv ⟨qq0, z⟩
    refine rn_iload_n 1 dX9_pathLength_0 rfl rfl rfl ?_
    refine rn_iload_n 2 dX9_pathLength_1 rfl rfl rfl ?_
    refine rn_csp mX9_areNodes [.int v1, .int v2] [] 5 (.int 1) dX9_pathLength_2 cs_X9_53 rfl rfl (by simp [Value.category]) rfl (c_mareNodes_t (d) mu h qq0.1 qq0.2) ?_
    refine rn_if_eq 18 8 dX9_pathLength_5 (by decide) rfl (fun c5 => absurd c5 (by decide)) (fun _ => ?_)
    refine rn_iload_n 9 dX9_pathLength_8 rfl rfl rfl ?_
    refine rn_iconst (v := 0) 10 dX9_pathLength_9 (by decide) rfl ?_
    refine rn_bipush (v := 99) 12 dX9_pathLength_10 (by decide) rfl ?_
    refine rn_csp mX9_in [.int v3, .int 0, .int 99] [] 15 (.int 0) dX9_pathLength_12 cs_X9_38 rfl rfl (by simp [Value.category]) rfl (c_in_f (d + 1) mu h (nisin (n := 99) (by omega) qq1)) ?_
    refine rn_if_ne 21 18 dX9_pathLength_15 (by decide) rfl (fun c15 => absurd (rfl) c15) (fun _ => ?_)
    refine rn_bipush (v := (-2)) 20 dX9_pathLength_18 (by decide) rfl ?_
    exact rn_iret rfl dX9_pathLength_20 (⟨rfl, hs0, fun _ _ => rfl⟩)
  · skip
    refine rn_iload_n 1 dX9_pathLength_0 rfl rfl rfl ?_
    refine rn_iload_n 2 dX9_pathLength_1 rfl rfl rfl ?_
    refine rn_csp mX9_areNodes [.int v1, .int v2] [] 5 (.int 0) dX9_pathLength_2 cs_X9_53 rfl rfl (by simp [Value.category]) rfl (c_mareNodes_f (d) mu h qq0) ?_
    refine rn_if_eq 18 8 dX9_pathLength_5 (by decide) rfl (fun _ => ?_) (fun c5 => absurd (by decide) c5)
    refine rn_bipush (v := (-2)) 20 dX9_pathLength_18 (by decide) rfl ?_
    exact rn_iret rfl dX9_pathLength_20 (⟨rfl, hs0, fun _ _ => rfl⟩)

set_option maxRecDepth 100000 in
set_option maxHeartbeats 2000000 in
theorem m_len_t (d : Nat) {g : List Ed} {a : Nat} {hs : List Sg} {tx : List Nat} {f : Int32} {u v : Nat} (hu : u < 8) (hv : v < 8) {k : Nat} (hk : k < 100) : MC mX9_pathLength (d + 5) [.int (nI u), .int (nI v), .int (nI k)] (g, a, hs, tx, f) (g, a, hs, tx, f) (.int (plA (fsL g a (ptP g a u v)) k)) := by
  intro mu h hs0
  obtain ⟨hg, ha, hh, ht, hf⟩ := id hs0
  simp only at hg ha hh ht hf
  refine gd_of rfl (Nat.le_of_ble_eq_true rfl) ?_
  show rn_R none mX9_pathLength (d + 5) 0 [some (.ref 22), some (.int (nI u)), some (.int (nI v)), some (.int (nI k)), none, none, none] [] mu h (fun r mu' _ => r = some (.int (plA (fsL g a (ptP g a u v)) k)) ∧ mS (g, a, hs, tx, f) mu' ∧ ∀ c, c < 22 → mu' c = mu c)
  have ef : ∀ L, L = ptP g a u v → plA (L.foldl (fun R Q => rkC 100 (ptL g a Q) R) []) k = plA (fsL g a (ptP g a u v)) k := by
    intro L hL2
    have z := fs_take (g := g) (a := a) (c := 100) L []
    rw [List.take_nil] at z
    rw [z, hL2]
    unfold plA fsL
    rw [List.length_take]
    by_cases q : k < ((ptP g a u v).foldl (fun R Q => inS (ptL g a Q) R) []).length
    · rw [if_pos (by omega), if_pos q, takeD hk]
    · rw [if_neg (by omega), if_neg q]
  refine rn_iload_n 1 dX9_pathLength_0 rfl rfl rfl ?_
  refine rn_iload_n 2 dX9_pathLength_1 rfl rfl rfl ?_
  refine rn_csp mX9_areNodes [.int (nI u), .int (nI v)] [] 5 (.int 1) dX9_pathLength_2 cs_X9_53 rfl rfl (by simp [Value.category]) rfl (c_mareNodes_t (d + 3) mu h ⟨u, hu, rfl⟩ ⟨v, hv, rfl⟩) ?_
  refine rn_if_eq 18 8 dX9_pathLength_5 (by decide) rfl (fun c5 => absurd c5 (by decide)) (fun _ => ?_)
  refine rn_iload_n 9 dX9_pathLength_8 rfl rfl rfl ?_
  refine rn_iconst (v := 0) 10 dX9_pathLength_9 (by decide) rfl ?_
  refine rn_bipush (v := 99) 12 dX9_pathLength_10 (by decide) rfl ?_
  refine rn_csp mX9_in [.int (nI k), .int 0, .int 99] [] 15 (.int 1) dX9_pathLength_12 cs_X9_38 rfl rfl (by simp [Value.category]) rfl (c_in_i (d + 4) mu h (M := 99) (⟨k, hk, rfl⟩) (by omega)) ?_
  refine rn_if_ne 21 18 dX9_pathLength_15 (by decide) rfl (fun _ => ?_) (fun c15 => absurd c15 (by decide))
  refine rn_iconst (v := 0) 22 dX9_pathLength_21 (by decide) rfl ?_
  refine rn_istore 24 [some (.ref 22), some (.int (nI u)), some (.int (nI v)), some (.int (nI k)), some (.int 0), none, none] dX9_pathLength_22 rfl (Nat.le_of_ble_eq_true rfl) rfl ?_
  refine rn_aload_n 25 dX9_pathLength_24 rfl rfl rfl ?_
  refine rn_iload_n 26 dX9_pathLength_25 rfl rfl rfl ?_
  refine rn_callV mX9_starts [.int (nI u)] [] dX9_pathLength_26 cv_X9_156 rfl rfl rfl (by simp [Value.category]) (c_starts (d + 4) (g := g) (a := a) h hu) (fun r1 m1 h1 qq _ => ?_)
  obtain ⟨e1, s1, f1⟩ := qq
  subst e1
  have hg1 := mg_FN hg f1
  have ha1 := ma_FN ha f1
  show rn_R _ mX9_pathLength _ 29 [some (.ref 22), some (.int (nI u)), some (.int (nI v)), some (.int (nI k)), some (.int 0), none, none] [] m1 h1 _
  refine rn_aload_n 30 dX9_pathLength_29 rfl rfl rfl ?_
  refine rn_iload_n 31 dX9_pathLength_30 rfl rfl rfl ?_
  refine rn_iload_n 32 dX9_pathLength_31 rfl rfl rfl ?_
  refine rn_iconst (v := 1) 33 dX9_pathLength_32 (by decide) rfl ?_
  refine rn_callV mX9_nextPath [.int (nI u), .int (nI v), .int 1] [] dX9_pathLength_33 cv_X9_159 rfl rfl rfl (by simp [Value.category]) (c_npF (d) h1 hg1 hu hv trivial s1 ha1) (fun r2 m2 h2 qq _ => ?_)
  obtain ⟨b2, f2⟩ := qq
  have eP : ptF g u v (ptA g a u v 8 []) = ptP g a u v := rfl
  rw [eP] at b2
  cases hL : ptP g a u v with
  | nil =>
    rw [hL] at b2
    subst b2
    show rn_R _ mX9_pathLength _ 36 [some (.ref 22), some (.int (nI u)), some (.int (nI v)), some (.int (nI k)), some (.int 0), none, none] [.int 0] m2 h2 _
    refine rn_istore 38 [some (.ref 22), some (.int (nI u)), some (.int (nI v)), some (.int (nI k)), some (.int 0), some (.int 0), none] dX9_pathLength_36 rfl (Nat.le_of_ble_eq_true rfl) rfl ?_
    refine rn_iload 40 dX9_pathLength_38 rfl rfl ?_
    refine rn_if_eq 145 43 dX9_pathLength_40 (by decide) rfl (fun _ => ?_) (fun c40 => absurd (by decide) c40)
    refine rn_iload_n 146 dX9_pathLength_145 rfl rfl rfl ?_
    refine rn_iload 148 dX9_pathLength_146 rfl rfl ?_
    refine rn_icmp_ge 160 151 dX9_pathLength_148 (by decide) rfl (fun _ => ?_) (fun c148 => absurd (nI_pos' (by omega)) c148)
    refine rn_iconst (v := (-1)) 161 dX9_pathLength_160 (by decide) rfl ?_
    exact rn_iret rfl dX9_pathLength_161 (⟨by rw [← hL, ← ef [] hL.symm]; rfl, mS_FP hs0 (FP_tr (FP_N f1) (FP_N f2)), fun c hc => (FP_tr (FP_N f1) (FP_N f2)).1 c (by omega) (by omega) (by omega) (by omega)⟩)
  | cons q rest =>
    rw [hL] at b2
    obtain ⟨e2, c2, c3, c4, c5⟩ := b2
    subst e2
    show rn_R _ mX9_pathLength _ 36 [some (.ref 22), some (.int (nI u)), some (.int (nI v)), some (.int (nI k)), some (.int 0), none, none] [.int 1] m2 h2 _
    refine rn_istore 38 [some (.ref 22), some (.int (nI u)), some (.int (nI v)), some (.int (nI k)), some (.int 0), some (.int 1), none] dX9_pathLength_36 rfl (Nat.le_of_ble_eq_true rfl) rfl ?_
    refine rn_mono (lp_mlen d hu hv hk (mu0 := mu) rest q [] m2 h2 c2 c3 c4 c5 (mg_FN hg1 f2) (ma_FN ha1 f2) (FP_tr (FP_N f1) (FP_N f2)) ⟨Nat.zero_le _, List.Pairwise.nil, fun y hy => by cases hy⟩ (fun i hi => absurd hi (Nat.not_lt_zero _))) (fun r m3 h3 z => ?_)
    refine ⟨?_, mS_FP hs0 z.2, fun c hc => z.2.1 c (by omega) (by omega) (by omega) (by omega)⟩
    rw [z.1, ef (q :: rest) hL.symm, hL]

theorem op_pathLength (v1 v2 v3 : Int32) : OP mX8_pathLength mX9_pathLength [.int v1, .int v2, .int v3] := by
  rintro ⟨g, a, hs, tx, f⟩
  by_cases hv : (isin v1 8 ∧ isin v2 8) ∧ isin v3 (99 + 1)
  · obtain ⟨⟨⟨u, hu, rfl⟩, v, hv, rfl⟩, k, hk, rfl⟩ := hv
    exact ⟨_, _, x_len_t 86 hu hv hk, m_len_t 95 hu hv hk⟩
  · exact ⟨_, _, x_len_b 98 hv, m_len_b 98 hv⟩
