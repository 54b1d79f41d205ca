/-! DISTANCES: the reference's ways, over all repairs, over all edges -/
def wr (g : List Ed) (S rep e : Nat) : Nat → Nat → Ws → Ws
  | 0, _, s => s
  | k + 1, r, s => wr g S rep e k (r + 1) (wb g S rep e r s)
def we (g : List Ed) (S rep : Nat) : Nat → Nat → Ws → Ws
  | 0, _, s => s
  | k + 1, e, s => we g S rep k (e + 1) (wr g S rep e (rep + 1) 0 s)

set_option maxRecDepth 100000 in
set_option maxHeartbeats 4000000 in
theorem lp_wr (d : Nat) {g : List Ed} {s0 : Int32} {S rep e : Nat} (hS : S < 2 ^ 31) (hrep : rep ≤ 3) (he : e < g.length) {mu0 : Nat → Nat → Int32} {Q : rn_Q} : ∀ (k r : Nat) (s : Ws) (mu : Nat → Nat → Int32) (h : Int64), r + k = rep + 1 → mg g mu → RA s.1 mu → (∀ c, c ≠ 27 → mu c = mu0 c) → (∀ mu' : Nat → Nat → Int32, RA (wr g S rep e k r s).1 mu' → (∀ c, c ≠ 27 → mu' c = mu0 c) → rn_R none mX9_ways (d + 3) 220 [some (.ref 22), some (.int s0), some (.int (nI S)), some (.int (nI rep)), some (.int (bi (wr g S rep e k r s).2)), some (.int (nI e)), none, none, none, none, none] [] mu' h Q) → rn_R none mX9_ways (d + 3) 64 [some (.ref 22), some (.int s0), some (.int (nI S)), some (.int (nI rep)), some (.int (bi s.2)), some (.int (nI e)), some (.int (nI r)), none, none, none, none] [] mu h Q := by
  intro k
  induction k with
  | zero =>
    intro r s mu h hrk hg hA hfr kk
    refine rn_iload 66 dX9_ways_64 rfl rfl ?_
    refine rn_iload_n 67 dX9_ways_66 rfl rfl rfl ?_
    refine rn_icmp_gt 220 70 dX9_ways_67 (by decide) rfl (fun _ => ?_) (fun c67 => absurd (nI_lt (by omega) (by omega)) c67)
    refine rn_drop 6 [some (.ref 22), some (.int s0), some (.int (nI S)), some (.int (nI rep)), some (.int (bi s.2)), some (.int (nI e)), none, none, none, none, none] rfl ?_
    exact kk mu hA hfr
  | succ k ih =>
    intro r s mu h hrk hg hA hfr kk
    have hok := e_at hg.2.1 he
    have h16 := hg.1
    have hu := hA (4 * eF g e + r) (by omega)
    have hv := hA (4 * eT g e + r) (by omega)
    obtain ⟨H, hH⟩ : ∃ H, H = s.1 (4 * eF g e + r) := ⟨_, rfl⟩
    rw [← hH] at hu
    refine rn_iload 66 dX9_ways_64 rfl rfl ?_
    refine rn_iload_n 67 dX9_ways_66 rfl rfl rfl ?_
    refine rn_icmp_gt 220 70 dX9_ways_67 (by decide) rfl (fun c67 => absurd c67 (nI_nlt (by omega) (by omega))) (fun _ => ?_)
    refine rn_aload_n 71 dX9_ways_70 rfl rfl rfl ?_
    refine rn_get 74 (.ref 27) dX9_ways_71 fl_X9_26 rfl rfl rfl rfl ?_
    refine rn_iconst (v := 4) 75 dX9_ways_74 (by decide) rfl ?_
    refine rn_aload_n 76 dX9_ways_75 rfl rfl rfl ?_
    refine rn_iload 78 dX9_ways_76 rfl rfl ?_
    refine rn_iconst (v := 0) 79 dX9_ways_78 (by decide) rfl ?_
    refine rn_cvp mX9_of [.int (nI e), .int 0] [.int 4, .ref 27] 82 (.int (nI (eF g e))) dX9_ways_79 cv_X9_46 rfl rfl rfl (by simp [Value.category]) rfl (c_ofe (d + 2) h hg (w := 0) he (by omega)) ?_
    refine rn_imul 83 dX9_ways_82 rfl ?_
    refine rn_iload 85 dX9_ways_83 rfl rfl ?_
    refine rn_iadd 86 dX9_ways_85 rfl ?_
    rw [show 4 * nI (eF g e) + nI r = nI (4 * eF g e + r) by rw [show (4 : Int32) = nI 4 from rfl, pk_mul, nI_add]]
    refine rn_iald 87 (nI H) dX9_ways_86 rfl (vp_in_nI (by omega) (by omega)) (by rw [nI_clamp (by omega)]; exact hu.1) rfl ?_
    refine rn_istore 89 [some (.ref 22), some (.int s0), some (.int (nI S)), some (.int (nI rep)), some (.int (bi s.2)), some (.int (nI e)), some (.int (nI r)), some (.int (nI H)), none, none, none] dX9_ways_87 rfl (Nat.le_of_ble_eq_true rfl) rfl ?_
    refine rn_iconst (v := 4) 90 dX9_ways_89 (by decide) rfl ?_
    refine rn_aload_n 91 dX9_ways_90 rfl rfl rfl ?_
    refine rn_iload 93 dX9_ways_91 rfl rfl ?_
    refine rn_iconst (v := 1) 94 dX9_ways_93 (by decide) rfl ?_
    refine rn_cvp mX9_of [.int (nI e), .int 1] [.int 4] 97 (.int (nI (eT g e))) dX9_ways_94 cv_X9_46 rfl rfl rfl (by simp [Value.category]) rfl (c_ofe (d + 2) h hg (w := 1) he (by omega)) ?_
    refine rn_imul 98 dX9_ways_97 rfl ?_
    refine rn_iload 100 dX9_ways_98 rfl rfl ?_
    refine rn_iadd 101 dX9_ways_100 rfl ?_
    rw [show 4 * nI (eT g e) + nI r = nI (4 * eT g e + r) by rw [show (4 : Int32) = nI 4 from rfl, pk_mul, nI_add]]
    refine rn_istore 103 [some (.ref 22), some (.int s0), some (.int (nI S)), some (.int (nI rep)), some (.int (bi s.2)), some (.int (nI e)), some (.int (nI r)), some (.int (nI H)), some (.int (nI (4 * eT g e + r))), none, none] dX9_ways_101 rfl (Nat.le_of_ble_eq_true rfl) rfl ?_
    by_cases qH : H < 9999
    · skip
      by_cases qW : eW g S e < 9999
      · skip
        have hl := c_lessens (d + 2) h hA (k := 4 * eT g e + r) (v := H + eW g S e) (by omega) (by omega)
        have hR := RA_wx hA (k := 4 * eT g e + r) (v := H + eW g S e) (by omega)
        refine rn_iload 105 dX9_ways_103 rfl rfl ?_
        refine rn_sipush (v := 9999) 108 dX9_ways_105 (by decide) rfl ?_
        refine rn_icmp_ge 147 111 dX9_ways_108 (by decide) rfl (fun c108 => absurd c108 (nI_ge (b := 9999) (by omega) (by omega))) (fun _ => ?_)
        refine rn_aload_n 112 dX9_ways_111 rfl rfl rfl ?_
        refine rn_iload 114 dX9_ways_112 rfl rfl ?_
        refine rn_iload_n 115 dX9_ways_114 rfl rfl rfl ?_
        refine rn_cvp mX9_lengthOf [.int (nI e), .int (nI S)] [] 118 (.int (nI (eW g S e))) dX9_ways_115 cv_X9_124 rfl rfl rfl (by simp [Value.category]) rfl (c_lengthOf (d + 1) h hg hS he) ?_
        refine rn_sipush (v := 9999) 121 dX9_ways_118 (by decide) rfl ?_
        refine rn_icmp_ge 147 124 dX9_ways_121 (by decide) rfl (fun c121 => absurd c121 (nI_ge (b := 9999) (by omega) (by omega))) (fun _ => ?_)
        refine rn_aload_n 125 dX9_ways_124 rfl rfl rfl ?_
        refine rn_iload 127 dX9_ways_125 rfl rfl ?_
        refine rn_iload 129 dX9_ways_127 rfl rfl ?_
        refine rn_aload_n 130 dX9_ways_129 rfl rfl rfl ?_
        refine rn_iload 132 dX9_ways_130 rfl rfl ?_
        refine rn_iload_n 133 dX9_ways_132 rfl rfl rfl ?_
        refine rn_cvp mX9_lengthOf [.int (nI e), .int (nI S)] [.int (nI H), .int (nI (4 * eT g e + r)), .ref 22] 136 (.int (nI (eW g S e))) dX9_ways_133 cv_X9_124 rfl rfl rfl (by simp [Value.category]) rfl (c_lengthOf (d + 1) h hg hS he) ?_
        refine rn_iadd 137 dX9_ways_136 rfl ?_
        rw [nI_add]
        refine rn_cvm mX9_lessens [.int (nI (4 * eT g e + r)), .int (nI (H + eW g S e))] [] 140 (some (.int (if H + eW g S e < s.1 (4 * eT g e + r) then 1 else 0))) (mu_s mu 27 (4 * eT g e + r) (nI (if H + eW g S e < s.1 (4 * eT g e + r) then H + eW g S e else s.1 (4 * eT g e + r)))) dX9_ways_137 cv_X9_127 rfl rfl rfl (by simp [Value.category]) rfl (hl) ?_
        by_cases q1 : H + eW g S e < s.1 (4 * eT g e + r)
        · skip
          have ew : wb g S rep e r s = (if r < rep then wx (4 * eT g e + r + 1) (H + eL g e) (wx (4 * eT g e + r) (H + eW g S e) s.1) else wx (4 * eT g e + r) (H + eW g S e) s.1, s.2 || true || decide (r < rep ∧ H + eL g e < (wx (4 * eT g e + r) (H + eW g S e) s.1) (4 * eT g e + r + 1))) := by unfold wb; rw [← hH, if_pos qH]; simp only [if_pos qW, decide_eq_true (show eW g S e < 9999 ∧ H + eW g S e < s.1 (4 * eT g e + r) from ⟨qW, q1⟩)]
          refine rn_if_eq 147 143 dX9_ways_140 (by decide) rfl (fun c140 => absurd c140 (by rw [if_pos q1]; decide)) (fun _ => ?_)
          refine rn_iconst (v := 1) 144 dX9_ways_143 (by decide) rfl ?_
          refine rn_goto 148 dX9_ways_144 (by decide) ?_
          refine rn_istore 150 [some (.ref 22), some (.int s0), some (.int (nI S)), some (.int (nI rep)), some (.int (bi s.2)), some (.int (nI e)), some (.int (nI r)), some (.int (nI H)), some (.int (nI (4 * eT g e + r))), some (.int 1), none] dX9_ways_148 rfl (Nat.le_of_ble_eq_true rfl) rfl ?_
          refine tw_150 (d + 2) (b := s.2) (o1 := true) (mg_of (mu' := mu_s mu 27 (4 * eT g e + r) (nI (if H + eW g S e < s.1 (4 * eT g e + r) then H + eW g S e else s.1 (4 * eT g e + r)))) hg rfl) hR he hrep (by omega) qH (fun mu' hA' hfr' => ?_)
          have z := ih (r + 1) (wb g S rep e r s) mu' h (by omega) (mg_of hg (hfr' 23 (by omega))) (by rw [ew]; exact hA') (fun c hc => by rw [hfr' c hc]; simp [mu_s, hc]; exact hfr c hc) kk
          rw [ew] at z
          exact z
        · skip
          have ew : wb g S rep e r s = (if r < rep then wx (4 * eT g e + r + 1) (H + eL g e) (wx (4 * eT g e + r) (H + eW g S e) s.1) else wx (4 * eT g e + r) (H + eW g S e) s.1, s.2 || false || decide (r < rep ∧ H + eL g e < (wx (4 * eT g e + r) (H + eW g S e) s.1) (4 * eT g e + r + 1))) := by unfold wb; rw [← hH, if_pos qH]; simp only [if_pos qW, decide_eq_false (show ¬ (eW g S e < 9999 ∧ H + eW g S e < s.1 (4 * eT g e + r)) from fun z => q1 z.2)]
          refine rn_if_eq 147 143 dX9_ways_140 (by decide) rfl (fun _ => ?_) (fun c140 => absurd (by rw [if_neg q1]) c140)
          refine rn_iconst (v := 0) 148 dX9_ways_147 (by decide) rfl ?_
          refine rn_istore 150 [some (.ref 22), some (.int s0), some (.int (nI S)), some (.int (nI rep)), some (.int (bi s.2)), some (.int (nI e)), some (.int (nI r)), some (.int (nI H)), some (.int (nI (4 * eT g e + r))), some (.int 0), none] dX9_ways_148 rfl (Nat.le_of_ble_eq_true rfl) rfl ?_
          refine tw_150 (d + 2) (b := s.2) (o1 := false) (mg_of (mu' := mu_s mu 27 (4 * eT g e + r) (nI (if H + eW g S e < s.1 (4 * eT g e + r) then H + eW g S e else s.1 (4 * eT g e + r)))) hg rfl) hR he hrep (by omega) qH (fun mu' hA' hfr' => ?_)
          have z := ih (r + 1) (wb g S rep e r s) mu' h (by omega) (mg_of hg (hfr' 23 (by omega))) (by rw [ew]; exact hA') (fun c hc => by rw [hfr' c hc]; simp [mu_s, hc]; exact hfr c hc) kk
          rw [ew] at z
          exact z
      · skip
        have hw9 := eW_le hg.2.1 S he
        have ew : wb g S rep e r s = (if r < rep then wx (4 * eT g e + r + 1) (H + eL g e) s.1 else s.1, s.2 || false || decide (r < rep ∧ H + eL g e < s.1 (4 * eT g e + r + 1))) := by unfold wb; rw [← hH, if_pos qH]; simp only [if_neg qW, decide_eq_false (show ¬ (eW g S e < 9999 ∧ H + eW g S e < s.1 (4 * eT g e + r)) from fun z => qW z.1)]
        refine rn_iload 105 dX9_ways_103 rfl rfl ?_
        refine rn_sipush (v := 9999) 108 dX9_ways_105 (by decide) rfl ?_
        refine rn_icmp_ge 147 111 dX9_ways_108 (by decide) rfl (fun c108 => absurd c108 (nI_ge (b := 9999) (by omega) (by omega))) (fun _ => ?_)
        refine rn_aload_n 112 dX9_ways_111 rfl rfl rfl ?_
        refine rn_iload 114 dX9_ways_112 rfl rfl ?_
        refine rn_iload_n 115 dX9_ways_114 rfl rfl rfl ?_
        refine rn_cvp mX9_lengthOf [.int (nI e), .int (nI S)] [] 118 (.int (nI (eW g S e))) dX9_ways_115 cv_X9_124 rfl rfl rfl (by simp [Value.category]) rfl (c_lengthOf (d + 1) h hg hS he) ?_
        refine rn_sipush (v := 9999) 121 dX9_ways_118 (by decide) rfl ?_
        refine rn_icmp_ge 147 124 dX9_ways_121 (by decide) rfl (fun _ => ?_) (fun c121 => absurd (nI_le (a := 9999) (by omega) (by omega)) c121)
        refine rn_iconst (v := 0) 148 dX9_ways_147 (by decide) rfl ?_
        refine rn_istore 150 [some (.ref 22), some (.int s0), some (.int (nI S)), some (.int (nI rep)), some (.int (bi s.2)), some (.int (nI e)), some (.int (nI r)), some (.int (nI H)), some (.int (nI (4 * eT g e + r))), some (.int 0), none] dX9_ways_148 rfl (Nat.le_of_ble_eq_true rfl) rfl ?_
        refine tw_150 (d + 2) (b := s.2) (o1 := false) hg hA he hrep (by omega) qH (fun mu' hA' hfr' => ?_)
        have z := ih (r + 1) (wb g S rep e r s) mu' h (by omega) (mg_of hg (hfr' 23 (by omega))) (by rw [ew]; exact hA') (fun c hc => by rw [hfr' c hc]; exact hfr c hc) kk
        rw [ew] at z
        exact z
    · skip
      have ew : wb g S rep e r s = s := by unfold wb; rw [← hH, if_neg qH]
      refine rn_iload 105 dX9_ways_103 rfl rfl ?_
      refine rn_sipush (v := 9999) 108 dX9_ways_105 (by decide) rfl ?_
      refine rn_icmp_ge 147 111 dX9_ways_108 (by decide) rfl (fun _ => ?_) (fun c108 => absurd (nI_le (a := 9999) (by omega) (by omega)) c108)
      refine rn_iconst (v := 0) 148 dX9_ways_147 (by decide) rfl ?_
      refine rn_istore 150 [some (.ref 22), some (.int s0), some (.int (nI S)), some (.int (nI rep)), some (.int (bi s.2)), some (.int (nI e)), some (.int (nI r)), some (.int (nI H)), some (.int (nI (4 * eT g e + r))), some (.int 0), none] dX9_ways_148 rfl (Nat.le_of_ble_eq_true rfl) rfl ?_
      refine rn_iload 152 dX9_ways_150 rfl rfl ?_
      refine rn_sipush (v := 9999) 155 dX9_ways_152 (by decide) rfl ?_
      refine rn_icmp_ge 189 158 dX9_ways_155 (by decide) rfl (fun _ => ?_) (fun c155 => absurd (nI_le (a := 9999) (by omega) (by omega)) c155)
      refine rn_iconst (v := 0) 190 dX9_ways_189 (by decide) rfl ?_
      refine rn_istore 192 [some (.ref 22), some (.int s0), some (.int (nI S)), some (.int (nI rep)), some (.int (bi s.2)), some (.int (nI e)), some (.int (nI r)), some (.int (nI H)), some (.int (nI (4 * eT g e + r))), some (.int 0), some (.int 0)] dX9_ways_190 rfl (Nat.le_of_ble_eq_true rfl) rfl ?_
      refine rn_drop 7 [some (.ref 22), some (.int s0), some (.int (nI S)), some (.int (nI rep)), some (.int (bi s.2)), some (.int (nI e)), some (.int (nI r)), none, some (.int (nI (4 * eT g e + r))), some (.int 0), some (.int 0)] rfl ?_
      refine rn_drop 8 [some (.ref 22), some (.int s0), some (.int (nI S)), some (.int (nI rep)), some (.int (bi s.2)), some (.int (nI e)), some (.int (nI r)), none, none, some (.int 0), some (.int 0)] rfl ?_
      refine tw_192 (d + 3) (b := s.2) (o1 := false) (o2 := false) ?_
      rw [Bool.or_false, Bool.or_false]
      have z := ih (r + 1) (wb g S rep e r s) mu h (by omega) hg (by rw [ew]; exact hA) hfr kk
      rw [ew] at z
      exact z

set_option maxRecDepth 100000 in
set_option maxHeartbeats 2000000 in
theorem lp_we (d : Nat) {g : List Ed} {s0 : Int32} {S rep : Nat} (hS : S < 2 ^ 31) (hrep : rep ≤ 3) {mu0 : Nat → Nat → Int32} {Q : rn_Q} : ∀ (k e : Nat) (s : Ws) (mu : Nat → Nat → Int32) (h : Int64), e + k = g.length → mg g mu → RA s.1 mu → (∀ c, c ≠ 27 → mu c = mu0 c) → (∀ mu' : Nat → Nat → Int32, RA (we g S rep k e s).1 mu' → (∀ c, c ≠ 27 → mu' c = mu0 c) → rn_R none mX9_ways (d + 3) 226 [some (.ref 22), some (.int s0), some (.int (nI S)), some (.int (nI rep)), some (.int (bi (we g S rep k e s).2)), none, none, none, none, none, none] [] mu' h Q) → rn_R none mX9_ways (d + 3) 49 [some (.ref 22), some (.int s0), some (.int (nI S)), some (.int (nI rep)), some (.int (bi s.2)), some (.int (nI e)), none, none, none, none, none] [] mu h Q := by
  intro k
  induction k with
  | zero =>
    intro e s mu h hek hg hA hfr kk
    refine rn_iload 51 dX9_ways_49 rfl rfl ?_
    refine rn_aload_n 52 dX9_ways_51 rfl rfl rfl ?_
    refine rn_get 55 (.ref 23) dX9_ways_52 fl_X9_7 rfl rfl rfl rfl ?_
    refine rn_bipush (v := 80) 57 dX9_ways_55 (by decide) rfl ?_
    refine rn_iald 58 (mu 23 80) dX9_ways_57 rfl (vp_in_nI (n := 80) (by decide) (by decide)) rfl rfl ?_
    refine rn_icmp_ge 226 61 dX9_ways_58 (by decide) rfl (fun _ => ?_) (fun c58 => absurd (by rw [hg.2.2.1]; exact nI_le (by omega) (by have := hg.1; omega)) c58)
    refine rn_drop 5 [some (.ref 22), some (.int s0), some (.int (nI S)), some (.int (nI rep)), some (.int (bi s.2)), none, none, none, none, none, none] rfl ?_
    exact kk mu hA hfr
  | succ k ih =>
    intro e s mu h hek hg hA hfr kk
    have hlt : e < g.length := by omega
    have h16 := hg.1
    refine rn_iload 51 dX9_ways_49 rfl rfl ?_
    refine rn_aload_n 52 dX9_ways_51 rfl rfl rfl ?_
    refine rn_get 55 (.ref 23) dX9_ways_52 fl_X9_7 rfl rfl rfl rfl ?_
    refine rn_bipush (v := 80) 57 dX9_ways_55 (by decide) rfl ?_
    refine rn_iald 58 (mu 23 80) dX9_ways_57 rfl (vp_in_nI (n := 80) (by decide) (by decide)) rfl rfl ?_
    refine rn_icmp_ge 226 61 dX9_ways_58 (by decide) rfl (fun c58 => absurd c58 (by rw [hg.2.2.1]; exact nI_ge hlt (by omega))) (fun _ => ?_)
    refine rn_iconst (v := 0) 62 dX9_ways_61 (by decide) rfl ?_
    refine rn_istore 64 [some (.ref 22), some (.int s0), some (.int (nI S)), some (.int (nI rep)), some (.int (bi s.2)), some (.int (nI e)), some (.int 0), none, none, none, none] dX9_ways_62 rfl (Nat.le_of_ble_eq_true rfl) rfl ?_
    refine lp_wr d hS hrep hlt (mu0 := mu0) (rep + 1) 0 s mu h (by omega) hg hA hfr (fun mu' hA' hfr' => ?_)
    refine rn_iinc (v := (nI (e + 1))) 223 [some (.ref 22), some (.int s0), some (.int (nI S)), some (.int (nI rep)), some (.int (bi (wr g S rep e (rep + 1) 0 s).2)), some (.int (nI (e + 1))), none, none, none, none, none] dX9_ways_220 rfl (nI_1 _) rfl rfl ?_
    refine rn_goto 49 dX9_ways_223 (by decide) ?_
    exact ih (e + 1) (wr g S rep e (rep + 1) 0 s) mu' h (by omega) (mg_of hg (by rw [hfr' 23 (by omega), hfr 23 (by omega)])) hA' hfr' kk
