/-! THE REFERENCE: greedy -/

set_option maxRecDepth 100000 in
set_option maxHeartbeats 2000000 in
theorem lp_mgi (d : Nat) {g : List Ed} {s t Bd : Nat} (hs : s < 8) (ht : t < 8) (hBd : Bd ≤ 20) {S : Nat} (hS : S < 2 ^ g.length) {mu0 : Nat → Nat → Int32} {h : Int64} : ∀ (k e : Nat) (mu : Nat → Nat → Int32), e + k = g.length → (mg g mu) → (∀ c2, c2 ≠ 27 → mu c2 = mu0 c2) → rn_R none mX9_step (d + 5) 9 [some (.ref 22), some (.int (nI s)), some (.int (nI t)), some (.int (nI Bd)), some (.int (nI S)), some (.int (gb1 (grS g s t Bd S e))), some (.int (gb2 0 (grS g s t Bd S e))), some (.int (nI e)), none, none] [] mu h (fun r mu' h' => r = some (.int (gb1 (grS g s t Bd S g.length))) ∧ h' = h ∧ ∀ c2, c2 ≠ 27 → mu' c2 = mu0 c2) := by
  intro k
  induction k with
  | zero =>
    intro e mu hek hg hfr
    obtain rfl : e = g.length := by omega
    refine rn_iload 11 dX9_step_9 rfl rfl ?_
    refine rn_aload_n 12 dX9_step_11 rfl rfl rfl ?_
    refine rn_get 15 (.ref 23) dX9_step_12 fl_X9_7 rfl rfl rfl rfl ?_
    refine rn_bipush (v := 80) 17 dX9_step_15 (by decide) rfl ?_
    refine rn_iald 18 (mu 23 80) dX9_step_17 rfl (vp_in_nI (n := 80) (by decide) (by decide)) rfl rfl ?_
    refine rn_icmp_ge 140 21 dX9_step_18 (by decide) rfl (fun _ => ?_) (fun c18 => absurd (by rw [hg.2.2.1]; exact nI_le (by omega) (by have := hg.1; omega)) c18)
    refine rn_iload 142 dX9_step_140 rfl rfl ?_
    exact rn_iret rfl dX9_step_142 (⟨rfl, rfl, hfr⟩)
  | succ k ih =>
    intro e mu hek hg hfr
    have h16 := hg.1
    have hp := pw_le hg.1
    have hlt : e < g.length := by omega
    have hok := e_at hg.2.1 hlt
    have bx := xD_le (S := S ||| 2 ^ e) (s := s) (rep := 0) hg.2.1 ht
    have hSe : S ||| 2 ^ e < 2 ^ g.length := tb_add_lt hS hlt
    have hcs := cS_le hg.2.1 (S ||| 2 ^ e) g.length (Nat.le_refl _)
    have hm1 := c_mhas (d + 4) mu h (S := S) (e := e) (by omega) (by omega)
    by_cases q1 : S.testBit e = true
    · skip
      rw [if_pos q1] at hm1
      refine rn_iload 11 dX9_step_9 rfl rfl ?_
      refine rn_aload_n 12 dX9_step_11 rfl rfl rfl ?_
      refine rn_get 15 (.ref 23) dX9_step_12 fl_X9_7 rfl rfl rfl rfl ?_
      refine rn_bipush (v := 80) 17 dX9_step_15 (by decide) rfl ?_
      refine rn_iald 18 (mu 23 80) dX9_step_17 rfl (vp_in_nI (n := 80) (by decide) (by decide)) rfl rfl ?_
      refine rn_icmp_ge 140 21 dX9_step_18 (by decide) rfl (fun c18 => absurd c18 (by rw [hg.2.2.1]; exact nI_ge hlt (by omega))) (fun _ => ?_)
      refine rn_iload 23 dX9_step_21 rfl rfl ?_
      refine rn_iload 25 dX9_step_23 rfl rfl ?_
      refine rn_csp mX9_has [.int (nI S), .int (nI e)] [] 28 (.int 1) dX9_step_25 cs_X9_42 rfl rfl (by simp [Value.category]) rfl (hm1) ?_
      refine rn_if_ne 134 31 dX9_step_28 (by decide) rfl (fun _ => ?_) (fun c28 => absurd c28 (by decide))
      refine rn_iinc (v := (nI (e + 1))) 137 [some (.ref 22), some (.int (nI s)), some (.int (nI t)), some (.int (nI Bd)), some (.int (nI S)), some (.int (gb1 (grS g s t Bd S e))), some (.int (gb2 0 (grS g s t Bd S e))), some (.int (nI (e + 1))), none, none] dX9_step_134 rfl (nI_1 _) rfl rfl ?_
      refine rn_goto 9 dX9_step_137 (by decide) ?_
      have em : grS g s t Bd S (e + 1) = grS g s t Bd S e := if_neg (fun z => z.1 q1)
      have z := ih (e + 1) mu (by omega) hg hfr
      rw [em] at z
      exact z
    · skip
      rw [if_neg q1] at hm1
      by_cases q2 : cS g (S ||| 2 ^ e) g.length ≤ Bd
      · skip
        have em0 : grS g s t Bd S (e + 1) = grT g (grS g s t Bd S e) e (xD g (S ||| 2 ^ e) s t 0) := if_pos ⟨q1, q2⟩
        refine rn_iload 11 dX9_step_9 rfl rfl ?_
        refine rn_aload_n 12 dX9_step_11 rfl rfl rfl ?_
        refine rn_get 15 (.ref 23) dX9_step_12 fl_X9_7 rfl rfl rfl rfl ?_
        refine rn_bipush (v := 80) 17 dX9_step_15 (by decide) rfl ?_
        refine rn_iald 18 (mu 23 80) dX9_step_17 rfl (vp_in_nI (n := 80) (by decide) (by decide)) rfl rfl ?_
        refine rn_icmp_ge 140 21 dX9_step_18 (by decide) rfl (fun c18 => absurd c18 (by rw [hg.2.2.1]; exact nI_ge hlt (by omega))) (fun _ => ?_)
        refine rn_iload 23 dX9_step_21 rfl rfl ?_
        refine rn_iload 25 dX9_step_23 rfl rfl ?_
        refine rn_csp mX9_has [.int (nI S), .int (nI e)] [] 28 (.int 0) dX9_step_25 cs_X9_42 rfl rfl (by simp [Value.category]) rfl (hm1) ?_
        refine rn_if_ne 134 31 dX9_step_28 (by decide) rfl (fun c28 => absurd (rfl) c28) (fun _ => ?_)
        refine rn_aload_n 32 dX9_step_31 rfl rfl rfl ?_
        refine rn_iload 34 dX9_step_32 rfl rfl ?_
        refine rn_iconst (v := 1) 35 dX9_step_34 (by decide) rfl ?_
        refine rn_iload 37 dX9_step_35 rfl rfl ?_
        refine rn_ishl 38 dX9_step_37 rfl ?_
        refine rn_ior 39 dX9_step_38 rfl ?_
        rw [nb_1 (by omega), nb_or]
        refine rn_cvp mX9_costOf [.int (nI (S ||| 2 ^ e))] [] 42 (.int (nI (cS g (S ||| 2 ^ e) g.length))) dX9_step_39 cv_X9_118 rfl rfl rfl (by simp [Value.category]) rfl (c_costOf (d + 2) h hg (S := S ||| 2 ^ e) (by omega)) ?_
        refine rn_iload_n 43 dX9_step_42 rfl rfl rfl ?_
        refine rn_icmp_gt 134 46 dX9_step_43 (by decide) rfl (fun c43 => absurd c43 (nI_nlt (by omega) (by omega))) (fun _ => ?_)
        refine rn_aload_n 47 dX9_step_46 rfl rfl rfl ?_
        refine rn_iload_n 48 dX9_step_47 rfl rfl rfl ?_
        refine rn_iload_n 49 dX9_step_48 rfl rfl rfl ?_
        refine rn_iload 51 dX9_step_49 rfl rfl ?_
        refine rn_iconst (v := 1) 52 dX9_step_51 (by decide) rfl ?_
        refine rn_iload 54 dX9_step_52 rfl rfl ?_
        refine rn_ishl 55 dX9_step_54 rfl ?_
        refine rn_ior 56 dX9_step_55 rfl ?_
        rw [nb_1 (by omega), nb_or]
        refine rn_iconst (v := 0) 57 dX9_step_56 (by decide) rfl ?_
        refine rn_callV mX9_far [.int (nI s), .int (nI t), .int (nI (S ||| 2 ^ e)), .int 0] [] dX9_step_57 cv_X9_134 rfl rfl rfl (by simp [Value.category]) (c_far (d) (S := S ||| 2 ^ e) (s := s) (t := t) (rep := 0) (by omega) hs ht (by omega) h hg) (fun r1 m1 h1 q1 _ => ?_)
        obtain ⟨e1, k1, f1⟩ := q1
        rw [e1, k1]
        have hg1 : mg g m1 := mg_of hg (f1 23 (by omega))
        show rn_R _ mX9_step _ 60 [some (.ref 22), some (.int (nI s)), some (.int (nI t)), some (.int (nI Bd)), some (.int (nI S)), some (.int (gb1 (grS g s t Bd S e))), some (.int (gb2 0 (grS g s t Bd S e))), some (.int (nI e)), none, none] [.int (nI (xD g (S ||| 2 ^ e) s t 0))] m1 h _
        refine rn_istore 62 [some (.ref 22), some (.int (nI s)), some (.int (nI t)), some (.int (nI Bd)), some (.int (nI S)), some (.int (gb1 (grS g s t Bd S e))), some (.int (gb2 0 (grS g s t Bd S e))), some (.int (nI e)), some (.int (nI (xD g (S ||| 2 ^ e) s t 0))), none] dX9_step_60 rfl (Nat.le_of_ble_eq_true rfl) rfl ?_
        cases hbj : grS g s t Bd S e with
        | none =>
          show rn_R _ mX9_step _ 62 [some (.ref 22), some (.int (nI s)), some (.int (nI t)), some (.int (nI Bd)), some (.int (nI S)), some (.int (-1)), some (.int (nI 0)), some (.int (nI e)), some (.int (nI (xD g (S ||| 2 ^ e) s t 0))), none] [] m1 h _
          refine rn_iload 64 dX9_step_62 rfl rfl ?_
          refine rn_iconst (v := (-1)) 65 dX9_step_64 (by decide) rfl ?_
          refine rn_icmp_eq 99 68 dX9_step_65 (by decide) rfl (fun _ => ?_) (fun c65 => absurd (rfl) c65)
          refine rn_iconst (v := 1) 100 dX9_step_99 (by decide) rfl ?_
          refine rn_goto 104 dX9_step_100 (by decide) ?_
          refine rn_istore 106 [some (.ref 22), some (.int (nI s)), some (.int (nI t)), some (.int (nI Bd)), some (.int (nI S)), some (.int (-1)), some (.int (nI 0)), some (.int (nI e)), some (.int (nI (xD g (S ||| 2 ^ e) s t 0))), some (.int 1)] dX9_step_104 rfl (Nat.le_of_ble_eq_true rfl) rfl ?_
          refine rn_iload 108 dX9_step_106 rfl rfl ?_
          refine rn_if_eq 116 111 dX9_step_108 (by decide) rfl (fun c108 => absurd c108 (by decide)) (fun _ => ?_)
          refine rn_iload 113 dX9_step_111 rfl rfl ?_
          refine rn_goto 118 dX9_step_113 (by decide) ?_
          refine rn_istore 120 [some (.ref 22), some (.int (nI s)), some (.int (nI t)), some (.int (nI Bd)), some (.int (nI S)), some (.int (nI e)), some (.int (nI 0)), some (.int (nI e)), some (.int (nI (xD g (S ||| 2 ^ e) s t 0))), some (.int 1)] dX9_step_118 rfl (Nat.le_of_ble_eq_true rfl) rfl ?_
          refine rn_iload 122 dX9_step_120 rfl rfl ?_
          refine rn_if_eq 130 125 dX9_step_122 (by decide) rfl (fun c122 => absurd c122 (by decide)) (fun _ => ?_)
          refine rn_iload 127 dX9_step_125 rfl rfl ?_
          refine rn_goto 132 dX9_step_127 (by decide) ?_
          refine rn_istore 134 [some (.ref 22), some (.int (nI s)), some (.int (nI t)), some (.int (nI Bd)), some (.int (nI S)), some (.int (nI e)), some (.int (nI (xD g (S ||| 2 ^ e) s t 0))), some (.int (nI e)), some (.int (nI (xD g (S ||| 2 ^ e) s t 0))), some (.int 1)] dX9_step_132 rfl (Nat.le_of_ble_eq_true rfl) rfl ?_
          refine rn_iinc (v := (nI (e + 1))) 137 [some (.ref 22), some (.int (nI s)), some (.int (nI t)), some (.int (nI Bd)), some (.int (nI S)), some (.int (nI e)), some (.int (nI (xD g (S ||| 2 ^ e) s t 0))), some (.int (nI (e + 1))), some (.int (nI (xD g (S ||| 2 ^ e) s t 0))), some (.int 1)] dX9_step_134 rfl (nI_1 _) rfl rfl ?_
          refine rn_goto 9 dX9_step_137 (by decide) ?_
          refine rn_drop 8 [some (.ref 22), some (.int (nI s)), some (.int (nI t)), some (.int (nI Bd)), some (.int (nI S)), some (.int (nI e)), some (.int (nI (xD g (S ||| 2 ^ e) s t 0))), some (.int (nI (e + 1))), none, some (.int 1)] rfl ?_
          refine rn_drop 9 [some (.ref 22), some (.int (nI s)), some (.int (nI t)), some (.int (nI Bd)), some (.int (nI S)), some (.int (nI e)), some (.int (nI (xD g (S ||| 2 ^ e) s t 0))), some (.int (nI (e + 1))), none, none] rfl ?_
          have em : grS g s t Bd S (e + 1) = some (e, xD g (S ||| 2 ^ e) s t 0) := by rw [em0, hbj]; exact rfl
          have z := ih (e + 1) m1 (by omega) hg1 (fun c2 h2 => by rw [f1 c2 h2]; exact hfr c2 h2)
          rw [em] at z
          exact z
        | some p =>
          obtain ⟨p1, p2⟩ := p
          obtain ⟨k1, k2, k3, k4⟩ := grS_ok _ _ hbj
          simp only at k1 k2 k3 k4
          have bp := xD_le (S := S ||| 2 ^ p1) (s := s) (rep := 0) hg.2.1 ht
          have hok2 := e_at hg.2.1 (show p1 < g.length by omega)
          show rn_R _ mX9_step _ 62 [some (.ref 22), some (.int (nI s)), some (.int (nI t)), some (.int (nI Bd)), some (.int (nI S)), some (.int (nI p1)), some (.int (nI p2)), some (.int (nI e)), some (.int (nI (xD g (S ||| 2 ^ e) s t 0))), none] [] m1 h _
          by_cases q3 : p2 < xD g (S ||| 2 ^ e) s t 0
          · skip
            refine rn_iload 64 dX9_step_62 rfl rfl ?_
            refine rn_iconst (v := (-1)) 65 dX9_step_64 (by decide) rfl ?_
            refine rn_icmp_eq 99 68 dX9_step_65 (by decide) rfl (fun c65 => absurd c65 (nI_m1 (by omega))) (fun _ => ?_)
            refine rn_iload 70 dX9_step_68 rfl rfl ?_
            refine rn_iload 72 dX9_step_70 rfl rfl ?_
            refine rn_icmp_gt 99 75 dX9_step_72 (by decide) rfl (fun _ => ?_) (fun c72 => absurd (nI_lt q3 (by omega)) c72)
            refine rn_iconst (v := 1) 100 dX9_step_99 (by decide) rfl ?_
            refine rn_goto 104 dX9_step_100 (by decide) ?_
            refine rn_istore 106 [some (.ref 22), some (.int (nI s)), some (.int (nI t)), some (.int (nI Bd)), some (.int (nI S)), some (.int (nI p1)), some (.int (nI p2)), some (.int (nI e)), some (.int (nI (xD g (S ||| 2 ^ e) s t 0))), some (.int 1)] dX9_step_104 rfl (Nat.le_of_ble_eq_true rfl) rfl ?_
            refine rn_iload 108 dX9_step_106 rfl rfl ?_
            refine rn_if_eq 116 111 dX9_step_108 (by decide) rfl (fun c108 => absurd c108 (by decide)) (fun _ => ?_)
            refine rn_iload 113 dX9_step_111 rfl rfl ?_
            refine rn_goto 118 dX9_step_113 (by decide) ?_
            refine rn_istore 120 [some (.ref 22), some (.int (nI s)), some (.int (nI t)), some (.int (nI Bd)), some (.int (nI S)), some (.int (nI e)), some (.int (nI p2)), some (.int (nI e)), some (.int (nI (xD g (S ||| 2 ^ e) s t 0))), some (.int 1)] dX9_step_118 rfl (Nat.le_of_ble_eq_true rfl) rfl ?_
            refine rn_iload 122 dX9_step_120 rfl rfl ?_
            refine rn_if_eq 130 125 dX9_step_122 (by decide) rfl (fun c122 => absurd c122 (by decide)) (fun _ => ?_)
            refine rn_iload 127 dX9_step_125 rfl rfl ?_
            refine rn_goto 132 dX9_step_127 (by decide) ?_
            refine rn_istore 134 [some (.ref 22), some (.int (nI s)), some (.int (nI t)), some (.int (nI Bd)), some (.int (nI S)), some (.int (nI e)), some (.int (nI (xD g (S ||| 2 ^ e) s t 0))), some (.int (nI e)), some (.int (nI (xD g (S ||| 2 ^ e) s t 0))), some (.int 1)] dX9_step_132 rfl (Nat.le_of_ble_eq_true rfl) rfl ?_
            refine rn_iinc (v := (nI (e + 1))) 137 [some (.ref 22), some (.int (nI s)), some (.int (nI t)), some (.int (nI Bd)), some (.int (nI S)), some (.int (nI e)), some (.int (nI (xD g (S ||| 2 ^ e) s t 0))), some (.int (nI (e + 1))), some (.int (nI (xD g (S ||| 2 ^ e) s t 0))), some (.int 1)] dX9_step_134 rfl (nI_1 _) rfl rfl ?_
            refine rn_goto 9 dX9_step_137 (by decide) ?_
            refine rn_drop 8 [some (.ref 22), some (.int (nI s)), some (.int (nI t)), some (.int (nI Bd)), some (.int (nI S)), some (.int (nI e)), some (.int (nI (xD g (S ||| 2 ^ e) s t 0))), some (.int (nI (e + 1))), none, some (.int 1)] rfl ?_
            refine rn_drop 9 [some (.ref 22), some (.int (nI s)), some (.int (nI t)), some (.int (nI Bd)), some (.int (nI S)), some (.int (nI e)), some (.int (nI (xD g (S ||| 2 ^ e) s t 0))), some (.int (nI (e + 1))), none, none] rfl ?_
            have em : grS g s t Bd S (e + 1) = some (e, xD g (S ||| 2 ^ e) s t 0) := by rw [em0, hbj]; exact if_pos (Or.inl q3)
            have z := ih (e + 1) m1 (by omega) hg1 (fun c2 h2 => by rw [f1 c2 h2]; exact hfr c2 h2)
            rw [em] at z
            exact z
          · skip
            by_cases q4 : xD g (S ||| 2 ^ e) s t 0 = p2
            · skip
              by_cases q5 : eC g e < eC g p1
              · skip
                refine rn_iload 64 dX9_step_62 rfl rfl ?_
                refine rn_iconst (v := (-1)) 65 dX9_step_64 (by decide) rfl ?_
                refine rn_icmp_eq 99 68 dX9_step_65 (by decide) rfl (fun c65 => absurd c65 (nI_m1 (by omega))) (fun _ => ?_)
                refine rn_iload 70 dX9_step_68 rfl rfl ?_
                refine rn_iload 72 dX9_step_70 rfl rfl ?_
                refine rn_icmp_gt 99 75 dX9_step_72 (by decide) rfl (fun c72 => absurd c72 (nI_nlt (by omega) (by omega))) (fun _ => ?_)
                refine rn_iload 77 dX9_step_75 rfl rfl ?_
                refine rn_iload 79 dX9_step_77 rfl rfl ?_
                refine rn_icmp_ne 103 82 dX9_step_79 (by decide) rfl (fun c79 => absurd (congrArg nI q4) c79) (fun _ => ?_)
                refine rn_aload_n 83 dX9_step_82 rfl rfl rfl ?_
                refine rn_iload 85 dX9_step_83 rfl rfl ?_
                refine rn_iconst (v := 4) 86 dX9_step_85 (by decide) rfl ?_
                refine rn_cvp mX9_of [.int (nI e), .int 4] [] 89 (.int (nI (eC g e))) dX9_step_86 cv_X9_46 rfl rfl rfl (by simp [Value.category]) rfl (c_ofe (d + 4) h hg1 (w := 4) hlt (by omega)) ?_
                refine rn_aload_n 90 dX9_step_89 rfl rfl rfl ?_
                refine rn_iload 92 dX9_step_90 rfl rfl ?_
                refine rn_iconst (v := 4) 93 dX9_step_92 (by decide) rfl ?_
                refine rn_cvp mX9_of [.int (nI p1), .int 4] [.int (nI (eC g e))] 96 (.int (nI (eC g p1))) dX9_step_93 cv_X9_46 rfl rfl rfl (by simp [Value.category]) rfl (c_ofe (d + 4) h hg1 (w := 4) (show p1 < g.length by omega) (by omega)) ?_
                refine rn_icmp_ge 103 99 dX9_step_96 (by decide) rfl (fun c96 => absurd c96 (nI_ge q5 (by omega))) (fun _ => ?_)
                refine rn_iconst (v := 1) 100 dX9_step_99 (by decide) rfl ?_
                refine rn_goto 104 dX9_step_100 (by decide) ?_
                refine rn_istore 106 [some (.ref 22), some (.int (nI s)), some (.int (nI t)), some (.int (nI Bd)), some (.int (nI S)), some (.int (nI p1)), some (.int (nI p2)), some (.int (nI e)), some (.int (nI (xD g (S ||| 2 ^ e) s t 0))), some (.int 1)] dX9_step_104 rfl (Nat.le_of_ble_eq_true rfl) rfl ?_
                refine rn_iload 108 dX9_step_106 rfl rfl ?_
                refine rn_if_eq 116 111 dX9_step_108 (by decide) rfl (fun c108 => absurd c108 (by decide)) (fun _ => ?_)
                refine rn_iload 113 dX9_step_111 rfl rfl ?_
                refine rn_goto 118 dX9_step_113 (by decide) ?_
                refine rn_istore 120 [some (.ref 22), some (.int (nI s)), some (.int (nI t)), some (.int (nI Bd)), some (.int (nI S)), some (.int (nI e)), some (.int (nI p2)), some (.int (nI e)), some (.int (nI (xD g (S ||| 2 ^ e) s t 0))), some (.int 1)] dX9_step_118 rfl (Nat.le_of_ble_eq_true rfl) rfl ?_
                refine rn_iload 122 dX9_step_120 rfl rfl ?_
                refine rn_if_eq 130 125 dX9_step_122 (by decide) rfl (fun c122 => absurd c122 (by decide)) (fun _ => ?_)
                refine rn_iload 127 dX9_step_125 rfl rfl ?_
                refine rn_goto 132 dX9_step_127 (by decide) ?_
                refine rn_istore 134 [some (.ref 22), some (.int (nI s)), some (.int (nI t)), some (.int (nI Bd)), some (.int (nI S)), some (.int (nI e)), some (.int (nI (xD g (S ||| 2 ^ e) s t 0))), some (.int (nI e)), some (.int (nI (xD g (S ||| 2 ^ e) s t 0))), some (.int 1)] dX9_step_132 rfl (Nat.le_of_ble_eq_true rfl) rfl ?_
                refine rn_iinc (v := (nI (e + 1))) 137 [some (.ref 22), some (.int (nI s)), some (.int (nI t)), some (.int (nI Bd)), some (.int (nI S)), some (.int (nI e)), some (.int (nI (xD g (S ||| 2 ^ e) s t 0))), some (.int (nI (e + 1))), some (.int (nI (xD g (S ||| 2 ^ e) s t 0))), some (.int 1)] dX9_step_134 rfl (nI_1 _) rfl rfl ?_
                refine rn_goto 9 dX9_step_137 (by decide) ?_
                refine rn_drop 8 [some (.ref 22), some (.int (nI s)), some (.int (nI t)), some (.int (nI Bd)), some (.int (nI S)), some (.int (nI e)), some (.int (nI (xD g (S ||| 2 ^ e) s t 0))), some (.int (nI (e + 1))), none, some (.int 1)] rfl ?_
                refine rn_drop 9 [some (.ref 22), some (.int (nI s)), some (.int (nI t)), some (.int (nI Bd)), some (.int (nI S)), some (.int (nI e)), some (.int (nI (xD g (S ||| 2 ^ e) s t 0))), some (.int (nI (e + 1))), none, none] rfl ?_
                have em : grS g s t Bd S (e + 1) = some (e, xD g (S ||| 2 ^ e) s t 0) := by rw [em0, hbj]; exact if_pos (Or.inr ⟨q4, q5⟩)
                have z := ih (e + 1) m1 (by omega) hg1 (fun c2 h2 => by rw [f1 c2 h2]; exact hfr c2 h2)
                rw [em] at z
                exact z
              · skip
                refine rn_iload 64 dX9_step_62 rfl rfl ?_
                refine rn_iconst (v := (-1)) 65 dX9_step_64 (by decide) rfl ?_
                refine rn_icmp_eq 99 68 dX9_step_65 (by decide) rfl (fun c65 => absurd c65 (nI_m1 (by omega))) (fun _ => ?_)
                refine rn_iload 70 dX9_step_68 rfl rfl ?_
                refine rn_iload 72 dX9_step_70 rfl rfl ?_
                refine rn_icmp_gt 99 75 dX9_step_72 (by decide) rfl (fun c72 => absurd c72 (nI_nlt (by omega) (by omega))) (fun _ => ?_)
                refine rn_iload 77 dX9_step_75 rfl rfl ?_
                refine rn_iload 79 dX9_step_77 rfl rfl ?_
                refine rn_icmp_ne 103 82 dX9_step_79 (by decide) rfl (fun c79 => absurd (congrArg nI q4) c79) (fun _ => ?_)
                refine rn_aload_n 83 dX9_step_82 rfl rfl rfl ?_
                refine rn_iload 85 dX9_step_83 rfl rfl ?_
                refine rn_iconst (v := 4) 86 dX9_step_85 (by decide) rfl ?_
                refine rn_cvp mX9_of [.int (nI e), .int 4] [] 89 (.int (nI (eC g e))) dX9_step_86 cv_X9_46 rfl rfl rfl (by simp [Value.category]) rfl (c_ofe (d + 4) h hg1 (w := 4) hlt (by omega)) ?_
                refine rn_aload_n 90 dX9_step_89 rfl rfl rfl ?_
                refine rn_iload 92 dX9_step_90 rfl rfl ?_
                refine rn_iconst (v := 4) 93 dX9_step_92 (by decide) rfl ?_
                refine rn_cvp mX9_of [.int (nI p1), .int 4] [.int (nI (eC g e))] 96 (.int (nI (eC g p1))) dX9_step_93 cv_X9_46 rfl rfl rfl (by simp [Value.category]) rfl (c_ofe (d + 4) h hg1 (w := 4) (show p1 < g.length by omega) (by omega)) ?_
                refine rn_icmp_ge 103 99 dX9_step_96 (by decide) rfl (fun _ => ?_) (fun c96 => absurd (nI_le (by omega) (by omega)) c96)
                refine rn_iconst (v := 0) 104 dX9_step_103 (by decide) rfl ?_
                refine rn_istore 106 [some (.ref 22), some (.int (nI s)), some (.int (nI t)), some (.int (nI Bd)), some (.int (nI S)), some (.int (nI p1)), some (.int (nI p2)), some (.int (nI e)), some (.int (nI (xD g (S ||| 2 ^ e) s t 0))), some (.int 0)] dX9_step_104 rfl (Nat.le_of_ble_eq_true rfl) rfl ?_
                refine rn_iload 108 dX9_step_106 rfl rfl ?_
                refine rn_if_eq 116 111 dX9_step_108 (by decide) rfl (fun _ => ?_) (fun c108 => absurd (by decide) c108)
                refine rn_iload 118 dX9_step_116 rfl rfl ?_
                refine rn_istore 120 [some (.ref 22), some (.int (nI s)), some (.int (nI t)), some (.int (nI Bd)), some (.int (nI S)), some (.int (nI p1)), some (.int (nI p2)), some (.int (nI e)), some (.int (nI (xD g (S ||| 2 ^ e) s t 0))), some (.int 0)] dX9_step_118 rfl (Nat.le_of_ble_eq_true rfl) rfl ?_
                refine rn_iload 122 dX9_step_120 rfl rfl ?_
                refine rn_if_eq 130 125 dX9_step_122 (by decide) rfl (fun _ => ?_) (fun c122 => absurd (by decide) c122)
                refine rn_iload 132 dX9_step_130 rfl rfl ?_
                refine rn_istore 134 [some (.ref 22), some (.int (nI s)), some (.int (nI t)), some (.int (nI Bd)), some (.int (nI S)), some (.int (nI p1)), some (.int (nI p2)), some (.int (nI e)), some (.int (nI (xD g (S ||| 2 ^ e) s t 0))), some (.int 0)] dX9_step_132 rfl (Nat.le_of_ble_eq_true rfl) rfl ?_
                refine rn_iinc (v := (nI (e + 1))) 137 [some (.ref 22), some (.int (nI s)), some (.int (nI t)), some (.int (nI Bd)), some (.int (nI S)), some (.int (nI p1)), some (.int (nI p2)), some (.int (nI (e + 1))), some (.int (nI (xD g (S ||| 2 ^ e) s t 0))), some (.int 0)] dX9_step_134 rfl (nI_1 _) rfl rfl ?_
                refine rn_goto 9 dX9_step_137 (by decide) ?_
                refine rn_drop 8 [some (.ref 22), some (.int (nI s)), some (.int (nI t)), some (.int (nI Bd)), some (.int (nI S)), some (.int (nI p1)), some (.int (nI p2)), some (.int (nI (e + 1))), none, some (.int 0)] rfl ?_
                refine rn_drop 9 [some (.ref 22), some (.int (nI s)), some (.int (nI t)), some (.int (nI Bd)), some (.int (nI S)), some (.int (nI p1)), some (.int (nI p2)), some (.int (nI (e + 1))), none, none] rfl ?_
                have em : grS g s t Bd S (e + 1) = some (p1, p2) := by rw [em0, hbj]; exact if_neg (fun z => by rcases z with z | ⟨-, z⟩; exact q3 z; exact q5 z)
                have z := ih (e + 1) m1 (by omega) hg1 (fun c2 h2 => by rw [f1 c2 h2]; exact hfr c2 h2)
                rw [em] at z
                exact z
            · skip
              refine rn_iload 64 dX9_step_62 rfl rfl ?_
              refine rn_iconst (v := (-1)) 65 dX9_step_64 (by decide) rfl ?_
              refine rn_icmp_eq 99 68 dX9_step_65 (by decide) rfl (fun c65 => absurd c65 (nI_m1 (by omega))) (fun _ => ?_)
              refine rn_iload 70 dX9_step_68 rfl rfl ?_
              refine rn_iload 72 dX9_step_70 rfl rfl ?_
              refine rn_icmp_gt 99 75 dX9_step_72 (by decide) rfl (fun c72 => absurd c72 (nI_nlt (by omega) (by omega))) (fun _ => ?_)
              refine rn_iload 77 dX9_step_75 rfl rfl ?_
              refine rn_iload 79 dX9_step_77 rfl rfl ?_
              refine rn_icmp_ne 103 82 dX9_step_79 (by decide) rfl (fun _ => ?_) (fun c79 => absurd c79 (fun z => q4 ((nI_eq (by omega) (by omega)).mp z)))
              refine rn_iconst (v := 0) 104 dX9_step_103 (by decide) rfl ?_
              refine rn_istore 106 [some (.ref 22), some (.int (nI s)), some (.int (nI t)), some (.int (nI Bd)), some (.int (nI S)), some (.int (nI p1)), some (.int (nI p2)), some (.int (nI e)), some (.int (nI (xD g (S ||| 2 ^ e) s t 0))), some (.int 0)] dX9_step_104 rfl (Nat.le_of_ble_eq_true rfl) rfl ?_
              refine rn_iload 108 dX9_step_106 rfl rfl ?_
              refine rn_if_eq 116 111 dX9_step_108 (by decide) rfl (fun _ => ?_) (fun c108 => absurd (by decide) c108)
              refine rn_iload 118 dX9_step_116 rfl rfl ?_
              refine rn_istore 120 [some (.ref 22), some (.int (nI s)), some (.int (nI t)), some (.int (nI Bd)), some (.int (nI S)), some (.int (nI p1)), some (.int (nI p2)), some (.int (nI e)), some (.int (nI (xD g (S ||| 2 ^ e) s t 0))), some (.int 0)] dX9_step_118 rfl (Nat.le_of_ble_eq_true rfl) rfl ?_
              refine rn_iload 122 dX9_step_120 rfl rfl ?_
              refine rn_if_eq 130 125 dX9_step_122 (by decide) rfl (fun _ => ?_) (fun c122 => absurd (by decide) c122)
              refine rn_iload 132 dX9_step_130 rfl rfl ?_
              refine rn_istore 134 [some (.ref 22), some (.int (nI s)), some (.int (nI t)), some (.int (nI Bd)), some (.int (nI S)), some (.int (nI p1)), some (.int (nI p2)), some (.int (nI e)), some (.int (nI (xD g (S ||| 2 ^ e) s t 0))), some (.int 0)] dX9_step_132 rfl (Nat.le_of_ble_eq_true rfl) rfl ?_
              refine rn_iinc (v := (nI (e + 1))) 137 [some (.ref 22), some (.int (nI s)), some (.int (nI t)), some (.int (nI Bd)), some (.int (nI S)), some (.int (nI p1)), some (.int (nI p2)), some (.int (nI (e + 1))), some (.int (nI (xD g (S ||| 2 ^ e) s t 0))), some (.int 0)] dX9_step_134 rfl (nI_1 _) rfl rfl ?_
              refine rn_goto 9 dX9_step_137 (by decide) ?_
              refine rn_drop 8 [some (.ref 22), some (.int (nI s)), some (.int (nI t)), some (.int (nI Bd)), some (.int (nI S)), some (.int (nI p1)), some (.int (nI p2)), some (.int (nI (e + 1))), none, some (.int 0)] rfl ?_
              refine rn_drop 9 [some (.ref 22), some (.int (nI s)), some (.int (nI t)), some (.int (nI Bd)), some (.int (nI S)), some (.int (nI p1)), some (.int (nI p2)), some (.int (nI (e + 1))), none, none] rfl ?_
              have em : grS g s t Bd S (e + 1) = some (p1, p2) := by rw [em0, hbj]; exact if_neg (fun z => by rcases z with z | ⟨z, -⟩; exact q3 z; exact q4 z)
              have z := ih (e + 1) m1 (by omega) hg1 (fun c2 h2 => by rw [f1 c2 h2]; exact hfr c2 h2)
              rw [em] at z
              exact z
      · skip
        refine rn_iload 11 dX9_step_9 rfl rfl ?_
        refine rn_aload_n 12 dX9_step_11 rfl rfl rfl ?_
        refine rn_get 15 (.ref 23) dX9_step_12 fl_X9_7 rfl rfl rfl rfl ?_
        refine rn_bipush (v := 80) 17 dX9_step_15 (by decide) rfl ?_
        refine rn_iald 18 (mu 23 80) dX9_step_17 rfl (vp_in_nI (n := 80) (by decide) (by decide)) rfl rfl ?_
        refine rn_icmp_ge 140 21 dX9_step_18 (by decide) rfl (fun c18 => absurd c18 (by rw [hg.2.2.1]; exact nI_ge hlt (by omega))) (fun _ => ?_)
        refine rn_iload 23 dX9_step_21 rfl rfl ?_
        refine rn_iload 25 dX9_step_23 rfl rfl ?_
        refine rn_csp mX9_has [.int (nI S), .int (nI e)] [] 28 (.int 0) dX9_step_25 cs_X9_42 rfl rfl (by simp [Value.category]) rfl (hm1) ?_
        refine rn_if_ne 134 31 dX9_step_28 (by decide) rfl (fun c28 => absurd (rfl) c28) (fun _ => ?_)
        refine rn_aload_n 32 dX9_step_31 rfl rfl rfl ?_
        refine rn_iload 34 dX9_step_32 rfl rfl ?_
        refine rn_iconst (v := 1) 35 dX9_step_34 (by decide) rfl ?_
        refine rn_iload 37 dX9_step_35 rfl rfl ?_
        refine rn_ishl 38 dX9_step_37 rfl ?_
        refine rn_ior 39 dX9_step_38 rfl ?_
        rw [nb_1 (by omega), nb_or]
        refine rn_cvp mX9_costOf [.int (nI (S ||| 2 ^ e))] [] 42 (.int (nI (cS g (S ||| 2 ^ e) g.length))) dX9_step_39 cv_X9_118 rfl rfl rfl (by simp [Value.category]) rfl (c_costOf (d + 2) h hg (S := S ||| 2 ^ e) (by omega)) ?_
        refine rn_iload_n 43 dX9_step_42 rfl rfl rfl ?_
        refine rn_icmp_gt 134 46 dX9_step_43 (by decide) rfl (fun _ => ?_) (fun c43 => absurd (nI_lt (by omega) (by omega)) c43)
        refine rn_iinc (v := (nI (e + 1))) 137 [some (.ref 22), some (.int (nI s)), some (.int (nI t)), some (.int (nI Bd)), some (.int (nI S)), some (.int (gb1 (grS g s t Bd S e))), some (.int (gb2 0 (grS g s t Bd S e))), some (.int (nI (e + 1))), none, none] dX9_step_134 rfl (nI_1 _) rfl rfl ?_
        refine rn_goto 9 dX9_step_137 (by decide) ?_
        have em : grS g s t Bd S (e + 1) = grS g s t Bd S e := if_neg (fun z => q2 z.2)
        have z := ih (e + 1) mu (by omega) hg hfr
        rw [em] at z
        exact z

set_option maxRecDepth 100000 in
set_option maxHeartbeats 2000000 in
theorem c_step (d : Nat) {g : List Ed} {s t Bd : Nat} (hs : s < 8) (ht : t < 8) (hBd : Bd ≤ 20) {S : Nat} (hS : S < 2 ^ g.length) {mu : Nat → Nat → Int32} (h : Int64) (hg : mg g mu) : gd_G mX9_step (d + 5) [.ref 22, .int (nI s), .int (nI t), .int (nI Bd), .int (nI S)] mu h (fun r mu' h' => r = some (.int (gb1 (grS g s t Bd S g.length))) ∧ h' = h ∧ ∀ c2, c2 ≠ 27 → mu' c2 = mu c2) := by
  refine gd_of rfl (Nat.le_of_ble_eq_true rfl) ?_
  show rn_R none mX9_step (d + 5) 0 [some (.ref 22), some (.int (nI s)), some (.int (nI t)), some (.int (nI Bd)), some (.int (nI S)), none, none, none, none, none] [] mu h (fun r mu' h' => r = some (.int (gb1 (grS g s t Bd S g.length))) ∧ h' = h ∧ ∀ c2, c2 ≠ 27 → mu' c2 = mu c2)
  refine rn_iconst (v := (-1)) 1 dX9_step_0 (by decide) rfl ?_
  refine rn_istore 3 [some (.ref 22), some (.int (nI s)), some (.int (nI t)), some (.int (nI Bd)), some (.int (nI S)), some (.int (-1)), none, none, none, none] dX9_step_1 rfl (Nat.le_of_ble_eq_true rfl) rfl ?_
  refine rn_iconst (v := 0) 4 dX9_step_3 (by decide) rfl ?_
  refine rn_istore 6 [some (.ref 22), some (.int (nI s)), some (.int (nI t)), some (.int (nI Bd)), some (.int (nI S)), some (.int (-1)), some (.int 0), none, none, none] dX9_step_4 rfl (Nat.le_of_ble_eq_true rfl) rfl ?_
  refine rn_iconst (v := 0) 7 dX9_step_6 (by decide) rfl ?_
  refine rn_istore 9 [some (.ref 22), some (.int (nI s)), some (.int (nI t)), some (.int (nI Bd)), some (.int (nI S)), some (.int (-1)), some (.int 0), some (.int 0), none, none] dX9_step_7 rfl (Nat.le_of_ble_eq_true rfl) rfl ?_
  exact lp_mgi d hs ht hBd hS (mu0 := mu) g.length 0 mu (by omega) hg (fun _ _ => rfl)

set_option maxRecDepth 100000 in
set_option maxHeartbeats 2000000 in
theorem lp_mgo (d : Nat) {g : List Ed} {s t Bd : Nat} (hs : s < 8) (ht : t < 8) (hBd : Bd ≤ 20) {mu0 : Nat → Nat → Int32} {h : Int64} : ∀ (f S : Nat) (mu : Nat → Nat → Int32), g.length ≤ mny S g.length + f → S < 2 ^ g.length → mg g mu → (∀ c2, c2 ≠ 27 → mu c2 = mu0 c2) → rn_R none mX9_greedy (d + 6) 37 [some (.ref 22), some (.int (nI s)), some (.int (nI t)), some (.int (nI Bd)), some (.int (nI S)), some (.int (nI (xD g S s t 0))), some (.int 1), none, none] [] mu h (fun r mu' _ => r = some (.int (nI (grd g s t Bd f S).2)) ∧ mu' 22 3 = nI (grd g s t Bd f S).1 ∧ (∀ c, c ≠ 27 → c ≠ 22 → mu' c = mu0 c) ∧ ∀ j, j ≠ 3 → mu' 22 j = mu0 22 j) := by
  intro f
  induction f with
  | zero =>
    intro S mu hmn hS hg hfr
    have h16 := hg.1
    have hp := pw_le hg.1
    have bn := xD_le (S := S) (s := s) (rep := 0) hg.2.1 ht
    refine rn_iload 39 dX9_greedy_37 rfl rfl ?_
    refine rn_if_eq 130 42 dX9_greedy_39 (by decide) rfl (fun c39 => absurd c39 (by decide)) (fun _ => ?_)
    refine rn_aload_n 43 dX9_greedy_42 rfl rfl rfl ?_
    refine rn_iload_n 44 dX9_greedy_43 rfl rfl rfl ?_
    refine rn_iload_n 45 dX9_greedy_44 rfl rfl rfl ?_
    refine rn_iload_n 46 dX9_greedy_45 rfl rfl rfl ?_
    refine rn_iload 48 dX9_greedy_46 rfl rfl ?_
    refine rn_callV mX9_step [.int (nI s), .int (nI t), .int (nI Bd), .int (nI S)] [] dX9_greedy_48 cv_X9_170 rfl rfl rfl (by simp [Value.category]) (c_step d hs ht hBd hS h hg) (fun r1 m1 h1 qq _ => ?_)
    obtain ⟨e1, k1, f1⟩ := qq
    rw [e1, k1]
    have hg1 : mg g m1 := mg_of hg (f1 23 (by omega))
    show rn_R _ mX9_greedy _ 51 [some (.ref 22), some (.int (nI s)), some (.int (nI t)), some (.int (nI Bd)), some (.int (nI S)), some (.int (nI (xD g S s t 0))), some (.int 1), none, none] [.int (gb1 (grS g s t Bd S g.length))] m1 h _
    refine rn_istore 53 [some (.ref 22), some (.int (nI s)), some (.int (nI t)), some (.int (nI Bd)), some (.int (nI S)), some (.int (nI (xD g S s t 0))), some (.int 1), some (.int (gb1 (grS g s t Bd S g.length))), none] dX9_greedy_51 rfl (Nat.le_of_ble_eq_true rfl) rfl ?_
    have hx := gxS_eq (g := g) (s := s) (t := t) (Bd := Bd) (S := S) (now := xD g S s t 0) g.length
    have hn := gxS_all (s := s) (t := t) (Bd := Bd) (now := xD g S s t 0) (show g.length ≤ mny S g.length by omega)
    cases hq : grS g s t Bd S g.length with
    | none =>
      show rn_R none mX9_greedy _ _ _ _ _ _ (fun r mu2 _ => r = some (.int (nI (xD g S s t 0))) ∧ mu2 22 3 = nI S ∧ (∀ c, c ≠ 27 → c ≠ 22 → mu2 c = mu0 c) ∧ ∀ j, j ≠ 3 → mu2 22 j = mu0 22 j)
      show rn_R _ mX9_greedy _ 53 [some (.ref 22), some (.int (nI s)), some (.int (nI t)), some (.int (nI Bd)), some (.int (nI S)), some (.int (nI (xD g S s t 0))), some (.int 1), some (.int (-1)), none] [] m1 h _
      refine rn_iload 55 dX9_greedy_53 rfl rfl ?_
      refine rn_iconst (v := (-1)) 56 dX9_greedy_55 (by decide) rfl ?_
      refine rn_icmp_ne 64 59 dX9_greedy_56 (by decide) rfl (fun c56 => absurd (rfl) c56) (fun _ => ?_)
      refine rn_iload 61 dX9_greedy_59 rfl rfl ?_
      refine rn_goto 78 dX9_greedy_61 (by decide) ?_
      refine rn_istore 80 [some (.ref 22), some (.int (nI s)), some (.int (nI t)), some (.int (nI Bd)), some (.int (nI S)), some (.int (nI (xD g S s t 0))), some (.int 1), some (.int (-1)), some (.int (nI (xD g S s t 0)))] dX9_greedy_78 rfl (Nat.le_of_ble_eq_true rfl) rfl ?_
      refine rn_iload 82 dX9_greedy_80 rfl rfl ?_
      refine rn_iload 84 dX9_greedy_82 rfl rfl ?_
      refine rn_icmp_le 91 87 dX9_greedy_84 (by decide) rfl (fun _ => ?_) (fun c84 => absurd (Int32.le_refl _) c84)
      refine rn_iconst (v := 0) 92 dX9_greedy_91 (by decide) rfl ?_
      refine rn_istore 94 [some (.ref 22), some (.int (nI s)), some (.int (nI t)), some (.int (nI Bd)), some (.int (nI S)), some (.int (nI (xD g S s t 0))), some (.int 0), some (.int (-1)), some (.int (nI (xD g S s t 0)))] dX9_greedy_92 rfl (Nat.le_of_ble_eq_true rfl) rfl ?_
      refine rn_iload 96 dX9_greedy_94 rfl rfl ?_
      refine rn_if_eq 109 99 dX9_greedy_96 (by decide) rfl (fun _ => ?_) (fun c96 => absurd (by decide) c96)
      refine rn_iload 111 dX9_greedy_109 rfl rfl ?_
      refine rn_istore 113 [some (.ref 22), some (.int (nI s)), some (.int (nI t)), some (.int (nI Bd)), some (.int (nI S)), some (.int (nI (xD g S s t 0))), some (.int 0), some (.int (-1)), some (.int (nI (xD g S s t 0)))] dX9_greedy_111 rfl (Nat.le_of_ble_eq_true rfl) rfl ?_
      refine rn_iload 115 dX9_greedy_113 rfl rfl ?_
      refine rn_if_eq 123 118 dX9_greedy_115 (by decide) rfl (fun _ => ?_) (fun c115 => absurd (by decide) c115)
      refine rn_iload 125 dX9_greedy_123 rfl rfl ?_
      refine rn_istore 127 [some (.ref 22), some (.int (nI s)), some (.int (nI t)), some (.int (nI Bd)), some (.int (nI S)), some (.int (nI (xD g S s t 0))), some (.int 0), some (.int (-1)), some (.int (nI (xD g S s t 0)))] dX9_greedy_125 rfl (Nat.le_of_ble_eq_true rfl) rfl ?_
      refine rn_goto 37 dX9_greedy_127 (by decide) ?_
      refine rn_iload 39 dX9_greedy_37 rfl rfl ?_
      refine rn_if_eq 130 42 dX9_greedy_39 (by decide) rfl (fun _ => ?_) (fun c39 => absurd (by decide) c39)
      refine rn_aload_n 131 dX9_greedy_130 rfl rfl rfl ?_
      refine rn_iload 133 dX9_greedy_131 rfl rfl ?_
      refine rn_put 136 dX9_greedy_133 fp_X9_16 rfl rfl rfl rfl rfl ?_
      refine rn_iload 138 dX9_greedy_136 rfl rfl ?_
      exact rn_iret rfl dX9_greedy_138 (⟨rfl, by simp [mu_s, upd], fun c h3 h4 => by simp [mu_s, h4]; rw [f1 c h3]; exact hfr c h3, fun j hj => by simp [mu_s, upd, hj]; rw [f1 22 (by omega)]; exact congrFun (hfr 22 (by omega)) j⟩)
    | some p =>
      obtain ⟨p1, p2⟩ := p
      obtain ⟨k1_, k2, k3, k4⟩ := grS_ok _ _ hq
      simp only at k1_ k2 k3 k4
      have bp := xD_le (S := S ||| 2 ^ p1) (s := s) (rep := 0) hg.2.1 ht
      have hSe : S ||| 2 ^ p1 < 2 ^ g.length := tb_add_lt hS k1_
      show rn_R _ mX9_greedy _ 53 [some (.ref 22), some (.int (nI s)), some (.int (nI t)), some (.int (nI Bd)), some (.int (nI S)), some (.int (nI (xD g S s t 0))), some (.int 1), some (.int (nI p1)), none] [] m1 h _
      by_cases q3 : xD g S s t 0 < xD g (S ||| 2 ^ p1) s t 0
      · skip
        rw [hx, hq] at hn
        have hn2 : (if xD g S s t 0 < p2 then some (p1, p2) else none) = none := hn
        rw [if_pos (by omega)] at hn2
        cases hn2
      · skip
        show rn_R none mX9_greedy _ _ _ _ _ _ (fun r mu2 _ => r = some (.int (nI (xD g S s t 0))) ∧ mu2 22 3 = nI S ∧ (∀ c, c ≠ 27 → c ≠ 22 → mu2 c = mu0 c) ∧ ∀ j, j ≠ 3 → mu2 22 j = mu0 22 j)
        refine rn_iload 55 dX9_greedy_53 rfl rfl ?_
        refine rn_iconst (v := (-1)) 56 dX9_greedy_55 (by decide) rfl ?_
        refine rn_icmp_ne 64 59 dX9_greedy_56 (by decide) rfl (fun _ => ?_) (fun c56 => absurd c56 (nI_m1 (by omega)))
        refine rn_aload_n 65 dX9_greedy_64 rfl rfl rfl ?_
        refine rn_iload_n 66 dX9_greedy_65 rfl rfl rfl ?_
        refine rn_iload_n 67 dX9_greedy_66 rfl rfl rfl ?_
        refine rn_iload 69 dX9_greedy_67 rfl rfl ?_
        refine rn_iconst (v := 1) 70 dX9_greedy_69 (by decide) rfl ?_
        refine rn_iload 72 dX9_greedy_70 rfl rfl ?_
        refine rn_ishl 73 dX9_greedy_72 rfl ?_
        refine rn_ior 74 dX9_greedy_73 rfl ?_
        rw [nb_1 (by omega), nb_or]
        refine rn_iconst (v := 0) 75 dX9_greedy_74 (by decide) rfl ?_
        refine rn_callV mX9_far [.int (nI s), .int (nI t), .int (nI (S ||| 2 ^ p1)), .int 0] [] dX9_greedy_75 cv_X9_134 rfl rfl rfl (by simp [Value.category]) (c_far (d + 1) (S := S ||| 2 ^ p1) (s := s) (t := t) (rep := 0) (by omega) hs ht (by omega) h hg1) (fun r2 m2 h2 q2 _ => ?_)
        obtain ⟨e2, k2, f2⟩ := q2
        rw [e2, k2]
        have hg2 : mg g m2 := mg_of hg1 (f2 23 (by omega))
        show rn_R _ mX9_greedy _ 78 [some (.ref 22), some (.int (nI s)), some (.int (nI t)), some (.int (nI Bd)), some (.int (nI S)), some (.int (nI (xD g S s t 0))), some (.int 1), some (.int (nI p1)), none] [.int (nI (xD g (S ||| 2 ^ p1) s t 0))] m2 h _
        refine rn_istore 80 [some (.ref 22), some (.int (nI s)), some (.int (nI t)), some (.int (nI Bd)), some (.int (nI S)), some (.int (nI (xD g S s t 0))), some (.int 1), some (.int (nI p1)), some (.int (nI (xD g (S ||| 2 ^ p1) s t 0)))] dX9_greedy_78 rfl (Nat.le_of_ble_eq_true rfl) rfl ?_
        refine rn_iload 82 dX9_greedy_80 rfl rfl ?_
        refine rn_iload 84 dX9_greedy_82 rfl rfl ?_
        refine rn_icmp_le 91 87 dX9_greedy_84 (by decide) rfl (fun _ => ?_) (fun c84 => absurd (nI_le (by omega) (by omega)) c84)
        refine rn_iconst (v := 0) 92 dX9_greedy_91 (by decide) rfl ?_
        refine rn_istore 94 [some (.ref 22), some (.int (nI s)), some (.int (nI t)), some (.int (nI Bd)), some (.int (nI S)), some (.int (nI (xD g S s t 0))), some (.int 0), some (.int (nI p1)), some (.int (nI (xD g (S ||| 2 ^ p1) s t 0)))] dX9_greedy_92 rfl (Nat.le_of_ble_eq_true rfl) rfl ?_
        refine rn_iload 96 dX9_greedy_94 rfl rfl ?_
        refine rn_if_eq 109 99 dX9_greedy_96 (by decide) rfl (fun _ => ?_) (fun c96 => absurd (by decide) c96)
        refine rn_iload 111 dX9_greedy_109 rfl rfl ?_
        refine rn_istore 113 [some (.ref 22), some (.int (nI s)), some (.int (nI t)), some (.int (nI Bd)), some (.int (nI S)), some (.int (nI (xD g S s t 0))), some (.int 0), some (.int (nI p1)), some (.int (nI (xD g (S ||| 2 ^ p1) s t 0)))] dX9_greedy_111 rfl (Nat.le_of_ble_eq_true rfl) rfl ?_
        refine rn_iload 115 dX9_greedy_113 rfl rfl ?_
        refine rn_if_eq 123 118 dX9_greedy_115 (by decide) rfl (fun _ => ?_) (fun c115 => absurd (by decide) c115)
        refine rn_iload 125 dX9_greedy_123 rfl rfl ?_
        refine rn_istore 127 [some (.ref 22), some (.int (nI s)), some (.int (nI t)), some (.int (nI Bd)), some (.int (nI S)), some (.int (nI (xD g S s t 0))), some (.int 0), some (.int (nI p1)), some (.int (nI (xD g (S ||| 2 ^ p1) s t 0)))] dX9_greedy_125 rfl (Nat.le_of_ble_eq_true rfl) rfl ?_
        refine rn_goto 37 dX9_greedy_127 (by decide) ?_
        refine rn_iload 39 dX9_greedy_37 rfl rfl ?_
        refine rn_if_eq 130 42 dX9_greedy_39 (by decide) rfl (fun _ => ?_) (fun c39 => absurd (by decide) c39)
        refine rn_aload_n 131 dX9_greedy_130 rfl rfl rfl ?_
        refine rn_iload 133 dX9_greedy_131 rfl rfl ?_
        refine rn_put 136 dX9_greedy_133 fp_X9_16 rfl rfl rfl rfl rfl ?_
        refine rn_iload 138 dX9_greedy_136 rfl rfl ?_
        exact rn_iret rfl dX9_greedy_138 (⟨rfl, by simp [mu_s, upd], fun c h3 h4 => by simp [mu_s, h4]; rw [f2 c h3, f1 c h3]; exact hfr c h3, fun j hj => by simp [mu_s, upd, hj]; rw [f2 22 (by omega), f1 22 (by omega)]; exact congrFun (hfr 22 (by omega)) j⟩)
  | succ f ih =>
    intro S mu hmn hS hg hfr
    have h16 := hg.1
    have hp := pw_le hg.1
    have bn := xD_le (S := S) (s := s) (rep := 0) hg.2.1 ht
    refine rn_iload 39 dX9_greedy_37 rfl rfl ?_
    refine rn_if_eq 130 42 dX9_greedy_39 (by decide) rfl (fun c39 => absurd c39 (by decide)) (fun _ => ?_)
    refine rn_aload_n 43 dX9_greedy_42 rfl rfl rfl ?_
    refine rn_iload_n 44 dX9_greedy_43 rfl rfl rfl ?_
    refine rn_iload_n 45 dX9_greedy_44 rfl rfl rfl ?_
    refine rn_iload_n 46 dX9_greedy_45 rfl rfl rfl ?_
    refine rn_iload 48 dX9_greedy_46 rfl rfl ?_
    refine rn_callV mX9_step [.int (nI s), .int (nI t), .int (nI Bd), .int (nI S)] [] dX9_greedy_48 cv_X9_170 rfl rfl rfl (by simp [Value.category]) (c_step d hs ht hBd hS h hg) (fun r1 m1 h1 qq _ => ?_)
    obtain ⟨e1, k1, f1⟩ := qq
    rw [e1, k1]
    have hg1 : mg g m1 := mg_of hg (f1 23 (by omega))
    show rn_R _ mX9_greedy _ 51 [some (.ref 22), some (.int (nI s)), some (.int (nI t)), some (.int (nI Bd)), some (.int (nI S)), some (.int (nI (xD g S s t 0))), some (.int 1), none, none] [.int (gb1 (grS g s t Bd S g.length))] m1 h _
    refine rn_istore 53 [some (.ref 22), some (.int (nI s)), some (.int (nI t)), some (.int (nI Bd)), some (.int (nI S)), some (.int (nI (xD g S s t 0))), some (.int 1), some (.int (gb1 (grS g s t Bd S g.length))), none] dX9_greedy_51 rfl (Nat.le_of_ble_eq_true rfl) rfl ?_
    have hx := gxS_eq (g := g) (s := s) (t := t) (Bd := Bd) (S := S) (now := xD g S s t 0) g.length
    cases hq : grS g s t Bd S g.length with
    | none =>
      rw [grd_n (show gxS g s t Bd S (xD g S s t 0) g.length = none by rw [hx, hq]; rfl)]
      show rn_R _ mX9_greedy _ 53 [some (.ref 22), some (.int (nI s)), some (.int (nI t)), some (.int (nI Bd)), some (.int (nI S)), some (.int (nI (xD g S s t 0))), some (.int 1), some (.int (-1)), none] [] m1 h _
      refine rn_iload 55 dX9_greedy_53 rfl rfl ?_
      refine rn_iconst (v := (-1)) 56 dX9_greedy_55 (by decide) rfl ?_
      refine rn_icmp_ne 64 59 dX9_greedy_56 (by decide) rfl (fun c56 => absurd (rfl) c56) (fun _ => ?_)
      refine rn_iload 61 dX9_greedy_59 rfl rfl ?_
      refine rn_goto 78 dX9_greedy_61 (by decide) ?_
      refine rn_istore 80 [some (.ref 22), some (.int (nI s)), some (.int (nI t)), some (.int (nI Bd)), some (.int (nI S)), some (.int (nI (xD g S s t 0))), some (.int 1), some (.int (-1)), some (.int (nI (xD g S s t 0)))] dX9_greedy_78 rfl (Nat.le_of_ble_eq_true rfl) rfl ?_
      refine rn_iload 82 dX9_greedy_80 rfl rfl ?_
      refine rn_iload 84 dX9_greedy_82 rfl rfl ?_
      refine rn_icmp_le 91 87 dX9_greedy_84 (by decide) rfl (fun _ => ?_) (fun c84 => absurd (Int32.le_refl _) c84)
      refine rn_iconst (v := 0) 92 dX9_greedy_91 (by decide) rfl ?_
      refine rn_istore 94 [some (.ref 22), some (.int (nI s)), some (.int (nI t)), some (.int (nI Bd)), some (.int (nI S)), some (.int (nI (xD g S s t 0))), some (.int 0), some (.int (-1)), some (.int (nI (xD g S s t 0)))] dX9_greedy_92 rfl (Nat.le_of_ble_eq_true rfl) rfl ?_
      refine rn_iload 96 dX9_greedy_94 rfl rfl ?_
      refine rn_if_eq 109 99 dX9_greedy_96 (by decide) rfl (fun _ => ?_) (fun c96 => absurd (by decide) c96)
      refine rn_iload 111 dX9_greedy_109 rfl rfl ?_
      refine rn_istore 113 [some (.ref 22), some (.int (nI s)), some (.int (nI t)), some (.int (nI Bd)), some (.int (nI S)), some (.int (nI (xD g S s t 0))), some (.int 0), some (.int (-1)), some (.int (nI (xD g S s t 0)))] dX9_greedy_111 rfl (Nat.le_of_ble_eq_true rfl) rfl ?_
      refine rn_iload 115 dX9_greedy_113 rfl rfl ?_
      refine rn_if_eq 123 118 dX9_greedy_115 (by decide) rfl (fun _ => ?_) (fun c115 => absurd (by decide) c115)
      refine rn_iload 125 dX9_greedy_123 rfl rfl ?_
      refine rn_istore 127 [some (.ref 22), some (.int (nI s)), some (.int (nI t)), some (.int (nI Bd)), some (.int (nI S)), some (.int (nI (xD g S s t 0))), some (.int 0), some (.int (-1)), some (.int (nI (xD g S s t 0)))] dX9_greedy_125 rfl (Nat.le_of_ble_eq_true rfl) rfl ?_
      refine rn_goto 37 dX9_greedy_127 (by decide) ?_
      refine rn_iload 39 dX9_greedy_37 rfl rfl ?_
      refine rn_if_eq 130 42 dX9_greedy_39 (by decide) rfl (fun _ => ?_) (fun c39 => absurd (by decide) c39)
      refine rn_aload_n 131 dX9_greedy_130 rfl rfl rfl ?_
      refine rn_iload 133 dX9_greedy_131 rfl rfl ?_
      refine rn_put 136 dX9_greedy_133 fp_X9_16 rfl rfl rfl rfl rfl ?_
      refine rn_iload 138 dX9_greedy_136 rfl rfl ?_
      exact rn_iret rfl dX9_greedy_138 (⟨rfl, by simp [mu_s, upd], fun c h3 h4 => by simp [mu_s, h4]; rw [f1 c h3]; exact hfr c h3, fun j hj => by simp [mu_s, upd, hj]; rw [f1 22 (by omega)]; exact congrFun (hfr 22 (by omega)) j⟩)
    | some p =>
      obtain ⟨p1, p2⟩ := p
      obtain ⟨k1_, k2, k3, k4⟩ := grS_ok _ _ hq
      simp only at k1_ k2 k3 k4
      have bp := xD_le (S := S ||| 2 ^ p1) (s := s) (rep := 0) hg.2.1 ht
      have hSe : S ||| 2 ^ p1 < 2 ^ g.length := tb_add_lt hS k1_
      show rn_R _ mX9_greedy _ 53 [some (.ref 22), some (.int (nI s)), some (.int (nI t)), some (.int (nI Bd)), some (.int (nI S)), some (.int (nI (xD g S s t 0))), some (.int 1), some (.int (nI p1)), none] [] m1 h _
      by_cases q3 : xD g S s t 0 < xD g (S ||| 2 ^ p1) s t 0
      · skip
        rw [grd_s (show gxS g s t Bd S (xD g S s t 0) g.length = some (p1, p2) by rw [hx, hq]; exact if_pos (by omega))]
        have hmo := mny_or k2 g.length
        rw [if_pos k1_] at hmo
        refine rn_iload 55 dX9_greedy_53 rfl rfl ?_
        refine rn_iconst (v := (-1)) 56 dX9_greedy_55 (by decide) rfl ?_
        refine rn_icmp_ne 64 59 dX9_greedy_56 (by decide) rfl (fun _ => ?_) (fun c56 => absurd c56 (nI_m1 (by omega)))
        refine rn_aload_n 65 dX9_greedy_64 rfl rfl rfl ?_
        refine rn_iload_n 66 dX9_greedy_65 rfl rfl rfl ?_
        refine rn_iload_n 67 dX9_greedy_66 rfl rfl rfl ?_
        refine rn_iload 69 dX9_greedy_67 rfl rfl ?_
        refine rn_iconst (v := 1) 70 dX9_greedy_69 (by decide) rfl ?_
        refine rn_iload 72 dX9_greedy_70 rfl rfl ?_
        refine rn_ishl 73 dX9_greedy_72 rfl ?_
        refine rn_ior 74 dX9_greedy_73 rfl ?_
        rw [nb_1 (by omega), nb_or]
        refine rn_iconst (v := 0) 75 dX9_greedy_74 (by decide) rfl ?_
        refine rn_callV mX9_far [.int (nI s), .int (nI t), .int (nI (S ||| 2 ^ p1)), .int 0] [] dX9_greedy_75 cv_X9_134 rfl rfl rfl (by simp [Value.category]) (c_far (d + 1) (S := S ||| 2 ^ p1) (s := s) (t := t) (rep := 0) (by omega) hs ht (by omega) h hg1) (fun r2 m2 h2 q2 _ => ?_)
        obtain ⟨e2, k2, f2⟩ := q2
        rw [e2, k2]
        have hg2 : mg g m2 := mg_of hg1 (f2 23 (by omega))
        show rn_R _ mX9_greedy _ 78 [some (.ref 22), some (.int (nI s)), some (.int (nI t)), some (.int (nI Bd)), some (.int (nI S)), some (.int (nI (xD g S s t 0))), some (.int 1), some (.int (nI p1)), none] [.int (nI (xD g (S ||| 2 ^ p1) s t 0))] m2 h _
        refine rn_istore 80 [some (.ref 22), some (.int (nI s)), some (.int (nI t)), some (.int (nI Bd)), some (.int (nI S)), some (.int (nI (xD g S s t 0))), some (.int 1), some (.int (nI p1)), some (.int (nI (xD g (S ||| 2 ^ p1) s t 0)))] dX9_greedy_78 rfl (Nat.le_of_ble_eq_true rfl) rfl ?_
        refine rn_iload 82 dX9_greedy_80 rfl rfl ?_
        refine rn_iload 84 dX9_greedy_82 rfl rfl ?_
        refine rn_icmp_le 91 87 dX9_greedy_84 (by decide) rfl (fun c84 => absurd c84 (nI_ge q3 (by omega))) (fun _ => ?_)
        refine rn_iconst (v := 1) 88 dX9_greedy_87 (by decide) rfl ?_
        refine rn_goto 92 dX9_greedy_88 (by decide) ?_
        refine rn_istore 94 [some (.ref 22), some (.int (nI s)), some (.int (nI t)), some (.int (nI Bd)), some (.int (nI S)), some (.int (nI (xD g S s t 0))), some (.int 1), some (.int (nI p1)), some (.int (nI (xD g (S ||| 2 ^ p1) s t 0)))] dX9_greedy_92 rfl (Nat.le_of_ble_eq_true rfl) rfl ?_
        refine rn_iload 96 dX9_greedy_94 rfl rfl ?_
        refine rn_if_eq 109 99 dX9_greedy_96 (by decide) rfl (fun c96 => absurd c96 (by decide)) (fun _ => ?_)
        refine rn_iload 101 dX9_greedy_99 rfl rfl ?_
        refine rn_iconst (v := 1) 102 dX9_greedy_101 (by decide) rfl ?_
        refine rn_iload 104 dX9_greedy_102 rfl rfl ?_
        refine rn_ishl 105 dX9_greedy_104 rfl ?_
        refine rn_ior 106 dX9_greedy_105 rfl ?_
        rw [nb_1 (by omega), nb_or]
        refine rn_goto 111 dX9_greedy_106 (by decide) ?_
        refine rn_istore 113 [some (.ref 22), some (.int (nI s)), some (.int (nI t)), some (.int (nI Bd)), some (.int (nI (S ||| 2 ^ p1))), some (.int (nI (xD g S s t 0))), some (.int 1), some (.int (nI p1)), some (.int (nI (xD g (S ||| 2 ^ p1) s t 0)))] dX9_greedy_111 rfl (Nat.le_of_ble_eq_true rfl) rfl ?_
        refine rn_iload 115 dX9_greedy_113 rfl rfl ?_
        refine rn_if_eq 123 118 dX9_greedy_115 (by decide) rfl (fun c115 => absurd c115 (by decide)) (fun _ => ?_)
        refine rn_iload 120 dX9_greedy_118 rfl rfl ?_
        refine rn_goto 125 dX9_greedy_120 (by decide) ?_
        refine rn_istore 127 [some (.ref 22), some (.int (nI s)), some (.int (nI t)), some (.int (nI Bd)), some (.int (nI (S ||| 2 ^ p1))), some (.int (nI (xD g (S ||| 2 ^ p1) s t 0))), some (.int 1), some (.int (nI p1)), some (.int (nI (xD g (S ||| 2 ^ p1) s t 0)))] dX9_greedy_125 rfl (Nat.le_of_ble_eq_true rfl) rfl ?_
        refine rn_goto 37 dX9_greedy_127 (by decide) ?_
        refine rn_drop 7 [some (.ref 22), some (.int (nI s)), some (.int (nI t)), some (.int (nI Bd)), some (.int (nI (S ||| 2 ^ p1))), some (.int (nI (xD g (S ||| 2 ^ p1) s t 0))), some (.int 1), none, some (.int (nI (xD g (S ||| 2 ^ p1) s t 0)))] rfl ?_
        refine rn_drop 8 [some (.ref 22), some (.int (nI s)), some (.int (nI t)), some (.int (nI Bd)), some (.int (nI (S ||| 2 ^ p1))), some (.int (nI (xD g (S ||| 2 ^ p1) s t 0))), some (.int 1), none, none] rfl ?_
        exact ih (S ||| 2 ^ p1) m2 (by omega) hSe hg2 (fun c2 h2 => by rw [f2 c2 h2, f1 c2 h2]; exact hfr c2 h2)
      · skip
        rw [grd_n (show gxS g s t Bd S (xD g S s t 0) g.length = none by rw [hx, hq]; exact if_neg (by omega))]
        refine rn_iload 55 dX9_greedy_53 rfl rfl ?_
        refine rn_iconst (v := (-1)) 56 dX9_greedy_55 (by decide) rfl ?_
        refine rn_icmp_ne 64 59 dX9_greedy_56 (by decide) rfl (fun _ => ?_) (fun c56 => absurd c56 (nI_m1 (by omega)))
        refine rn_aload_n 65 dX9_greedy_64 rfl rfl rfl ?_
        refine rn_iload_n 66 dX9_greedy_65 rfl rfl rfl ?_
        refine rn_iload_n 67 dX9_greedy_66 rfl rfl rfl ?_
        refine rn_iload 69 dX9_greedy_67 rfl rfl ?_
        refine rn_iconst (v := 1) 70 dX9_greedy_69 (by decide) rfl ?_
        refine rn_iload 72 dX9_greedy_70 rfl rfl ?_
        refine rn_ishl 73 dX9_greedy_72 rfl ?_
        refine rn_ior 74 dX9_greedy_73 rfl ?_
        rw [nb_1 (by omega), nb_or]
        refine rn_iconst (v := 0) 75 dX9_greedy_74 (by decide) rfl ?_
        refine rn_callV mX9_far [.int (nI s), .int (nI t), .int (nI (S ||| 2 ^ p1)), .int 0] [] dX9_greedy_75 cv_X9_134 rfl rfl rfl (by simp [Value.category]) (c_far (d + 1) (S := S ||| 2 ^ p1) (s := s) (t := t) (rep := 0) (by omega) hs ht (by omega) h hg1) (fun r2 m2 h2 q2 _ => ?_)
        obtain ⟨e2, k2, f2⟩ := q2
        rw [e2, k2]
        have hg2 : mg g m2 := mg_of hg1 (f2 23 (by omega))
        show rn_R _ mX9_greedy _ 78 [some (.ref 22), some (.int (nI s)), some (.int (nI t)), some (.int (nI Bd)), some (.int (nI S)), some (.int (nI (xD g S s t 0))), some (.int 1), some (.int (nI p1)), none] [.int (nI (xD g (S ||| 2 ^ p1) s t 0))] m2 h _
        refine rn_istore 80 [some (.ref 22), some (.int (nI s)), some (.int (nI t)), some (.int (nI Bd)), some (.int (nI S)), some (.int (nI (xD g S s t 0))), some (.int 1), some (.int (nI p1)), some (.int (nI (xD g (S ||| 2 ^ p1) s t 0)))] dX9_greedy_78 rfl (Nat.le_of_ble_eq_true rfl) rfl ?_
        refine rn_iload 82 dX9_greedy_80 rfl rfl ?_
        refine rn_iload 84 dX9_greedy_82 rfl rfl ?_
        refine rn_icmp_le 91 87 dX9_greedy_84 (by decide) rfl (fun _ => ?_) (fun c84 => absurd (nI_le (by omega) (by omega)) c84)
        refine rn_iconst (v := 0) 92 dX9_greedy_91 (by decide) rfl ?_
        refine rn_istore 94 [some (.ref 22), some (.int (nI s)), some (.int (nI t)), some (.int (nI Bd)), some (.int (nI S)), some (.int (nI (xD g S s t 0))), some (.int 0), some (.int (nI p1)), some (.int (nI (xD g (S ||| 2 ^ p1) s t 0)))] dX9_greedy_92 rfl (Nat.le_of_ble_eq_true rfl) rfl ?_
        refine rn_iload 96 dX9_greedy_94 rfl rfl ?_
        refine rn_if_eq 109 99 dX9_greedy_96 (by decide) rfl (fun _ => ?_) (fun c96 => absurd (by decide) c96)
        refine rn_iload 111 dX9_greedy_109 rfl rfl ?_
        refine rn_istore 113 [some (.ref 22), some (.int (nI s)), some (.int (nI t)), some (.int (nI Bd)), some (.int (nI S)), some (.int (nI (xD g S s t 0))), some (.int 0), some (.int (nI p1)), some (.int (nI (xD g (S ||| 2 ^ p1) s t 0)))] dX9_greedy_111 rfl (Nat.le_of_ble_eq_true rfl) rfl ?_
        refine rn_iload 115 dX9_greedy_113 rfl rfl ?_
        refine rn_if_eq 123 118 dX9_greedy_115 (by decide) rfl (fun _ => ?_) (fun c115 => absurd (by decide) c115)
        refine rn_iload 125 dX9_greedy_123 rfl rfl ?_
        refine rn_istore 127 [some (.ref 22), some (.int (nI s)), some (.int (nI t)), some (.int (nI Bd)), some (.int (nI S)), some (.int (nI (xD g S s t 0))), some (.int 0), some (.int (nI p1)), some (.int (nI (xD g (S ||| 2 ^ p1) s t 0)))] dX9_greedy_125 rfl (Nat.le_of_ble_eq_true rfl) rfl ?_
        refine rn_goto 37 dX9_greedy_127 (by decide) ?_
        refine rn_iload 39 dX9_greedy_37 rfl rfl ?_
        refine rn_if_eq 130 42 dX9_greedy_39 (by decide) rfl (fun _ => ?_) (fun c39 => absurd (by decide) c39)
        refine rn_aload_n 131 dX9_greedy_130 rfl rfl rfl ?_
        refine rn_iload 133 dX9_greedy_131 rfl rfl ?_
        refine rn_put 136 dX9_greedy_133 fp_X9_16 rfl rfl rfl rfl rfl ?_
        refine rn_iload 138 dX9_greedy_136 rfl rfl ?_
        exact rn_iret rfl dX9_greedy_138 (⟨rfl, by simp [mu_s, upd], fun c h3 h4 => by simp [mu_s, h4]; rw [f2 c h3, f1 c h3]; exact hfr c h3, fun j hj => by simp [mu_s, upd, hj]; rw [f2 22 (by omega), f1 22 (by omega)]; exact congrFun (hfr 22 (by omega)) j⟩)

set_option maxRecDepth 100000 in
set_option maxHeartbeats 2000000 in
theorem m_gre_b (d : Nat) {g : List Ed} {a : Nat} {hs : List Sg} {tx : List Nat} {f : Int32} {v1 v2 v3 : Int32} (hv : ¬ ((isin v1 8 ∧ isin v2 8) ∧ isin v3 (20 + 1))) : MC mX9_greedy (d + 2) [.int v1, .int v2, .int v3] (g, a, hs, tx, f) (g, a, hs, tx, f) (.int (-2)) := by
  intro mu h hs0
  obtain ⟨hg, ha, hh, ht, hf⟩ := id hs0
  simp only at hg ha hh ht hf
  refine gd_of rfl (Nat.le_of_ble_eq_true rfl) ?_
  show rn_R none mX9_greedy (d + 2) 0 [some (.ref 22), some (.int v1), some (.int v2), some (.int v3), none, none, none, none, none] [] mu h (fun r mu' _ => r = some (.int (-2)) ∧ mS (g, a, hs, tx, f) mu' ∧ ∀ c, c < 22 → mu' c = mu c)
  by_cases qq0 : isin v1 8 ∧ isin v2 8
  · skip
    have qq1 : ¬ (isin v3 (20 + 1)) := fun z => hv ⟨qq0, z⟩
    refine rn_iload_n 1 dX9_greedy_0 rfl rfl rfl ?_
    refine rn_iload_n 2 dX9_greedy_1 rfl rfl rfl ?_
    refine rn_csp mX9_areNodes [.int v1, .int v2] [] 5 (.int 1) dX9_greedy_2 cs_X9_53 rfl rfl (by simp [Value.category]) rfl (c_mareNodes_t (d) mu h qq0.1 qq0.2) ?_
    refine rn_if_eq 18 8 dX9_greedy_5 (by decide) rfl (fun c5 => absurd c5 (by decide)) (fun _ => ?_)
    refine rn_iload_n 9 dX9_greedy_8 rfl rfl rfl ?_
    refine rn_iconst (v := 0) 10 dX9_greedy_9 (by decide) rfl ?_
    refine rn_bipush (v := 20) 12 dX9_greedy_10 (by decide) rfl ?_
    refine rn_csp mX9_in [.int v3, .int 0, .int 20] [] 15 (.int 0) dX9_greedy_12 cs_X9_38 rfl rfl (by simp [Value.category]) rfl (c_in_f (d + 1) mu h (nisin (n := 20) (by omega) qq1)) ?_
    refine rn_if_ne 21 18 dX9_greedy_15 (by decide) rfl (fun c15 => absurd (rfl) c15) (fun _ => ?_)
    refine rn_bipush (v := (-2)) 20 dX9_greedy_18 (by decide) rfl ?_
    exact rn_iret rfl dX9_greedy_20 (⟨rfl, hs0, fun _ _ => rfl⟩)
  · skip
    refine rn_iload_n 1 dX9_greedy_0 rfl rfl rfl ?_
    refine rn_iload_n 2 dX9_greedy_1 rfl rfl rfl ?_
    refine rn_csp mX9_areNodes [.int v1, .int v2] [] 5 (.int 0) dX9_greedy_2 cs_X9_53 rfl rfl (by simp [Value.category]) rfl (c_mareNodes_f (d) mu h qq0) ?_
    refine rn_if_eq 18 8 dX9_greedy_5 (by decide) rfl (fun _ => ?_) (fun c5 => absurd (by decide) c5)
    refine rn_bipush (v := (-2)) 20 dX9_greedy_18 (by decide) rfl ?_
    exact rn_iret rfl dX9_greedy_20 (⟨rfl, hs0, fun _ _ => rfl⟩)

set_option maxRecDepth 100000 in
set_option maxHeartbeats 2000000 in
theorem m_gre_t (d : Nat) {g : List Ed} {a : Nat} {hs : List Sg} {tx : List Nat} {f : Int32} {u v : Nat} (hu : u < 8) (hv : v < 8) {B : Nat} (hB : B < 21) : MC mX9_greedy (d + 6) [.int (nI u), .int (nI v), .int (nI B)] (g, a, hs, tx, f) (g, a, hs, tx, nI (grd g u v B 16 0).1) (.int (nI (grd g u v B 16 0).2)) := by
  intro mu h hs0
  obtain ⟨hg, ha, hh, ht, hf⟩ := id hs0
  simp only at hg ha hh ht hf
  refine gd_of rfl (Nat.le_of_ble_eq_true rfl) ?_
  show rn_R none mX9_greedy (d + 6) 0 [some (.ref 22), some (.int (nI u)), some (.int (nI v)), some (.int (nI B)), none, none, none, none, none] [] mu h (fun r mu' _ => r = some (.int (nI (grd g u v B 16 0).2)) ∧ mS (g, a, hs, tx, nI (grd g u v B 16 0).1) mu' ∧ ∀ c, c < 22 → mu' c = mu c)
  have h16 := hg.1
  have hp := pw_le hg.1
  refine rn_iload_n 1 dX9_greedy_0 rfl rfl rfl ?_
  refine rn_iload_n 2 dX9_greedy_1 rfl rfl rfl ?_
  refine rn_csp mX9_areNodes [.int (nI u), .int (nI v)] [] 5 (.int 1) dX9_greedy_2 cs_X9_53 rfl rfl (by simp [Value.category]) rfl (c_mareNodes_t (d + 4) mu h ⟨u, hu, rfl⟩ ⟨v, hv, rfl⟩) ?_
  refine rn_if_eq 18 8 dX9_greedy_5 (by decide) rfl (fun c5 => absurd c5 (by decide)) (fun _ => ?_)
  refine rn_iload_n 9 dX9_greedy_8 rfl rfl rfl ?_
  refine rn_iconst (v := 0) 10 dX9_greedy_9 (by decide) rfl ?_
  refine rn_bipush (v := 20) 12 dX9_greedy_10 (by decide) rfl ?_
  refine rn_csp mX9_in [.int (nI B), .int 0, .int 20] [] 15 (.int 1) dX9_greedy_12 cs_X9_38 rfl rfl (by simp [Value.category]) rfl (c_in_i (d + 5) mu h (M := 20) (⟨B, hB, rfl⟩) (by omega)) ?_
  refine rn_if_ne 21 18 dX9_greedy_15 (by decide) rfl (fun _ => ?_) (fun c15 => absurd c15 (by decide))
  refine rn_iconst (v := 0) 22 dX9_greedy_21 (by decide) rfl ?_
  refine rn_istore 24 [some (.ref 22), some (.int (nI u)), some (.int (nI v)), some (.int (nI B)), some (.int 0), none, none, none, none] dX9_greedy_22 rfl (Nat.le_of_ble_eq_true rfl) rfl ?_
  refine rn_aload_n 25 dX9_greedy_24 rfl rfl rfl ?_
  refine rn_iload_n 26 dX9_greedy_25 rfl rfl rfl ?_
  refine rn_iload_n 27 dX9_greedy_26 rfl rfl rfl ?_
  refine rn_iconst (v := 0) 28 dX9_greedy_27 (by decide) rfl ?_
  refine rn_iconst (v := 0) 29 dX9_greedy_28 (by decide) rfl ?_
  refine rn_callV mX9_far [.int (nI u), .int (nI v), .int 0, .int 0] [] dX9_greedy_29 cv_X9_134 rfl rfl rfl (by simp [Value.category]) (c_far (d + 1) (S := 0) (s := u) (t := v) (rep := 0) (by omega) hu hv (by omega) h hg) (fun r1 m1 h1 q1 _ => ?_)
  obtain ⟨e1, k1, f1⟩ := q1
  rw [e1, k1]
  have hg1 : mg g m1 := mg_of hg (f1 23 (by omega))
  show rn_R _ mX9_greedy _ 32 [some (.ref 22), some (.int (nI u)), some (.int (nI v)), some (.int (nI B)), some (.int 0), none, none, none, none] [.int (nI (xD g 0 u v 0))] m1 h _
  refine rn_istore 34 [some (.ref 22), some (.int (nI u)), some (.int (nI v)), some (.int (nI B)), some (.int 0), some (.int (nI (xD g 0 u v 0))), none, none, none] dX9_greedy_32 rfl (Nat.le_of_ble_eq_true rfl) rfl ?_
  refine rn_iconst (v := 1) 35 dX9_greedy_34 (by decide) rfl ?_
  refine rn_istore 37 [some (.ref 22), some (.int (nI u)), some (.int (nI v)), some (.int (nI B)), some (.int 0), some (.int (nI (xD g 0 u v 0))), some (.int 1), none, none] dX9_greedy_35 rfl (Nat.le_of_ble_eq_true rfl) rfl ?_
  refine rn_mono (lp_mgo d hu hv (Bd := B) (by omega) (mu0 := mu) 16 0 m1 (by omega) (pw_pos _) hg1 f1) (fun r m2 h2 q => ⟨q.1, mS_fd hs0 (fun c c1 c2 => q.2.2.1 c (by omega) (by omega)) (q.2.2.2 2 (by omega)) (q.2.2.2 5 (by omega)) q.2.1, fun c hc => q.2.2.1 c (by omega) (by omega)⟩)

theorem op_greedy (v1 v2 v3 : Int32) : OP mX8_greedy mX9_greedy [.int v1, .int v2, .int v3] := by
  rintro ⟨g, a, hs, tx, f⟩
  by_cases hv : (isin v1 8 ∧ isin v2 8) ∧ isin v3 (20 + 1)
  · obtain ⟨⟨⟨u, hu, rfl⟩, v, hv, rfl⟩, B, hB, rfl⟩ := hv
    exact ⟨_, _, x_gre_t 96 hu hv hB, m_gre_t 94 hu hv hB⟩
  · exact ⟨_, _, x_gre_b 98 hv, m_gre_b 98 hv⟩
