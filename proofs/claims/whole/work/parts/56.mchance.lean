/-! THE REFERENCE: expected, lost -/

set_option maxRecDepth 100000 in
set_option maxHeartbeats 2000000 in
theorem lp_msum (d : Nat) {g : List Ed} {s t E q : Nat} {b : Bool} (hs : s < 8) (ht : t < 8) (hE : E < 2 ^ 16) {mu0 : Nat → Nat → Int32} {h : Int64} : ∀ (k j : Nat) (mu : Nat → Nat → Int32), j + k = E + 1 → (mg g mu) → (∀ c, c ≠ 27 → mu c = mu0 c) → rn_R none mX9_sum (d + 5) 6 [some (.ref 22), some (.int (nI s)), some (.int (nI t)), some (.int (nI E)), some (.int (nI q)), some (.int (if b then 0 else 1)), some (.long (smE E (exT g s t E q b) j)), none, some (.int (nI j)), none, none, none] [] mu h (fun r mu' h' => r = some (.long (smE E (exT g s t E q b) (E + 1))) ∧ h' = h ∧ ∀ c, c ≠ 27 → mu' c = mu0 c) := by
  intro k
  induction k with
  | zero =>
    intro j mu hek hg hfr
    refine rn_iload 8 dX9_sum_6 rfl rfl ?_
    refine rn_iload_n 9 dX9_sum_8 rfl rfl rfl ?_
    refine rn_icmp_gt 114 12 dX9_sum_9 (by decide) rfl (fun _ => ?_) (fun c9 => absurd (nI_lt (by omega) (by omega)) c9)
    refine rn_lload 116 dX9_sum_114 rfl rfl ?_
    exact rn_lret rfl dX9_sum_116 (⟨by rw [show j = E + 1 by omega], rfl, hfr⟩)
  | succ k ih =>
    intro j mu hek hg hfr
    have ho := hg.2.1
    have bx := xD_le (S := j) (s := s) (rep := 0) ho ht
    have my2 := mny_le E 16
    have my3 := mny_le j 16
    by_cases qs : j &&& E = j
    · skip
      have my1 := mny_sb qs 16
      have es : smE E (exT g s t E q b) (j + 1) = smE E (exT g s t E q b) j + exT g s t E q b j := if_pos qs
      refine rn_iload 8 dX9_sum_6 rfl rfl ?_
      refine rn_iload_n 9 dX9_sum_8 rfl rfl rfl ?_
      refine rn_icmp_gt 114 12 dX9_sum_9 (by decide) rfl (fun c9 => absurd c9 (nI_nlt (by omega) (by omega))) (fun _ => ?_)
      refine rn_iload 14 dX9_sum_12 rfl rfl ?_
      refine rn_iload_n 15 dX9_sum_14 rfl rfl rfl ?_
      refine rn_iconst (v := (-1)) 16 dX9_sum_15 (by decide) rfl ?_
      refine rn_ixor 17 dX9_sum_16 rfl ?_
      refine rn_iand 18 dX9_sum_17 rfl ?_
      rw [nb_andn]
      refine rn_if_ne 108 21 dX9_sum_18 (by decide) rfl (fun c18 => absurd (by rw [nd_0.mpr qs]; rfl) c18) (fun _ => ?_)
      refine rn_iload 23 dX9_sum_21 rfl rfl ?_
      refine rn_iload 25 dX9_sum_23 rfl rfl ?_
      refine rn_csp mX9_many [.int (nI j)] [.int (nI q)] 28 (.int (nI (mny j 16))) dX9_sum_25 cs_X9_173 rfl rfl (by simp [Value.category]) rfl (c_many (d + 4) mu h (S := j) (by omega)) ?_
      refine rn_csp mX9_power [.int (nI q), .int (nI (mny j 16))] [] 31 (.long (pwL (nI q).toInt64 (mny j 16))) dX9_sum_28 cs_X9_176 rfl rfl (by simp [Value.category]) rfl (c_mpower (d + 4) mu h (nI q) (by omega)) ?_
      refine rn_bipush (v := 12) 33 dX9_sum_31 (by decide) rfl ?_
      refine rn_iload 35 dX9_sum_33 rfl rfl ?_
      refine rn_isub 36 dX9_sum_35 rfl ?_
      refine rn_iload_n 37 dX9_sum_36 rfl rfl rfl ?_
      refine rn_csp mX9_many [.int (nI E)] [.int (12 - (nI q)), .long (pwL (nI q).toInt64 (mny j 16))] 40 (.int (nI (mny E 16))) dX9_sum_37 cs_X9_173 rfl rfl (by simp [Value.category]) rfl (c_many (d + 4) mu h (S := E) (by omega)) ?_
      refine rn_iload 42 dX9_sum_40 rfl rfl ?_
      refine rn_csp mX9_many [.int (nI j)] [.int (nI (mny E 16)), .int (12 - (nI q)), .long (pwL (nI q).toInt64 (mny j 16))] 45 (.int (nI (mny j 16))) dX9_sum_42 cs_X9_173 rfl rfl (by simp [Value.category]) rfl (c_many (d + 4) mu h (S := j) (by omega)) ?_
      refine rn_isub 46 dX9_sum_45 rfl ?_
      rw [pk_sub my1]
      refine rn_csp mX9_power [.int (12 - (nI q)), .int (nI (mny E 16 - mny j 16))] [.long (pwL (nI q).toInt64 (mny j 16))] 49 (.long (pwL (12 - nI q).toInt64 (mny E 16 - mny j 16))) dX9_sum_46 cs_X9_176 rfl rfl (by simp [Value.category]) rfl (c_mpower (d + 4) mu h (12 - nI q) (by omega)) ?_
      refine rn_lmul 50 dX9_sum_49 rfl ?_
      refine rn_lstore 52 [some (.ref 22), some (.int (nI s)), some (.int (nI t)), some (.int (nI E)), some (.int (nI q)), some (.int (if b then 0 else 1)), some (.long (smE E (exT g s t E q b) j)), none, some (.int (nI j)), some (.long ((pwL (nI q).toInt64 (mny j 16)) * (pwL (12 - nI q).toInt64 (mny E 16 - mny j 16)))), none, none] dX9_sum_50 rfl (Nat.le_of_ble_eq_true rfl) rfl ?_
      refine rn_aload_n 53 dX9_sum_52 rfl rfl rfl ?_
      refine rn_iload_n 54 dX9_sum_53 rfl rfl rfl ?_
      refine rn_iload_n 55 dX9_sum_54 rfl rfl rfl ?_
      refine rn_iload 57 dX9_sum_55 rfl rfl ?_
      refine rn_iconst (v := 0) 58 dX9_sum_57 (by decide) rfl ?_
      refine rn_callV mX9_far [.int (nI s), .int (nI t), .int (nI j), .int 0] [] dX9_sum_58 cv_X9_134 rfl rfl rfl (by simp [Value.category]) (c_far (d) (S := j) (s := s) (t := t) (rep := 0) (by omega) hs ht (by omega) h hg) (fun r1 m1 h1 q1 _ => ?_)
      obtain ⟨e1, k1, f1⟩ := q1
      rw [e1, k1]
      have hg1 : mg g m1 := mg_of hg (f1 23 (by omega))
      show rn_R _ mX9_sum _ 61 [some (.ref 22), some (.int (nI s)), some (.int (nI t)), some (.int (nI E)), some (.int (nI q)), some (.int (if b then 0 else 1)), some (.long (smE E (exT g s t E q b) j)), none, some (.int (nI j)), some (.long ((pwL (nI q).toInt64 (mny j 16)) * (pwL (12 - nI q).toInt64 (mny E 16 - mny j 16)))), none, none] [.int (nI (xD g j s t 0))] m1 h _
      refine rn_istore 63 [some (.ref 22), some (.int (nI s)), some (.int (nI t)), some (.int (nI E)), some (.int (nI q)), some (.int (if b then 0 else 1)), some (.long (smE E (exT g s t E q b) j)), none, some (.int (nI j)), some (.long ((pwL (nI q).toInt64 (mny j 16)) * (pwL (12 - nI q).toInt64 (mny E 16 - mny j 16)))), none, some (.int (nI (xD g j s t 0)))] dX9_sum_61 rfl (Nat.le_of_ble_eq_true rfl) rfl ?_
      cases b with
      | true =>
        by_cases q9 : xD g j s t 0 = 9999
        · skip
          refine rn_lload 65 dX9_sum_63 rfl rfl ?_
          refine rn_iload 67 dX9_sum_65 rfl rfl ?_
          refine rn_if_eq 91 70 dX9_sum_67 (by decide) rfl (fun _ => ?_) (fun c67 => absurd (rfl) c67)
          refine rn_iload 93 dX9_sum_91 rfl rfl ?_
          refine rn_sipush (v := 9999) 96 dX9_sum_93 (by decide) rfl ?_
          refine rn_icmp_ge 103 99 dX9_sum_96 (by decide) rfl (fun _ => ?_) (fun c96 => absurd (by rw [q9]; exact Int32.le_refl _) c96)
          refine rn_lload 105 dX9_sum_103 rfl rfl ?_
          refine rn_ladd 106 dX9_sum_105 rfl ?_
          refine rn_lstore 108 [some (.ref 22), some (.int (nI s)), some (.int (nI t)), some (.int (nI E)), some (.int (nI q)), some (.int 0), some (.long ((smE E (exT g s t E q true) j) + ((pwL (nI q).toInt64 (mny j 16)) * (pwL (12 - nI q).toInt64 (mny E 16 - mny j 16))))), none, some (.int (nI j)), some (.long ((pwL (nI q).toInt64 (mny j 16)) * (pwL (12 - nI q).toInt64 (mny E 16 - mny j 16)))), none, some (.int (nI (xD g j s t 0)))] dX9_sum_106 rfl (Nat.le_of_ble_eq_true rfl) rfl ?_
          refine rn_iinc (v := (nI (j + 1))) 111 [some (.ref 22), some (.int (nI s)), some (.int (nI t)), some (.int (nI E)), some (.int (nI q)), some (.int 0), some (.long ((smE E (exT g s t E q true) j) + ((pwL (nI q).toInt64 (mny j 16)) * (pwL (12 - nI q).toInt64 (mny E 16 - mny j 16))))), none, some (.int (nI (j + 1))), some (.long ((pwL (nI q).toInt64 (mny j 16)) * (pwL (12 - nI q).toInt64 (mny E 16 - mny j 16)))), none, some (.int (nI (xD g j s t 0)))] dX9_sum_108 rfl (nI_1 _) rfl rfl ?_
          refine rn_goto 6 dX9_sum_111 (by decide) ?_
          refine rn_drop 9 [some (.ref 22), some (.int (nI s)), some (.int (nI t)), some (.int (nI E)), some (.int (nI q)), some (.int 0), some (.long ((smE E (exT g s t E q true) j) + ((pwL (nI q).toInt64 (mny j 16)) * (pwL (12 - nI q).toInt64 (mny E 16 - mny j 16))))), none, some (.int (nI (j + 1))), none, none, some (.int (nI (xD g j s t 0)))] rfl ?_
          refine rn_drop 11 [some (.ref 22), some (.int (nI s)), some (.int (nI t)), some (.int (nI E)), some (.int (nI q)), some (.int 0), some (.long ((smE E (exT g s t E q true) j) + ((pwL (nI q).toInt64 (mny j 16)) * (pwL (12 - nI q).toInt64 (mny E 16 - mny j 16))))), none, some (.int (nI (j + 1))), none, none, none] rfl ?_
          have ev : exT g s t E q true j = wtT E q j := if_pos q9
          have z := ih (j + 1) m1 (by omega) hg1 (fun c hc => by rw [f1 c hc]; exact hfr c hc)
          rw [es, ev] at z
          exact z
        · skip
          refine rn_lload 65 dX9_sum_63 rfl rfl ?_
          refine rn_iload 67 dX9_sum_65 rfl rfl ?_
          refine rn_if_eq 91 70 dX9_sum_67 (by decide) rfl (fun _ => ?_) (fun c67 => absurd (rfl) c67)
          refine rn_iload 93 dX9_sum_91 rfl rfl ?_
          refine rn_sipush (v := 9999) 96 dX9_sum_93 (by decide) rfl ?_
          refine rn_icmp_ge 103 99 dX9_sum_96 (by decide) rfl (fun c96 => absurd c96 (nI_ge (b := 9999) (by omega) (by omega))) (fun _ => ?_)
          refine rn_lconst (v := 0) 100 dX9_sum_99 (by decide) rfl ?_
          refine rn_goto 105 dX9_sum_100 (by decide) ?_
          refine rn_ladd 106 dX9_sum_105 rfl ?_
          refine rn_lstore 108 [some (.ref 22), some (.int (nI s)), some (.int (nI t)), some (.int (nI E)), some (.int (nI q)), some (.int 0), some (.long ((smE E (exT g s t E q true) j) + 0)), none, some (.int (nI j)), some (.long ((pwL (nI q).toInt64 (mny j 16)) * (pwL (12 - nI q).toInt64 (mny E 16 - mny j 16)))), none, some (.int (nI (xD g j s t 0)))] dX9_sum_106 rfl (Nat.le_of_ble_eq_true rfl) rfl ?_
          refine rn_iinc (v := (nI (j + 1))) 111 [some (.ref 22), some (.int (nI s)), some (.int (nI t)), some (.int (nI E)), some (.int (nI q)), some (.int 0), some (.long ((smE E (exT g s t E q true) j) + 0)), none, some (.int (nI (j + 1))), some (.long ((pwL (nI q).toInt64 (mny j 16)) * (pwL (12 - nI q).toInt64 (mny E 16 - mny j 16)))), none, some (.int (nI (xD g j s t 0)))] dX9_sum_108 rfl (nI_1 _) rfl rfl ?_
          refine rn_goto 6 dX9_sum_111 (by decide) ?_
          refine rn_drop 9 [some (.ref 22), some (.int (nI s)), some (.int (nI t)), some (.int (nI E)), some (.int (nI q)), some (.int 0), some (.long ((smE E (exT g s t E q true) j) + 0)), none, some (.int (nI (j + 1))), none, none, some (.int (nI (xD g j s t 0)))] rfl ?_
          refine rn_drop 11 [some (.ref 22), some (.int (nI s)), some (.int (nI t)), some (.int (nI E)), some (.int (nI q)), some (.int 0), some (.long ((smE E (exT g s t E q true) j) + 0)), none, some (.int (nI (j + 1))), none, none, none] rfl ?_
          have ev : exT g s t E q true j = 0 := if_neg q9
          have z := ih (j + 1) m1 (by omega) hg1 (fun c hc => by rw [f1 c hc]; exact hfr c hc)
          rw [es, ev] at z
          exact z
      | false =>
        by_cases q9 : xD g j s t 0 = 9999
        · skip
          refine rn_lload 65 dX9_sum_63 rfl rfl ?_
          refine rn_iload 67 dX9_sum_65 rfl rfl ?_
          refine rn_if_eq 91 70 dX9_sum_67 (by decide) rfl (fun c67 => absurd c67 (by decide)) (fun _ => ?_)
          refine rn_iload 72 dX9_sum_70 rfl rfl ?_
          refine rn_sipush (v := 9999) 75 dX9_sum_72 (by decide) rfl ?_
          refine rn_icmp_ge 87 78 dX9_sum_75 (by decide) rfl (fun _ => ?_) (fun c75 => absurd (by rw [q9]; exact Int32.le_refl _) c75)
          refine rn_lconst (v := 0) 88 dX9_sum_87 (by decide) rfl ?_
          refine rn_goto 105 dX9_sum_88 (by decide) ?_
          refine rn_ladd 106 dX9_sum_105 rfl ?_
          refine rn_lstore 108 [some (.ref 22), some (.int (nI s)), some (.int (nI t)), some (.int (nI E)), some (.int (nI q)), some (.int 1), some (.long ((smE E (exT g s t E q false) j) + 0)), none, some (.int (nI j)), some (.long ((pwL (nI q).toInt64 (mny j 16)) * (pwL (12 - nI q).toInt64 (mny E 16 - mny j 16)))), none, some (.int (nI (xD g j s t 0)))] dX9_sum_106 rfl (Nat.le_of_ble_eq_true rfl) rfl ?_
          refine rn_iinc (v := (nI (j + 1))) 111 [some (.ref 22), some (.int (nI s)), some (.int (nI t)), some (.int (nI E)), some (.int (nI q)), some (.int 1), some (.long ((smE E (exT g s t E q false) j) + 0)), none, some (.int (nI (j + 1))), some (.long ((pwL (nI q).toInt64 (mny j 16)) * (pwL (12 - nI q).toInt64 (mny E 16 - mny j 16)))), none, some (.int (nI (xD g j s t 0)))] dX9_sum_108 rfl (nI_1 _) rfl rfl ?_
          refine rn_goto 6 dX9_sum_111 (by decide) ?_
          refine rn_drop 9 [some (.ref 22), some (.int (nI s)), some (.int (nI t)), some (.int (nI E)), some (.int (nI q)), some (.int 1), some (.long ((smE E (exT g s t E q false) j) + 0)), none, some (.int (nI (j + 1))), none, none, some (.int (nI (xD g j s t 0)))] rfl ?_
          refine rn_drop 11 [some (.ref 22), some (.int (nI s)), some (.int (nI t)), some (.int (nI E)), some (.int (nI q)), some (.int 1), some (.long ((smE E (exT g s t E q false) j) + 0)), none, some (.int (nI (j + 1))), none, none, none] rfl ?_
          have ev : exT g s t E q false j = 0 := if_pos q9
          have z := ih (j + 1) m1 (by omega) hg1 (fun c hc => by rw [f1 c hc]; exact hfr c hc)
          rw [es, ev] at z
          exact z
        · skip
          refine rn_lload 65 dX9_sum_63 rfl rfl ?_
          refine rn_iload 67 dX9_sum_65 rfl rfl ?_
          refine rn_if_eq 91 70 dX9_sum_67 (by decide) rfl (fun c67 => absurd c67 (by decide)) (fun _ => ?_)
          refine rn_iload 72 dX9_sum_70 rfl rfl ?_
          refine rn_sipush (v := 9999) 75 dX9_sum_72 (by decide) rfl ?_
          refine rn_icmp_ge 87 78 dX9_sum_75 (by decide) rfl (fun c75 => absurd c75 (nI_ge (b := 9999) (by omega) (by omega))) (fun _ => ?_)
          refine rn_lload 80 dX9_sum_78 rfl rfl ?_
          refine rn_iload 82 dX9_sum_80 rfl rfl ?_
          refine rn_i2l 83 dX9_sum_82 rfl ?_
          refine rn_lmul 84 dX9_sum_83 rfl ?_
          refine rn_goto 105 dX9_sum_84 (by decide) ?_
          refine rn_ladd 106 dX9_sum_105 rfl ?_
          refine rn_lstore 108 [some (.ref 22), some (.int (nI s)), some (.int (nI t)), some (.int (nI E)), some (.int (nI q)), some (.int 1), some (.long ((smE E (exT g s t E q false) j) + (((pwL (nI q).toInt64 (mny j 16)) * (pwL (12 - nI q).toInt64 (mny E 16 - mny j 16))) * ((nI (xD g j s t 0)).toInt64)))), none, some (.int (nI j)), some (.long ((pwL (nI q).toInt64 (mny j 16)) * (pwL (12 - nI q).toInt64 (mny E 16 - mny j 16)))), none, some (.int (nI (xD g j s t 0)))] dX9_sum_106 rfl (Nat.le_of_ble_eq_true rfl) rfl ?_
          refine rn_iinc (v := (nI (j + 1))) 111 [some (.ref 22), some (.int (nI s)), some (.int (nI t)), some (.int (nI E)), some (.int (nI q)), some (.int 1), some (.long ((smE E (exT g s t E q false) j) + (((pwL (nI q).toInt64 (mny j 16)) * (pwL (12 - nI q).toInt64 (mny E 16 - mny j 16))) * ((nI (xD g j s t 0)).toInt64)))), none, some (.int (nI (j + 1))), some (.long ((pwL (nI q).toInt64 (mny j 16)) * (pwL (12 - nI q).toInt64 (mny E 16 - mny j 16)))), none, some (.int (nI (xD g j s t 0)))] dX9_sum_108 rfl (nI_1 _) rfl rfl ?_
          refine rn_goto 6 dX9_sum_111 (by decide) ?_
          refine rn_drop 9 [some (.ref 22), some (.int (nI s)), some (.int (nI t)), some (.int (nI E)), some (.int (nI q)), some (.int 1), some (.long ((smE E (exT g s t E q false) j) + (((pwL (nI q).toInt64 (mny j 16)) * (pwL (12 - nI q).toInt64 (mny E 16 - mny j 16))) * ((nI (xD g j s t 0)).toInt64)))), none, some (.int (nI (j + 1))), none, none, some (.int (nI (xD g j s t 0)))] rfl ?_
          refine rn_drop 11 [some (.ref 22), some (.int (nI s)), some (.int (nI t)), some (.int (nI E)), some (.int (nI q)), some (.int 1), some (.long ((smE E (exT g s t E q false) j) + (((pwL (nI q).toInt64 (mny j 16)) * (pwL (12 - nI q).toInt64 (mny E 16 - mny j 16))) * ((nI (xD g j s t 0)).toInt64)))), none, some (.int (nI (j + 1))), none, none, none] rfl ?_
          have ev : exT g s t E q false j = wtT E q j * (nI (xD g j s t 0)).toInt64 := if_neg q9
          have z := ih (j + 1) m1 (by omega) hg1 (fun c hc => by rw [f1 c hc]; exact hfr c hc)
          rw [es, ev] at z
          exact z
    · skip
      refine rn_iload 8 dX9_sum_6 rfl rfl ?_
      refine rn_iload_n 9 dX9_sum_8 rfl rfl rfl ?_
      refine rn_icmp_gt 114 12 dX9_sum_9 (by decide) rfl (fun c9 => absurd c9 (nI_nlt (by omega) (by omega))) (fun _ => ?_)
      refine rn_iload 14 dX9_sum_12 rfl rfl ?_
      refine rn_iload_n 15 dX9_sum_14 rfl rfl rfl ?_
      refine rn_iconst (v := (-1)) 16 dX9_sum_15 (by decide) rfl ?_
      refine rn_ixor 17 dX9_sum_16 rfl ?_
      refine rn_iand 18 dX9_sum_17 rfl ?_
      rw [nb_andn]
      refine rn_if_ne 108 21 dX9_sum_18 (by decide) rfl (fun _ => ?_) (fun c18 => absurd c18 (nI_ne0 (Nat.pos_of_ne_zero (fun z => qs (nd_0.mp z))) (by have := @nd_lt j E 16 (by omega); omega)))
      refine rn_iinc (v := (nI (j + 1))) 111 [some (.ref 22), some (.int (nI s)), some (.int (nI t)), some (.int (nI E)), some (.int (nI q)), some (.int (if b then 0 else 1)), some (.long (smE E (exT g s t E q b) j)), none, some (.int (nI (j + 1))), none, none, none] dX9_sum_108 rfl (nI_1 _) rfl rfl ?_
      refine rn_goto 6 dX9_sum_111 (by decide) ?_
      have es : smE E (exT g s t E q b) (j + 1) = smE E (exT g s t E q b) j := if_neg qs
      have z := ih (j + 1) mu (by omega) hg hfr
      rw [es] at z
      exact z

set_option maxRecDepth 100000 in
set_option maxHeartbeats 2000000 in
theorem c_msum (d : Nat) {g : List Ed} {s t E q : Nat} {b : Bool} (hs : s < 8) (ht : t < 8) (hE : E < 2 ^ 16) {mu : Nat → Nat → Int32} (h : Int64) (hg : mg g mu) : gd_G mX9_sum (d + 5) [.ref 22, .int (nI s), .int (nI t), .int (nI E), .int (nI q), .int (if b then 0 else 1)] mu h (fun r mu' h' => r = some (.long (smE E (exT g s t E q b) (E + 1))) ∧ h' = h ∧ ∀ c, c ≠ 27 → mu' c = mu c) := by
  refine gd_of rfl (Nat.le_of_ble_eq_true rfl) ?_
  show rn_R none mX9_sum (d + 5) 0 [some (.ref 22), some (.int (nI s)), some (.int (nI t)), some (.int (nI E)), some (.int (nI q)), some (.int (if b then 0 else 1)), none, none, none, none, none, none] [] mu h (fun r mu' h' => r = some (.long (smE E (exT g s t E q b) (E + 1))) ∧ h' = h ∧ ∀ c, c ≠ 27 → mu' c = mu c)
  refine rn_lconst (v := 0) 1 dX9_sum_0 (by decide) rfl ?_
  refine rn_lstore 3 [some (.ref 22), some (.int (nI s)), some (.int (nI t)), some (.int (nI E)), some (.int (nI q)), some (.int (if b then 0 else 1)), some (.long 0), none, none, none, none, none] dX9_sum_1 rfl (Nat.le_of_ble_eq_true rfl) rfl ?_
  refine rn_iconst (v := 0) 4 dX9_sum_3 (by decide) rfl ?_
  refine rn_istore 6 [some (.ref 22), some (.int (nI s)), some (.int (nI t)), some (.int (nI E)), some (.int (nI q)), some (.int (if b then 0 else 1)), some (.long 0), none, some (.int 0), none, none, none] dX9_sum_4 rfl (Nat.le_of_ble_eq_true rfl) rfl ?_
  exact lp_msum d hs ht hE (E + 1) 0 mu (by omega) hg (fun _ _ => rfl)

set_option maxRecDepth 100000 in
set_option maxHeartbeats 2000000 in
theorem c_chance_t (d : Nat) {g : List Ed} {mu : Nat → Nat → Int32} (h : Int64) (hg : xg g mu) {u v E q : Nat} (hu : u < 8) (hv : v < 8) (hE : E < 2 ^ g.length) (hm : mny E 16 ≤ 6) (hq : q < 13) : gd_G mX8_isChance (d + 2) [.ref 0, .int (nI u), .int (nI v), .int (nI E), .int (nI q)] mu h (pq (some (.int 1)) mu h) := by
  refine gd_of rfl (Nat.le_of_ble_eq_true rfl) ?_
  show rn_R none mX8_isChance (d + 2) 0 [some (.ref 0), some (.int (nI u)), some (.int (nI v)), some (.int (nI E)), some (.int (nI q))] [] mu h (pq (some (.int 1)) mu h)
  have hp := pw_le hg.1
  refine rn_iload_n 1 dX8_isChance_0 rfl rfl rfl ?_
  refine rn_iload_n 2 dX8_isChance_1 rfl rfl rfl ?_
  refine rn_csp mX8_areNodes [.int (nI u), .int (nI v)] [] 5 (.int 1) dX8_isChance_2 cs_X8_75 rfl rfl (by simp [Value.category]) rfl (c_areNodes_t (d) mu h ⟨u, hu, rfl⟩ ⟨v, hv, rfl⟩) ?_
  refine rn_if_eq 42 8 dX8_isChance_5 (by decide) rfl (fun c5 => absurd c5 (by decide)) (fun _ => ?_)
  refine rn_aload_n 9 dX8_isChance_8 rfl rfl rfl ?_
  refine rn_get 12 (.ref 1) dX8_isChance_9 fl_X8_10 rfl rfl rfl rfl ?_
  refine rn_iload_n 13 dX8_isChance_12 rfl rfl rfl ?_
  refine rn_cvp mX2_hasAll [.int (nI E)] [] 16 (.int 1) dX8_isChance_13 cv_X8_134 rfl rfl rfl (by simp [Value.category]) rfl (c_hasAll_i (d) h hg (⟨E, hE, rfl⟩)) ?_
  refine rn_if_eq 42 19 dX8_isChance_16 (by decide) rfl (fun c16 => absurd c16 (by decide)) (fun _ => ?_)
  refine rn_iload_n 20 dX8_isChance_19 rfl rfl rfl ?_
  refine rn_csp mJ6_bitCount_0f7a4 [.int (nI E)] [] 23 (.int (nI (mny E 16))) dX8_isChance_20 cs_X8_216 rfl rfl (by simp [Value.category]) rfl (c_bitCount (d + 1) mu h (S := E) (by omega)) ?_
  refine rn_bipush (v := 6) 25 dX8_isChance_23 (by decide) rfl ?_
  refine rn_icmp_gt 42 28 dX8_isChance_25 (by decide) rfl (fun c25 => absurd c25 (nI_nlt (a := 6) (by omega) (by omega))) (fun _ => ?_)
  refine rn_iload 30 dX8_isChance_28 rfl rfl ?_
  refine rn_bipush (v := 12) 32 dX8_isChance_30 (by decide) rfl ?_
  refine rn_csp mX8_isWithin [.int (nI q), .int 12] [] 35 (.int 1) dX8_isChance_32 cs_X8_164 rfl rfl (by simp [Value.category]) rfl (c_isWithin_i (d + 1) mu h (M := 12) (⟨q, hq, rfl⟩) (by omega)) ?_
  refine rn_if_eq 42 38 dX8_isChance_35 (by decide) rfl (fun c35 => absurd c35 (by decide)) (fun _ => ?_)
  refine rn_iconst (v := 1) 39 dX8_isChance_38 (by decide) rfl ?_
  refine rn_goto 43 dX8_isChance_39 (by decide) ?_
  exact rn_zret rfl dX8_isChance_43 rfl (⟨rfl, rfl, rfl⟩)

set_option maxRecDepth 100000 in
set_option maxHeartbeats 2000000 in
theorem c_asked_t (d : Nat) {g : List Ed} {mu : Nat → Nat → Int32} (h : Int64) (hg : mg g mu) {u v E q : Nat} (hu : u < 8) (hv : v < 8) (hE : E < 2 ^ g.length) (hm : mny E 16 ≤ 6) (hq : q < 13) : gd_G mX9_isAsked (d + 2) [.ref 22, .int (nI u), .int (nI v), .int (nI E), .int (nI q)] mu h (pq (some (.int 1)) mu h) := by
  refine gd_of rfl (Nat.le_of_ble_eq_true rfl) ?_
  show rn_R none mX9_isAsked (d + 2) 0 [some (.ref 22), some (.int (nI u)), some (.int (nI v)), some (.int (nI E)), some (.int (nI q))] [] mu h (pq (some (.int 1)) mu h)
  have hp := pw_le hg.1
  refine rn_iload_n 1 dX9_isAsked_0 rfl rfl rfl ?_
  refine rn_iload_n 2 dX9_isAsked_1 rfl rfl rfl ?_
  refine rn_csp mX9_areNodes [.int (nI u), .int (nI v)] [] 5 (.int 1) dX9_isAsked_2 cs_X9_53 rfl rfl (by simp [Value.category]) rfl (c_mareNodes_t (d) mu h ⟨u, hu, rfl⟩ ⟨v, hv, rfl⟩) ?_
  refine rn_if_eq 40 8 dX9_isAsked_5 (by decide) rfl (fun c5 => absurd c5 (by decide)) (fun _ => ?_)
  refine rn_aload_n 9 dX9_isAsked_8 rfl rfl rfl ?_
  refine rn_iload_n 10 dX9_isAsked_9 rfl rfl rfl ?_
  refine rn_cvp mX9_isSet [.int (nI E)] [] 13 (.int 1) dX9_isAsked_10 cv_X9_121 rfl rfl rfl (by simp [Value.category]) rfl (c_isSet_i (d + 1) h hg (⟨E, hE, rfl⟩)) ?_
  refine rn_if_eq 40 16 dX9_isAsked_13 (by decide) rfl (fun c13 => absurd c13 (by decide)) (fun _ => ?_)
  refine rn_iload_n 17 dX9_isAsked_16 rfl rfl rfl ?_
  refine rn_csp mX9_many [.int (nI E)] [] 20 (.int (nI (mny E 16))) dX9_isAsked_17 cs_X9_173 rfl rfl (by simp [Value.category]) rfl (c_many (d + 1) mu h (S := E) (by omega)) ?_
  refine rn_bipush (v := 6) 22 dX9_isAsked_20 (by decide) rfl ?_
  refine rn_icmp_gt 40 25 dX9_isAsked_22 (by decide) rfl (fun c22 => absurd c22 (nI_nlt (a := 6) (by omega) (by omega))) (fun _ => ?_)
  refine rn_iload 27 dX9_isAsked_25 rfl rfl ?_
  refine rn_iconst (v := 0) 28 dX9_isAsked_27 (by decide) rfl ?_
  refine rn_bipush (v := 12) 30 dX9_isAsked_28 (by decide) rfl ?_
  refine rn_csp mX9_in [.int (nI q), .int 0, .int 12] [] 33 (.int 1) dX9_isAsked_30 cs_X9_38 rfl rfl (by simp [Value.category]) rfl (c_in_i (d + 1) mu h (M := 12) (⟨q, hq, rfl⟩) (by omega)) ?_
  refine rn_if_eq 40 36 dX9_isAsked_33 (by decide) rfl (fun c33 => absurd c33 (by decide)) (fun _ => ?_)
  refine rn_iconst (v := 1) 37 dX9_isAsked_36 (by decide) rfl ?_
  refine rn_goto 41 dX9_isAsked_37 (by decide) ?_
  exact rn_zret rfl dX9_isAsked_41 rfl (⟨rfl, rfl, rfl⟩)

set_option maxRecDepth 100000 in
set_option maxHeartbeats 2000000 in
theorem c_chance_f (d : Nat) {g : List Ed} {mu : Nat → Nat → Int32} (h : Int64) (hg : xg g mu) {v1 v2 v3 v4 : Int32} (hv : ¬ ((isin v1 8 ∧ isin v2 8) ∧ (∃ E, E < 2 ^ g.length ∧ v3 = nI E ∧ mny E 16 ≤ 6) ∧ isin v4 (12 + 1))) : gd_G mX8_isChance (d + 2) [.ref 0, .int v1, .int v2, .int v3, .int v4] mu h (pq (some (.int 0)) mu h) := by
  refine gd_of rfl (Nat.le_of_ble_eq_true rfl) ?_
  show rn_R none mX8_isChance (d + 2) 0 [some (.ref 0), some (.int v1), some (.int v2), some (.int v3), some (.int v4)] [] mu h (pq (some (.int 0)) mu h)
  have hp := pw_le hg.1
  by_cases q1 : isin v1 8 ∧ isin v2 8
  · skip
    by_cases q2 : isin v3 (2 ^ g.length)
    · skip
      obtain ⟨E, hE, rfl⟩ := q2
      by_cases q3 : mny E 16 ≤ 6
      · skip
        have q4 : ¬ (isin v4 (12 + 1)) := fun z => hv ⟨q1, ⟨E, hE, rfl, q3⟩, z⟩
        refine rn_iload_n 1 dX8_isChance_0 rfl rfl rfl ?_
        refine rn_iload_n 2 dX8_isChance_1 rfl rfl rfl ?_
        refine rn_csp mX8_areNodes [.int v1, .int v2] [] 5 (.int 1) dX8_isChance_2 cs_X8_75 rfl rfl (by simp [Value.category]) rfl (c_areNodes_t (d) mu h q1.1 q1.2) ?_
        refine rn_if_eq 42 8 dX8_isChance_5 (by decide) rfl (fun c5 => absurd c5 (by decide)) (fun _ => ?_)
        refine rn_aload_n 9 dX8_isChance_8 rfl rfl rfl ?_
        refine rn_get 12 (.ref 1) dX8_isChance_9 fl_X8_10 rfl rfl rfl rfl ?_
        refine rn_iload_n 13 dX8_isChance_12 rfl rfl rfl ?_
        refine rn_cvp mX2_hasAll [.int (nI E)] [] 16 (.int 1) dX8_isChance_13 cv_X8_134 rfl rfl rfl (by simp [Value.category]) rfl (c_hasAll_i (d) h hg (⟨E, hE, rfl⟩ : isin (nI E) (2 ^ g.length))) ?_
        refine rn_if_eq 42 19 dX8_isChance_16 (by decide) rfl (fun c16 => absurd c16 (by decide)) (fun _ => ?_)
        refine rn_iload_n 20 dX8_isChance_19 rfl rfl rfl ?_
        refine rn_csp mJ6_bitCount_0f7a4 [.int (nI E)] [] 23 (.int (nI (mny E 16))) dX8_isChance_20 cs_X8_216 rfl rfl (by simp [Value.category]) rfl (c_bitCount (d + 1) mu h (S := E) (by omega)) ?_
        refine rn_bipush (v := 6) 25 dX8_isChance_23 (by decide) rfl ?_
        refine rn_icmp_gt 42 28 dX8_isChance_25 (by decide) rfl (fun c25 => absurd c25 (nI_nlt (a := 6) (by omega) (by omega))) (fun _ => ?_)
        refine rn_iload 30 dX8_isChance_28 rfl rfl ?_
        refine rn_bipush (v := 12) 32 dX8_isChance_30 (by decide) rfl ?_
        refine rn_csp mX8_isWithin [.int v4, .int 12] [] 35 (.int 0) dX8_isChance_32 cs_X8_164 rfl rfl (by simp [Value.category]) rfl (c_isWithin_f (d + 1) mu h v4 12 q4 (by omega)) ?_
        refine rn_if_eq 42 38 dX8_isChance_35 (by decide) rfl (fun _ => ?_) (fun c35 => absurd (by decide) c35)
        refine rn_iconst (v := 0) 43 dX8_isChance_42 (by decide) rfl ?_
        exact rn_zret rfl dX8_isChance_43 rfl (⟨rfl, rfl, rfl⟩)
      · skip
        refine rn_iload_n 1 dX8_isChance_0 rfl rfl rfl ?_
        refine rn_iload_n 2 dX8_isChance_1 rfl rfl rfl ?_
        refine rn_csp mX8_areNodes [.int v1, .int v2] [] 5 (.int 1) dX8_isChance_2 cs_X8_75 rfl rfl (by simp [Value.category]) rfl (c_areNodes_t (d) mu h q1.1 q1.2) ?_
        refine rn_if_eq 42 8 dX8_isChance_5 (by decide) rfl (fun c5 => absurd c5 (by decide)) (fun _ => ?_)
        refine rn_aload_n 9 dX8_isChance_8 rfl rfl rfl ?_
        refine rn_get 12 (.ref 1) dX8_isChance_9 fl_X8_10 rfl rfl rfl rfl ?_
        refine rn_iload_n 13 dX8_isChance_12 rfl rfl rfl ?_
        refine rn_cvp mX2_hasAll [.int (nI E)] [] 16 (.int 1) dX8_isChance_13 cv_X8_134 rfl rfl rfl (by simp [Value.category]) rfl (c_hasAll_i (d) h hg (⟨E, hE, rfl⟩ : isin (nI E) (2 ^ g.length))) ?_
        refine rn_if_eq 42 19 dX8_isChance_16 (by decide) rfl (fun c16 => absurd c16 (by decide)) (fun _ => ?_)
        refine rn_iload_n 20 dX8_isChance_19 rfl rfl rfl ?_
        refine rn_csp mJ6_bitCount_0f7a4 [.int (nI E)] [] 23 (.int (nI (mny E 16))) dX8_isChance_20 cs_X8_216 rfl rfl (by simp [Value.category]) rfl (c_bitCount (d + 1) mu h (S := E) (by omega)) ?_
        refine rn_bipush (v := 6) 25 dX8_isChance_23 (by decide) rfl ?_
        refine rn_icmp_gt 42 28 dX8_isChance_25 (by decide) rfl (fun _ => ?_) (fun c25 => absurd (nI_lt (a := 6) (by omega) (by have := mny_le E 16; omega)) c25)
        refine rn_iconst (v := 0) 43 dX8_isChance_42 (by decide) rfl ?_
        exact rn_zret rfl dX8_isChance_43 rfl (⟨rfl, rfl, rfl⟩)
    · skip
      refine rn_iload_n 1 dX8_isChance_0 rfl rfl rfl ?_
      refine rn_iload_n 2 dX8_isChance_1 rfl rfl rfl ?_
      refine rn_csp mX8_areNodes [.int v1, .int v2] [] 5 (.int 1) dX8_isChance_2 cs_X8_75 rfl rfl (by simp [Value.category]) rfl (c_areNodes_t (d) mu h q1.1 q1.2) ?_
      refine rn_if_eq 42 8 dX8_isChance_5 (by decide) rfl (fun c5 => absurd c5 (by decide)) (fun _ => ?_)
      refine rn_aload_n 9 dX8_isChance_8 rfl rfl rfl ?_
      refine rn_get 12 (.ref 1) dX8_isChance_9 fl_X8_10 rfl rfl rfl rfl ?_
      refine rn_iload_n 13 dX8_isChance_12 rfl rfl rfl ?_
      refine rn_cvp mX2_hasAll [.int v3] [] 16 (.int 0) dX8_isChance_13 cv_X8_134 rfl rfl rfl (by simp [Value.category]) rfl (c_hasAll_f (d) h hg q2) ?_
      refine rn_if_eq 42 19 dX8_isChance_16 (by decide) rfl (fun _ => ?_) (fun c16 => absurd (by decide) c16)
      refine rn_iconst (v := 0) 43 dX8_isChance_42 (by decide) rfl ?_
      exact rn_zret rfl dX8_isChance_43 rfl (⟨rfl, rfl, rfl⟩)
  · skip
    refine rn_iload_n 1 dX8_isChance_0 rfl rfl rfl ?_
    refine rn_iload_n 2 dX8_isChance_1 rfl rfl rfl ?_
    refine rn_csp mX8_areNodes [.int v1, .int v2] [] 5 (.int 0) dX8_isChance_2 cs_X8_75 rfl rfl (by simp [Value.category]) rfl (c_areNodes_f (d) mu h q1) ?_
    refine rn_if_eq 42 8 dX8_isChance_5 (by decide) rfl (fun _ => ?_) (fun c5 => absurd (by decide) c5)
    refine rn_iconst (v := 0) 43 dX8_isChance_42 (by decide) rfl ?_
    exact rn_zret rfl dX8_isChance_43 rfl (⟨rfl, rfl, rfl⟩)

set_option maxRecDepth 100000 in
set_option maxHeartbeats 2000000 in
theorem c_asked_f (d : Nat) {g : List Ed} {mu : Nat → Nat → Int32} (h : Int64) (hg : mg g mu) {v1 v2 v3 v4 : Int32} (hv : ¬ ((isin v1 8 ∧ isin v2 8) ∧ (∃ E, E < 2 ^ g.length ∧ v3 = nI E ∧ mny E 16 ≤ 6) ∧ isin v4 (12 + 1))) : gd_G mX9_isAsked (d + 2) [.ref 22, .int v1, .int v2, .int v3, .int v4] mu h (pq (some (.int 0)) mu h) := by
  refine gd_of rfl (Nat.le_of_ble_eq_true rfl) ?_
  show rn_R none mX9_isAsked (d + 2) 0 [some (.ref 22), some (.int v1), some (.int v2), some (.int v3), some (.int v4)] [] mu h (pq (some (.int 0)) mu h)
  have hp := pw_le hg.1
  by_cases q1 : isin v1 8 ∧ isin v2 8
  · skip
    by_cases q2 : isin v3 (2 ^ g.length)
    · skip
      obtain ⟨E, hE, rfl⟩ := q2
      by_cases q3 : mny E 16 ≤ 6
      · skip
        have q4 : ¬ (isin v4 (12 + 1)) := fun z => hv ⟨q1, ⟨E, hE, rfl, q3⟩, z⟩
        refine rn_iload_n 1 dX9_isAsked_0 rfl rfl rfl ?_
        refine rn_iload_n 2 dX9_isAsked_1 rfl rfl rfl ?_
        refine rn_csp mX9_areNodes [.int v1, .int v2] [] 5 (.int 1) dX9_isAsked_2 cs_X9_53 rfl rfl (by simp [Value.category]) rfl (c_mareNodes_t (d) mu h q1.1 q1.2) ?_
        refine rn_if_eq 40 8 dX9_isAsked_5 (by decide) rfl (fun c5 => absurd c5 (by decide)) (fun _ => ?_)
        refine rn_aload_n 9 dX9_isAsked_8 rfl rfl rfl ?_
        refine rn_iload_n 10 dX9_isAsked_9 rfl rfl rfl ?_
        refine rn_cvp mX9_isSet [.int (nI E)] [] 13 (.int 1) dX9_isAsked_10 cv_X9_121 rfl rfl rfl (by simp [Value.category]) rfl (c_isSet_i (d + 1) h hg (⟨E, hE, rfl⟩ : isin (nI E) (2 ^ g.length))) ?_
        refine rn_if_eq 40 16 dX9_isAsked_13 (by decide) rfl (fun c13 => absurd c13 (by decide)) (fun _ => ?_)
        refine rn_iload_n 17 dX9_isAsked_16 rfl rfl rfl ?_
        refine rn_csp mX9_many [.int (nI E)] [] 20 (.int (nI (mny E 16))) dX9_isAsked_17 cs_X9_173 rfl rfl (by simp [Value.category]) rfl (c_many (d + 1) mu h (S := E) (by omega)) ?_
        refine rn_bipush (v := 6) 22 dX9_isAsked_20 (by decide) rfl ?_
        refine rn_icmp_gt 40 25 dX9_isAsked_22 (by decide) rfl (fun c22 => absurd c22 (nI_nlt (a := 6) (by omega) (by omega))) (fun _ => ?_)
        refine rn_iload 27 dX9_isAsked_25 rfl rfl ?_
        refine rn_iconst (v := 0) 28 dX9_isAsked_27 (by decide) rfl ?_
        refine rn_bipush (v := 12) 30 dX9_isAsked_28 (by decide) rfl ?_
        refine rn_csp mX9_in [.int v4, .int 0, .int 12] [] 33 (.int 0) dX9_isAsked_30 cs_X9_38 rfl rfl (by simp [Value.category]) rfl (c_in_f (d + 1) mu h (nisin (n := 12) (by omega) q4)) ?_
        refine rn_if_eq 40 36 dX9_isAsked_33 (by decide) rfl (fun _ => ?_) (fun c33 => absurd (by decide) c33)
        refine rn_iconst (v := 0) 41 dX9_isAsked_40 (by decide) rfl ?_
        exact rn_zret rfl dX9_isAsked_41 rfl (⟨rfl, rfl, rfl⟩)
      · skip
        refine rn_iload_n 1 dX9_isAsked_0 rfl rfl rfl ?_
        refine rn_iload_n 2 dX9_isAsked_1 rfl rfl rfl ?_
        refine rn_csp mX9_areNodes [.int v1, .int v2] [] 5 (.int 1) dX9_isAsked_2 cs_X9_53 rfl rfl (by simp [Value.category]) rfl (c_mareNodes_t (d) mu h q1.1 q1.2) ?_
        refine rn_if_eq 40 8 dX9_isAsked_5 (by decide) rfl (fun c5 => absurd c5 (by decide)) (fun _ => ?_)
        refine rn_aload_n 9 dX9_isAsked_8 rfl rfl rfl ?_
        refine rn_iload_n 10 dX9_isAsked_9 rfl rfl rfl ?_
        refine rn_cvp mX9_isSet [.int (nI E)] [] 13 (.int 1) dX9_isAsked_10 cv_X9_121 rfl rfl rfl (by simp [Value.category]) rfl (c_isSet_i (d + 1) h hg (⟨E, hE, rfl⟩ : isin (nI E) (2 ^ g.length))) ?_
        refine rn_if_eq 40 16 dX9_isAsked_13 (by decide) rfl (fun c13 => absurd c13 (by decide)) (fun _ => ?_)
        refine rn_iload_n 17 dX9_isAsked_16 rfl rfl rfl ?_
        refine rn_csp mX9_many [.int (nI E)] [] 20 (.int (nI (mny E 16))) dX9_isAsked_17 cs_X9_173 rfl rfl (by simp [Value.category]) rfl (c_many (d + 1) mu h (S := E) (by omega)) ?_
        refine rn_bipush (v := 6) 22 dX9_isAsked_20 (by decide) rfl ?_
        refine rn_icmp_gt 40 25 dX9_isAsked_22 (by decide) rfl (fun _ => ?_) (fun c22 => absurd (nI_lt (a := 6) (by omega) (by have := mny_le E 16; omega)) c22)
        refine rn_iconst (v := 0) 41 dX9_isAsked_40 (by decide) rfl ?_
        exact rn_zret rfl dX9_isAsked_41 rfl (⟨rfl, rfl, rfl⟩)
    · skip
      refine rn_iload_n 1 dX9_isAsked_0 rfl rfl rfl ?_
      refine rn_iload_n 2 dX9_isAsked_1 rfl rfl rfl ?_
      refine rn_csp mX9_areNodes [.int v1, .int v2] [] 5 (.int 1) dX9_isAsked_2 cs_X9_53 rfl rfl (by simp [Value.category]) rfl (c_mareNodes_t (d) mu h q1.1 q1.2) ?_
      refine rn_if_eq 40 8 dX9_isAsked_5 (by decide) rfl (fun c5 => absurd c5 (by decide)) (fun _ => ?_)
      refine rn_aload_n 9 dX9_isAsked_8 rfl rfl rfl ?_
      refine rn_iload_n 10 dX9_isAsked_9 rfl rfl rfl ?_
      refine rn_cvp mX9_isSet [.int v3] [] 13 (.int 0) dX9_isAsked_10 cv_X9_121 rfl rfl rfl (by simp [Value.category]) rfl (c_isSet_f (d + 1) h hg q2) ?_
      refine rn_if_eq 40 16 dX9_isAsked_13 (by decide) rfl (fun _ => ?_) (fun c13 => absurd (by decide) c13)
      refine rn_iconst (v := 0) 41 dX9_isAsked_40 (by decide) rfl ?_
      exact rn_zret rfl dX9_isAsked_41 rfl (⟨rfl, rfl, rfl⟩)
  · skip
    refine rn_iload_n 1 dX9_isAsked_0 rfl rfl rfl ?_
    refine rn_iload_n 2 dX9_isAsked_1 rfl rfl rfl ?_
    refine rn_csp mX9_areNodes [.int v1, .int v2] [] 5 (.int 0) dX9_isAsked_2 cs_X9_53 rfl rfl (by simp [Value.category]) rfl (c_mareNodes_f (d) mu h q1) ?_
    refine rn_if_eq 40 8 dX9_isAsked_5 (by decide) rfl (fun _ => ?_) (fun c5 => absurd (by decide) c5)
    refine rn_iconst (v := 0) 41 dX9_isAsked_40 (by decide) rfl ?_
    exact rn_zret rfl dX9_isAsked_41 rfl (⟨rfl, rfl, rfl⟩)

set_option maxRecDepth 100000 in
set_option maxHeartbeats 2000000 in
theorem x_expected_t (d : Nat) {g : List Ed} {a : Nat} {hs : List Sg} {tx : List Nat} {f : Int32} {u v E q : Nat} (hu : u < 8) (hv : v < 8) (hE : E < 2 ^ g.length) (hm : mny E 16 ≤ 6) (hq : q < 13) : XC mX8_expected (d + 4) [.int (nI u), .int (nI v), .int (nI E), .int (nI q)] (g, a, hs, tx, f) (g, a, hs, tx, f) (.long (smE E (exT g u v E q false) (E + 1))) := by
  intro mu h hs0
  obtain ⟨hg, ha, hh, ht, hf⟩ := id hs0
  simp only at hg ha hh ht hf
  refine gd_of rfl (Nat.le_of_ble_eq_true rfl) ?_
  show rn_R none mX8_expected (d + 4) 0 [some (.ref 0), some (.int (nI u)), some (.int (nI v)), some (.int (nI E)), some (.int (nI q))] [] mu h (fun r mu' _ => r = some (.long (smE E (exT g u v E q false) (E + 1))) ∧ xS (g, a, hs, tx, f) mu' ∧ ∀ c, 22 ≤ c → mu' c = mu c)
  have hp := pw_le hg.1
  refine rn_aload_n 1 dX8_expected_0 rfl rfl rfl ?_
  refine rn_iload_n 2 dX8_expected_1 rfl rfl rfl ?_
  refine rn_iload_n 3 dX8_expected_2 rfl rfl rfl ?_
  refine rn_iload_n 4 dX8_expected_3 rfl rfl rfl ?_
  refine rn_iload 6 dX8_expected_4 rfl rfl ?_
  refine rn_cvp mX8_isChance [.int (nI u), .int (nI v), .int (nI E), .int (nI q)] [] 9 (.int 1) dX8_expected_6 cv_X8_199 rfl rfl rfl (by simp [Value.category]) rfl (c_chance_t (d + 1) h hg hu hv hE hm hq) ?_
  refine rn_if_ne 16 12 dX8_expected_9 (by decide) rfl (fun _ => ?_) (fun c9 => absurd c9 (by decide))
  refine rn_aload_n 17 dX8_expected_16 rfl rfl rfl ?_
  refine rn_iload_n 18 dX8_expected_17 rfl rfl rfl ?_
  refine rn_iload_n 19 dX8_expected_18 rfl rfl rfl ?_
  refine rn_iload_n 20 dX8_expected_19 rfl rfl rfl ?_
  refine rn_iload 22 dX8_expected_20 rfl rfl ?_
  refine rn_iconst (v := 0) 23 dX8_expected_22 (by decide) rfl ?_
  refine rn_callV mX8_sumOfSubsets [.int (nI u), .int (nI v), .int (nI E), .int (nI q), .int 0] [] dX8_expected_23 cv_X8_205 rfl rfl rfl (by simp [Value.category]) (c_sumSub d (g := g) (q := q) (b := false) hu hv (by omega) h hg) (fun r1 m1 h1 q1 _ => ?_)
  obtain ⟨e1, f1⟩ := q1
  subst e1
  exact rn_lret rfl dX8_expected_26 (⟨rfl, xS_fr hs0 (fun c hc => f1 c (by omega)), fun c hc => f1 c (by omega)⟩)

set_option maxRecDepth 100000 in
set_option maxHeartbeats 2000000 in
theorem m_expected_t (d : Nat) {g : List Ed} {a : Nat} {hs : List Sg} {tx : List Nat} {f : Int32} {u v E q : Nat} (hu : u < 8) (hv : v < 8) (hE : E < 2 ^ g.length) (hm : mny E 16 ≤ 6) (hq : q < 13) : MC mX9_expected (d + 6) [.int (nI u), .int (nI v), .int (nI E), .int (nI q)] (g, a, hs, tx, f) (g, a, hs, tx, f) (.long (smE E (exT g u v E q false) (E + 1))) := by
  intro mu h hs0
  obtain ⟨hg, ha, hh, ht, hf⟩ := id hs0
  simp only at hg ha hh ht hf
  refine gd_of rfl (Nat.le_of_ble_eq_true rfl) ?_
  show rn_R none mX9_expected (d + 6) 0 [some (.ref 22), some (.int (nI u)), some (.int (nI v)), some (.int (nI E)), some (.int (nI q))] [] mu h (fun r mu' _ => r = some (.long (smE E (exT g u v E q false) (E + 1))) ∧ mS (g, a, hs, tx, f) mu' ∧ ∀ c, c < 22 → mu' c = mu c)
  have hp := pw_le hg.1
  refine rn_aload_n 1 dX9_expected_0 rfl rfl rfl ?_
  refine rn_iload_n 2 dX9_expected_1 rfl rfl rfl ?_
  refine rn_iload_n 3 dX9_expected_2 rfl rfl rfl ?_
  refine rn_iload_n 4 dX9_expected_3 rfl rfl rfl ?_
  refine rn_iload 6 dX9_expected_4 rfl rfl ?_
  refine rn_cvp mX9_isAsked [.int (nI u), .int (nI v), .int (nI E), .int (nI q)] [] 9 (.int 1) dX9_expected_6 cv_X9_180 rfl rfl rfl (by simp [Value.category]) rfl (c_asked_t (d + 3) h hg hu hv hE hm hq) ?_
  refine rn_if_eq 25 12 dX9_expected_9 (by decide) rfl (fun c9 => absurd c9 (by decide)) (fun _ => ?_)
  refine rn_aload_n 13 dX9_expected_12 rfl rfl rfl ?_
  refine rn_iload_n 14 dX9_expected_13 rfl rfl rfl ?_
  refine rn_iload_n 15 dX9_expected_14 rfl rfl rfl ?_
  refine rn_iload_n 16 dX9_expected_15 rfl rfl rfl ?_
  refine rn_iload 18 dX9_expected_16 rfl rfl ?_
  refine rn_iconst (v := 1) 19 dX9_expected_18 (by decide) rfl ?_
  refine rn_callV mX9_sum [.int (nI u), .int (nI v), .int (nI E), .int (nI q), .int 1] [] dX9_expected_19 cv_X9_184 rfl rfl rfl (by simp [Value.category]) (c_msum d (g := g) (q := q) (b := false) hu hv (by omega) h hg) (fun r1 m1 h1 q1 _ => ?_)
  obtain ⟨e1, -, f1⟩ := q1
  subst e1
  refine rn_goto 28 dX9_expected_22 (by decide) ?_
  exact rn_lret rfl dX9_expected_28 (⟨rfl, mS_fr hs0 (fun c c1 c2 => f1 c (by omega)), fun c hc => f1 c (by omega)⟩)

set_option maxRecDepth 100000 in
set_option maxHeartbeats 2000000 in
theorem x_expected_b (d : Nat) {g : List Ed} {a : Nat} {hs : List Sg} {tx : List Nat} {f : Int32} {v1 v2 v3 v4 : Int32} (hv : ¬ ((isin v1 8 ∧ isin v2 8) ∧ (∃ E, E < 2 ^ g.length ∧ v3 = nI E ∧ mny E 16 ≤ 6) ∧ isin v4 (12 + 1))) : XC mX8_expected (d + 3) [.int v1, .int v2, .int v3, .int v4] (g, a, hs, tx, f) (g, a, hs, tx, f) (.long (-2)) := by
  intro mu h hs0
  obtain ⟨hg, ha, hh, ht, hf⟩ := id hs0
  simp only at hg ha hh ht hf
  refine gd_of rfl (Nat.le_of_ble_eq_true rfl) ?_
  show rn_R none mX8_expected (d + 3) 0 [some (.ref 0), some (.int v1), some (.int v2), some (.int v3), some (.int v4)] [] mu h (fun r mu' _ => r = some (.long (-2)) ∧ xS (g, a, hs, tx, f) mu' ∧ ∀ c, 22 ≤ c → mu' c = mu c)
  refine rn_aload_n 1 dX8_expected_0 rfl rfl rfl ?_
  refine rn_iload_n 2 dX8_expected_1 rfl rfl rfl ?_
  refine rn_iload_n 3 dX8_expected_2 rfl rfl rfl ?_
  refine rn_iload_n 4 dX8_expected_3 rfl rfl rfl ?_
  refine rn_iload 6 dX8_expected_4 rfl rfl ?_
  refine rn_cvp mX8_isChance [.int v1, .int v2, .int v3, .int v4] [] 9 (.int 0) dX8_expected_6 cv_X8_199 rfl rfl rfl (by simp [Value.category]) rfl (c_chance_f d h hg hv) ?_
  refine rn_if_ne 16 12 dX8_expected_9 (by decide) rfl (fun c9 => absurd (rfl) c9) (fun _ => ?_)
  refine rn_ldc2 15 dX8_expected_12 kc_X8_203 rfl ?_
  exact rn_lret rfl dX8_expected_15 (⟨rfl, hs0, fun _ _ => rfl⟩)

set_option maxRecDepth 100000 in
set_option maxHeartbeats 2000000 in
theorem m_expected_b (d : Nat) {g : List Ed} {a : Nat} {hs : List Sg} {tx : List Nat} {f : Int32} {v1 v2 v3 v4 : Int32} (hv : ¬ ((isin v1 8 ∧ isin v2 8) ∧ (∃ E, E < 2 ^ g.length ∧ v3 = nI E ∧ mny E 16 ≤ 6) ∧ isin v4 (12 + 1))) : MC mX9_expected (d + 3) [.int v1, .int v2, .int v3, .int v4] (g, a, hs, tx, f) (g, a, hs, tx, f) (.long (-2)) := by
  intro mu h hs0
  obtain ⟨hg, ha, hh, ht, hf⟩ := id hs0
  simp only at hg ha hh ht hf
  refine gd_of rfl (Nat.le_of_ble_eq_true rfl) ?_
  show rn_R none mX9_expected (d + 3) 0 [some (.ref 22), some (.int v1), some (.int v2), some (.int v3), some (.int v4)] [] mu h (fun r mu' _ => r = some (.long (-2)) ∧ mS (g, a, hs, tx, f) mu' ∧ ∀ c, c < 22 → mu' c = mu c)
  refine rn_aload_n 1 dX9_expected_0 rfl rfl rfl ?_
  refine rn_iload_n 2 dX9_expected_1 rfl rfl rfl ?_
  refine rn_iload_n 3 dX9_expected_2 rfl rfl rfl ?_
  refine rn_iload_n 4 dX9_expected_3 rfl rfl rfl ?_
  refine rn_iload 6 dX9_expected_4 rfl rfl ?_
  refine rn_cvp mX9_isAsked [.int v1, .int v2, .int v3, .int v4] [] 9 (.int 0) dX9_expected_6 cv_X9_180 rfl rfl rfl (by simp [Value.category]) rfl (c_asked_f d h hg hv) ?_
  refine rn_if_eq 25 12 dX9_expected_9 (by decide) rfl (fun _ => ?_) (fun c9 => absurd (rfl) c9)
  refine rn_ldc2 28 dX9_expected_25 kc_X9_188 rfl ?_
  exact rn_lret rfl dX9_expected_28 (⟨rfl, hs0, fun _ _ => rfl⟩)

theorem op_expected (v1 v2 v3 v4 : Int32) : OP mX8_expected mX9_expected [.int v1, .int v2, .int v3, .int v4] := by
  rintro ⟨g, a, hs, tx, f⟩
  by_cases hv : (isin v1 8 ∧ isin v2 8) ∧ (∃ E, E < 2 ^ g.length ∧ v3 = nI E ∧ mny E 16 ≤ 6) ∧ isin v4 (12 + 1)
  · obtain ⟨⟨⟨u, hu, rfl⟩, v, hv, rfl⟩, ⟨E, hE, rfl, hm⟩, q, hq, rfl⟩ := hv
    exact ⟨_, _, x_expected_t 96 hu hv hE hm hq, m_expected_t 94 hu hv hE hm hq⟩
  · exact ⟨_, _, x_expected_b 97 hv, m_expected_b 97 hv⟩

set_option maxRecDepth 100000 in
set_option maxHeartbeats 2000000 in
theorem x_lost_t (d : Nat) {g : List Ed} {a : Nat} {hs : List Sg} {tx : List Nat} {f : Int32} {u v E q : Nat} (hu : u < 8) (hv : v < 8) (hE : E < 2 ^ g.length) (hm : mny E 16 ≤ 6) (hq : q < 13) : XC mX8_lost (d + 4) [.int (nI u), .int (nI v), .int (nI E), .int (nI q)] (g, a, hs, tx, f) (g, a, hs, tx, f) (.long (smE E (exT g u v E q true) (E + 1))) := by
  intro mu h hs0
  obtain ⟨hg, ha, hh, ht, hf⟩ := id hs0
  simp only at hg ha hh ht hf
  refine gd_of rfl (Nat.le_of_ble_eq_true rfl) ?_
  show rn_R none mX8_lost (d + 4) 0 [some (.ref 0), some (.int (nI u)), some (.int (nI v)), some (.int (nI E)), some (.int (nI q))] [] mu h (fun r mu' _ => r = some (.long (smE E (exT g u v E q true) (E + 1))) ∧ xS (g, a, hs, tx, f) mu' ∧ ∀ c, 22 ≤ c → mu' c = mu c)
  have hp := pw_le hg.1
  refine rn_aload_n 1 dX8_lost_0 rfl rfl rfl ?_
  refine rn_iload_n 2 dX8_lost_1 rfl rfl rfl ?_
  refine rn_iload_n 3 dX8_lost_2 rfl rfl rfl ?_
  refine rn_iload_n 4 dX8_lost_3 rfl rfl rfl ?_
  refine rn_iload 6 dX8_lost_4 rfl rfl ?_
  refine rn_cvp mX8_isChance [.int (nI u), .int (nI v), .int (nI E), .int (nI q)] [] 9 (.int 1) dX8_lost_6 cv_X8_199 rfl rfl rfl (by simp [Value.category]) rfl (c_chance_t (d + 1) h hg hu hv hE hm hq) ?_
  refine rn_if_ne 16 12 dX8_lost_9 (by decide) rfl (fun _ => ?_) (fun c9 => absurd c9 (by decide))
  refine rn_aload_n 17 dX8_lost_16 rfl rfl rfl ?_
  refine rn_iload_n 18 dX8_lost_17 rfl rfl rfl ?_
  refine rn_iload_n 19 dX8_lost_18 rfl rfl rfl ?_
  refine rn_iload_n 20 dX8_lost_19 rfl rfl rfl ?_
  refine rn_iload 22 dX8_lost_20 rfl rfl ?_
  refine rn_iconst (v := 1) 23 dX8_lost_22 (by decide) rfl ?_
  refine rn_callV mX8_sumOfSubsets [.int (nI u), .int (nI v), .int (nI E), .int (nI q), .int 1] [] dX8_lost_23 cv_X8_205 rfl rfl rfl (by simp [Value.category]) (c_sumSub d (g := g) (q := q) (b := true) hu hv (by omega) h hg) (fun r1 m1 h1 q1 _ => ?_)
  obtain ⟨e1, f1⟩ := q1
  subst e1
  exact rn_lret rfl dX8_lost_26 (⟨rfl, xS_fr hs0 (fun c hc => f1 c (by omega)), fun c hc => f1 c (by omega)⟩)

set_option maxRecDepth 100000 in
set_option maxHeartbeats 2000000 in
theorem m_lost_t (d : Nat) {g : List Ed} {a : Nat} {hs : List Sg} {tx : List Nat} {f : Int32} {u v E q : Nat} (hu : u < 8) (hv : v < 8) (hE : E < 2 ^ g.length) (hm : mny E 16 ≤ 6) (hq : q < 13) : MC mX9_lost (d + 6) [.int (nI u), .int (nI v), .int (nI E), .int (nI q)] (g, a, hs, tx, f) (g, a, hs, tx, f) (.long (smE E (exT g u v E q true) (E + 1))) := by
  intro mu h hs0
  obtain ⟨hg, ha, hh, ht, hf⟩ := id hs0
  simp only at hg ha hh ht hf
  refine gd_of rfl (Nat.le_of_ble_eq_true rfl) ?_
  show rn_R none mX9_lost (d + 6) 0 [some (.ref 22), some (.int (nI u)), some (.int (nI v)), some (.int (nI E)), some (.int (nI q))] [] mu h (fun r mu' _ => r = some (.long (smE E (exT g u v E q true) (E + 1))) ∧ mS (g, a, hs, tx, f) mu' ∧ ∀ c, c < 22 → mu' c = mu c)
  have hp := pw_le hg.1
  refine rn_aload_n 1 dX9_lost_0 rfl rfl rfl ?_
  refine rn_iload_n 2 dX9_lost_1 rfl rfl rfl ?_
  refine rn_iload_n 3 dX9_lost_2 rfl rfl rfl ?_
  refine rn_iload_n 4 dX9_lost_3 rfl rfl rfl ?_
  refine rn_iload 6 dX9_lost_4 rfl rfl ?_
  refine rn_cvp mX9_isAsked [.int (nI u), .int (nI v), .int (nI E), .int (nI q)] [] 9 (.int 1) dX9_lost_6 cv_X9_180 rfl rfl rfl (by simp [Value.category]) rfl (c_asked_t (d + 3) h hg hu hv hE hm hq) ?_
  refine rn_if_eq 25 12 dX9_lost_9 (by decide) rfl (fun c9 => absurd c9 (by decide)) (fun _ => ?_)
  refine rn_aload_n 13 dX9_lost_12 rfl rfl rfl ?_
  refine rn_iload_n 14 dX9_lost_13 rfl rfl rfl ?_
  refine rn_iload_n 15 dX9_lost_14 rfl rfl rfl ?_
  refine rn_iload_n 16 dX9_lost_15 rfl rfl rfl ?_
  refine rn_iload 18 dX9_lost_16 rfl rfl ?_
  refine rn_iconst (v := 0) 19 dX9_lost_18 (by decide) rfl ?_
  refine rn_callV mX9_sum [.int (nI u), .int (nI v), .int (nI E), .int (nI q), .int 0] [] dX9_lost_19 cv_X9_184 rfl rfl rfl (by simp [Value.category]) (c_msum d (g := g) (q := q) (b := true) hu hv (by omega) h hg) (fun r1 m1 h1 q1 _ => ?_)
  obtain ⟨e1, -, f1⟩ := q1
  subst e1
  refine rn_goto 28 dX9_lost_22 (by decide) ?_
  exact rn_lret rfl dX9_lost_28 (⟨rfl, mS_fr hs0 (fun c c1 c2 => f1 c (by omega)), fun c hc => f1 c (by omega)⟩)

set_option maxRecDepth 100000 in
set_option maxHeartbeats 2000000 in
theorem x_lost_b (d : Nat) {g : List Ed} {a : Nat} {hs : List Sg} {tx : List Nat} {f : Int32} {v1 v2 v3 v4 : Int32} (hv : ¬ ((isin v1 8 ∧ isin v2 8) ∧ (∃ E, E < 2 ^ g.length ∧ v3 = nI E ∧ mny E 16 ≤ 6) ∧ isin v4 (12 + 1))) : XC mX8_lost (d + 3) [.int v1, .int v2, .int v3, .int v4] (g, a, hs, tx, f) (g, a, hs, tx, f) (.long (-2)) := by
  intro mu h hs0
  obtain ⟨hg, ha, hh, ht, hf⟩ := id hs0
  simp only at hg ha hh ht hf
  refine gd_of rfl (Nat.le_of_ble_eq_true rfl) ?_
  show rn_R none mX8_lost (d + 3) 0 [some (.ref 0), some (.int v1), some (.int v2), some (.int v3), some (.int v4)] [] mu h (fun r mu' _ => r = some (.long (-2)) ∧ xS (g, a, hs, tx, f) mu' ∧ ∀ c, 22 ≤ c → mu' c = mu c)
  refine rn_aload_n 1 dX8_lost_0 rfl rfl rfl ?_
  refine rn_iload_n 2 dX8_lost_1 rfl rfl rfl ?_
  refine rn_iload_n 3 dX8_lost_2 rfl rfl rfl ?_
  refine rn_iload_n 4 dX8_lost_3 rfl rfl rfl ?_
  refine rn_iload 6 dX8_lost_4 rfl rfl ?_
  refine rn_cvp mX8_isChance [.int v1, .int v2, .int v3, .int v4] [] 9 (.int 0) dX8_lost_6 cv_X8_199 rfl rfl rfl (by simp [Value.category]) rfl (c_chance_f d h hg hv) ?_
  refine rn_if_ne 16 12 dX8_lost_9 (by decide) rfl (fun c9 => absurd (rfl) c9) (fun _ => ?_)
  refine rn_ldc2 15 dX8_lost_12 kc_X8_203 rfl ?_
  exact rn_lret rfl dX8_lost_15 (⟨rfl, hs0, fun _ _ => rfl⟩)

set_option maxRecDepth 100000 in
set_option maxHeartbeats 2000000 in
theorem m_lost_b (d : Nat) {g : List Ed} {a : Nat} {hs : List Sg} {tx : List Nat} {f : Int32} {v1 v2 v3 v4 : Int32} (hv : ¬ ((isin v1 8 ∧ isin v2 8) ∧ (∃ E, E < 2 ^ g.length ∧ v3 = nI E ∧ mny E 16 ≤ 6) ∧ isin v4 (12 + 1))) : MC mX9_lost (d + 3) [.int v1, .int v2, .int v3, .int v4] (g, a, hs, tx, f) (g, a, hs, tx, f) (.long (-2)) := by
  intro mu h hs0
  obtain ⟨hg, ha, hh, ht, hf⟩ := id hs0
  simp only at hg ha hh ht hf
  refine gd_of rfl (Nat.le_of_ble_eq_true rfl) ?_
  show rn_R none mX9_lost (d + 3) 0 [some (.ref 22), some (.int v1), some (.int v2), some (.int v3), some (.int v4)] [] mu h (fun r mu' _ => r = some (.long (-2)) ∧ mS (g, a, hs, tx, f) mu' ∧ ∀ c, c < 22 → mu' c = mu c)
  refine rn_aload_n 1 dX9_lost_0 rfl rfl rfl ?_
  refine rn_iload_n 2 dX9_lost_1 rfl rfl rfl ?_
  refine rn_iload_n 3 dX9_lost_2 rfl rfl rfl ?_
  refine rn_iload_n 4 dX9_lost_3 rfl rfl rfl ?_
  refine rn_iload 6 dX9_lost_4 rfl rfl ?_
  refine rn_cvp mX9_isAsked [.int v1, .int v2, .int v3, .int v4] [] 9 (.int 0) dX9_lost_6 cv_X9_180 rfl rfl rfl (by simp [Value.category]) rfl (c_asked_f d h hg hv) ?_
  refine rn_if_eq 25 12 dX9_lost_9 (by decide) rfl (fun _ => ?_) (fun c9 => absurd (rfl) c9)
  refine rn_ldc2 28 dX9_lost_25 kc_X9_188 rfl ?_
  exact rn_lret rfl dX9_lost_28 (⟨rfl, hs0, fun _ _ => rfl⟩)

theorem op_lost (v1 v2 v3 v4 : Int32) : OP mX8_lost mX9_lost [.int v1, .int v2, .int v3, .int v4] := by
  rintro ⟨g, a, hs, tx, f⟩
  by_cases hv : (isin v1 8 ∧ isin v2 8) ∧ (∃ E, E < 2 ^ g.length ∧ v3 = nI E ∧ mny E 16 ≤ 6) ∧ isin v4 (12 + 1)
  · obtain ⟨⟨⟨u, hu, rfl⟩, v, hv, rfl⟩, ⟨E, hE, rfl, hm⟩, q, hq, rfl⟩ := hv
    exact ⟨_, _, x_lost_t 96 hu hv hE hm hq, m_lost_t 94 hu hv hE hm hq⟩
  · exact ⟨_, _, x_lost_b 97 hv, m_lost_b 97 hv⟩
