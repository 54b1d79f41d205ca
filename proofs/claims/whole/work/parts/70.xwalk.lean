/-! THE CLASS: walk -/
def ptG (g : List Ed) (a s t lim : Nat) (L : List (List Nat)) : List (List Nat) := L.filter (fun Q => decide (ptE g s Q = t ∧ ptL g a Q ≤ lim))
def ptM : List Nat → (Nat → Int32) → Prop
  | [], _ => True
  | e :: P, f => f P.length = nI e ∧ ptM P f
theorem ptM_upd {v : Int32} {j : Nat} : ∀ (P : List Nat) (f : Nat → Int32), P.length ≤ j → ptM P f → ptM P (upd f j v) := by
  intro P
  induction P with
  | nil => intro f _ _; trivial
  | cons e P ih =>
    intro f hj h
    have hj2 : P.length + 1 ≤ j := hj
    exact ⟨by rw [pk_un (by omega)]; exact h.1, ih f (by omega) h.2⟩
theorem ptM_push {e : Nat} {P : List Nat} {f : Nat → Int32} (h : ptM P f) : ptM (e :: P) (upd f P.length (nI e)) := ⟨pk_us, ptM_upd P f (Nat.le_refl _) h⟩
theorem ptG_long {g : List Ed} {a s t lim f : Nat} {P : List Nat} (hP : ptV g a s P) (h : lim < ptL g a P) : ptG g a s t lim (ptA g a s t f P) = [] := by
  refine List.filter_eq_nil_iff.mpr (fun Q hQ q => ?_)
  have := (ptA_ok f P hP Q hQ).2
  have q2 := of_decide_eq_true q
  omega
theorem ptG_app {g : List Ed} {a s t lim : Nat} (L M : List (List Nat)) : ptG g a s t lim (L ++ M) = ptG g a s t lim L ++ ptG g a s t lim M := List.filter_append L M
theorem ptG_end {g : List Ed} {a s t lim f : Nat} {P : List Nat} (h1 : ptE g s P = t) (h2 : ptL g a P ≤ lim) : ptG g a s t lim (ptA g a s t (f + 1) P) = [P] := by
  have e : ptA g a s t (f + 1) P = [P] := by
    show P :: (if ptE g s P = t then [] else _) = [P]
    rw [if_pos h1]
  rw [e]
  unfold ptG
  rw [List.filter_cons_of_pos (by simpa using ⟨h1, h2⟩)]
  rfl
theorem ptG_on {g : List Ed} {a s t lim f : Nat} {P : List Nat} (h1 : ¬ ptE g s P = t) : ptG g a s t lim (ptA g a s t (f + 1) P) = ptG g a s t lim (ptS g a s (ptA g a s t f) P g.length 0) := by
  have e : ptA g a s t (f + 1) P = P :: ptS g a s (ptA g a s t f) P g.length 0 := by
    show P :: (if ptE g s P = t then [] else _) = _
    rw [if_neg h1]
  rw [e]
  unfold ptG
  rw [List.filter_cons_of_neg (by simp [h1])]
/-- what stands fast while the walker walks -/
def CWx (g : List Ed) (a t lim w : Nat) (o : Bool) (mu : Nat → Nat → Int32) : Prop := xg g mu ∧ (∀ e, e < g.length → mu 16 e = nI (eW g a e)) ∧ mu 15 6 = nI w ∧ mu 15 7 = nI t ∧ mu 15 8 = nI lim ∧ mu 15 10 = bi o
theorem CWx_of {g : List Ed} {a t lim w : Nat} {o : Bool} {b c : Nat → Nat → Int32} (h : CWx g a t lim w o b) (f : FW b c) : CWx g a t lim w o c := by
  obtain ⟨h1, h2, h3, h4, h5, h6⟩ := h
  exact ⟨xg_of h1 (by rw [f.1 1 (by omega) (by omega) (by omega)]) (f.1 2 (by omega) (by omega) (by omega)), fun e he => by rw [f.1 16 (by omega) (by omega) (by omega)]; exact h2 e he, by rw [f.2 6 (by omega) (by omega) (by omega)]; exact h3, by rw [f.2 7 (by omega) (by omega) (by omega)]; exact h4, by rw [f.2 8 (by omega) (by omega) (by omega)]; exact h5, by rw [f.2 10 (by omega) (by omega) (by omega)]; exact h6⟩
theorem FW_17 (mu : Nat → Nat → Int32) (j : Nat) (v : Int32) : FW mu (mu_s mu 17 j v) := ⟨fun c _ h2 _ => by simp [mu_s, h2], fun j _ _ _ => by simp [mu_s]⟩
def PWA (g : List Ed) (a w : Nat) (L : List (List Nat)) (A : Nat) (R : List Nat) (mu0 : Nat → Nat → Int32) : rn_Q := fun r mu' _ => r = some (.int 0) ∧ WA w (A + L.length) (L.foldl (fun R Q => stW w R (ptL g a Q)) R) mu' ∧ FW mu0 mu'
def PWF (L : List (List Nat)) (P : List Nat) (A : Nat) (mu0 : Nat → Nat → Int32) : rn_Q := fun r mu' _ => (match L with
  | [] => r = some (.int 0) ∧ ptM P (mu' 17) ∧ mu' 15 9 = nI A
  | Q :: _ => r = some (.int 1) ∧ ptM Q (mu' 17) ∧ mu' 15 3 = nI Q.length ∧ mu' 15 9 = nI (A + 1)) ∧ FW mu0 mu'

set_option maxRecDepth 100000 in
set_option maxHeartbeats 2000000 in
theorem lp_walkA (dd : Nat) {g : List Ed} {a s t lim w : Nat} {P : List Nat} {rc : List Nat → List (List Nat)} (hs : s < 8) (hv : ptV g a s P) (hlim : ptL g a P ≤ lim) (hlim2 : lim ≤ 9998) (hl7 : P.length ≤ 7) (hrc : ∀ Q, ptV g a s Q → lim < ptL g a Q → ptG g a s t lim (rc Q) = []) (HR : ∀ (e2 A2 : Nat) (R2 : List Nat) (mu2 : Nat → Nat → Int32) (h2 : Int64), e2 < g.length → ptC g a s P e2 → ptL g a P + eW g a e2 ≤ lim → CWx g a t lim w false mu2 → WA w A2 R2 mu2 → gd_G mX7_walk (dd + 1) [.ref 15, .int (nI (eT g e2)), .int (nI (ptN g s P ||| 2 ^ eT g e2)), .int (nI (ptL g a P + eW g a e2)), .int (nI (P.length + 1))] mu2 h2 (PWA g a w (ptG g a s t lim (rc (e2 :: P))) A2 R2 mu2)) {mu0 : Nat → Nat → Int32} : ∀ (k e : Nat) (A : Nat) (R : List Nat) (mu : Nat → Nat → Int32) (h : Int64), e + k = g.length → (CWx g a t lim w false mu) → (WA w A R mu) → (FW mu0 mu) → rn_R none mX7_walk (dd + 2) 28 [some (.ref 15), some (.int (nI (ptE g s P))), some (.int (nI (ptN g s P))), some (.int (nI (ptL g a P))), some (.int (nI P.length)), some (.int (nI e)), none] [] mu h (PWA g a w (ptG g a s t lim (ptS g a s rc P k e)) A R mu0) := by
  intro k
  induction k with
  | zero =>
    intro e A R mu h hek hc hm hf
    obtain ⟨hg, hL, w6, w7, w8, w10⟩ := id hc
    have h16 := hg.1
    have hp := pw_le hg.1
    refine rn_iload 30 dX7_walk_28 rfl rfl ?_
    refine rn_aload_n 31 dX7_walk_30 rfl rfl rfl ?_
    refine rn_get 34 (.ref 1) dX7_walk_31 fl_X7_44 rfl rfl rfl rfl ?_
    refine rn_get 37 (.int (mu 1 1)) dX7_walk_34 fl_X7_75 rfl rfl rfl rfl ?_
    refine rn_icmp_ge 134 40 dX7_walk_37 (by decide) rfl (fun _ => ?_) (fun c37 => absurd (by rw [hg.2.2.1]; exact nI_le (by omega) (by omega)) c37)
    refine rn_iconst (v := 0) 135 dX7_walk_134 (by decide) rfl ?_
    exact rn_zret rfl dX7_walk_135 rfl (⟨rfl, hm, hf⟩)
  | succ k ih =>
    intro e A R mu h hek hc hm hf
    obtain ⟨hg, hL, w6, w7, w8, w10⟩ := id hc
    have h16 := hg.1
    have hp := pw_le hg.1
    have hlt : e < g.length := by omega
    have hok := e_at hg.2.1 hlt
    have hW := eW_le hg.2.1 a hlt
    have hN := ptN_lt hg.2.1 hs P hv
    have hE := ptE_lt hg.2.1 hs P hv
    have hT8 := hok.2.1
    by_cases q1 : eF g e = ptE g s P
    · skip
      by_cases q2 : (ptN g s P).testBit (eT g e) = true
      · skip
        have bb : (nI (ptN g s P) >>> (nI (eT g e) &&& 31)) &&& 1 = 1 := by rw [nb_bit (by omega) (by omega), if_pos q2]
        refine rn_iload 30 dX7_walk_28 rfl rfl ?_
        refine rn_aload_n 31 dX7_walk_30 rfl rfl rfl ?_
        refine rn_get 34 (.ref 1) dX7_walk_31 fl_X7_44 rfl rfl rfl rfl ?_
        refine rn_get 37 (.int (mu 1 1)) dX7_walk_34 fl_X7_75 rfl rfl rfl rfl ?_
        refine rn_icmp_ge 134 40 dX7_walk_37 (by decide) rfl (fun c37 => absurd c37 (by rw [hg.2.2.1]; exact nI_ge hlt (by omega))) (fun _ => ?_)
        refine rn_aload_n 41 dX7_walk_40 rfl rfl rfl ?_
        refine rn_get 44 (.ref 1) dX7_walk_41 fl_X7_44 rfl rfl rfl rfl ?_
        refine rn_iload 46 dX7_walk_44 rfl rfl ?_
        refine rn_cvp mX2_to [.int (nI e)] [] 49 (.int (nI (eT g e))) dX7_walk_46 cv_X7_78 rfl rfl rfl (by simp [Value.category]) rfl (c_to dd h hg hlt) ?_
        refine rn_istore 51 [some (.ref 15), some (.int (nI (ptE g s P))), some (.int (nI (ptN g s P))), some (.int (nI (ptL g a P))), some (.int (nI P.length)), some (.int (nI e)), some (.int (nI (eT g e)))] dX7_walk_49 rfl (Nat.le_of_ble_eq_true rfl) rfl ?_
        refine rn_aload_n 52 dX7_walk_51 rfl rfl rfl ?_
        refine rn_get 55 (.ref 1) dX7_walk_52 fl_X7_44 rfl rfl rfl rfl ?_
        refine rn_iload 57 dX7_walk_55 rfl rfl ?_
        refine rn_cvp mX2_from [.int (nI e)] [] 60 (.int (nI (eF g e))) dX7_walk_57 cv_X7_82 rfl rfl rfl (by simp [Value.category]) rfl (c_from dd h hg hlt) ?_
        refine rn_iload_n 61 dX7_walk_60 rfl rfl rfl ?_
        refine rn_icmp_ne 128 64 dX7_walk_61 (by decide) rfl (fun c61 => absurd (congrArg nI q1) c61) (fun _ => ?_)
        refine rn_iload_n 65 dX7_walk_64 rfl rfl rfl ?_
        refine rn_iload 67 dX7_walk_65 rfl rfl ?_
        refine rn_ishr 68 dX7_walk_67 rfl ?_
        refine rn_iconst (v := 1) 69 dX7_walk_68 (by decide) rfl ?_
        refine rn_iand 70 dX7_walk_69 rfl ?_
        rw [bb]
        refine rn_if_ne 128 73 dX7_walk_70 (by decide) rfl (fun _ => ?_) (fun c70 => absurd c70 (by decide))
        refine rn_iinc (v := (nI (e + 1))) 131 [some (.ref 15), some (.int (nI (ptE g s P))), some (.int (nI (ptN g s P))), some (.int (nI (ptL g a P))), some (.int (nI P.length)), some (.int (nI (e + 1))), some (.int (nI (eT g e)))] dX7_walk_128 rfl (nI_1 _) rfl rfl ?_
        refine rn_goto 28 dX7_walk_131 (by decide) ?_
        refine rn_drop 6 [some (.ref 15), some (.int (nI (ptE g s P))), some (.int (nI (ptN g s P))), some (.int (nI (ptL g a P))), some (.int (nI P.length)), some (.int (nI (e + 1))), none] rfl ?_
        have em : ptG g a s t lim (ptS g a s rc P (k + 1) e) = ptG g a s t lim (ptS g a s rc P k (e + 1)) := by rw [show ptS g a s rc P (k + 1) e = ptS g a s rc P k (e + 1) from if_neg (fun z => z.2.2 q2)]
        rw [em]
        exact ih (e + 1) A R mu h (by omega) hc hm hf
      · skip
        have bb : (nI (ptN g s P) >>> (nI (eT g e) &&& 31)) &&& 1 = 0 := by rw [nb_bit (by omega) (by omega), if_neg q2]
        by_cases q3 : eW g a e ≤ lim - ptL g a P
        · skip
          have hcan : ptC g a s P e := ⟨q1, by omega, q2⟩
          have em : ptG g a s t lim (ptS g a s rc P (k + 1) e) = ptG g a s t lim (rc (e :: P)) ++ ptG g a s t lim (ptS g a s rc P k (e + 1)) := by rw [show ptS g a s rc P (k + 1) e = rc (e :: P) ++ ptS g a s rc P k (e + 1) from if_pos hcan, ptG_app]
          rw [em]
          have hc1 := CWx_of hc (FW_17 mu P.length (nI e))
          refine rn_iload 30 dX7_walk_28 rfl rfl ?_
          refine rn_aload_n 31 dX7_walk_30 rfl rfl rfl ?_
          refine rn_get 34 (.ref 1) dX7_walk_31 fl_X7_44 rfl rfl rfl rfl ?_
          refine rn_get 37 (.int (mu 1 1)) dX7_walk_34 fl_X7_75 rfl rfl rfl rfl ?_
          refine rn_icmp_ge 134 40 dX7_walk_37 (by decide) rfl (fun c37 => absurd c37 (by rw [hg.2.2.1]; exact nI_ge hlt (by omega))) (fun _ => ?_)
          refine rn_aload_n 41 dX7_walk_40 rfl rfl rfl ?_
          refine rn_get 44 (.ref 1) dX7_walk_41 fl_X7_44 rfl rfl rfl rfl ?_
          refine rn_iload 46 dX7_walk_44 rfl rfl ?_
          refine rn_cvp mX2_to [.int (nI e)] [] 49 (.int (nI (eT g e))) dX7_walk_46 cv_X7_78 rfl rfl rfl (by simp [Value.category]) rfl (c_to dd h hg hlt) ?_
          refine rn_istore 51 [some (.ref 15), some (.int (nI (ptE g s P))), some (.int (nI (ptN g s P))), some (.int (nI (ptL g a P))), some (.int (nI P.length)), some (.int (nI e)), some (.int (nI (eT g e)))] dX7_walk_49 rfl (Nat.le_of_ble_eq_true rfl) rfl ?_
          refine rn_aload_n 52 dX7_walk_51 rfl rfl rfl ?_
          refine rn_get 55 (.ref 1) dX7_walk_52 fl_X7_44 rfl rfl rfl rfl ?_
          refine rn_iload 57 dX7_walk_55 rfl rfl ?_
          refine rn_cvp mX2_from [.int (nI e)] [] 60 (.int (nI (eF g e))) dX7_walk_57 cv_X7_82 rfl rfl rfl (by simp [Value.category]) rfl (c_from dd h hg hlt) ?_
          refine rn_iload_n 61 dX7_walk_60 rfl rfl rfl ?_
          refine rn_icmp_ne 128 64 dX7_walk_61 (by decide) rfl (fun c61 => absurd (congrArg nI q1) c61) (fun _ => ?_)
          refine rn_iload_n 65 dX7_walk_64 rfl rfl rfl ?_
          refine rn_iload 67 dX7_walk_65 rfl rfl ?_
          refine rn_ishr 68 dX7_walk_67 rfl ?_
          refine rn_iconst (v := 1) 69 dX7_walk_68 (by decide) rfl ?_
          refine rn_iand 70 dX7_walk_69 rfl ?_
          rw [bb]
          refine rn_if_ne 128 73 dX7_walk_70 (by decide) rfl (fun c70 => absurd (rfl) c70) (fun _ => ?_)
          refine rn_aload_n 74 dX7_walk_73 rfl rfl rfl ?_
          refine rn_get 77 (.ref 16) dX7_walk_74 fl_X7_9 rfl rfl rfl rfl ?_
          refine rn_iload 79 dX7_walk_77 rfl rfl ?_
          refine rn_iald 80 (nI (eW g a e)) dX7_walk_79 rfl (vp_in_nI (by omega) (by omega)) (by rw [nI_clamp (by omega)]; exact hL e hlt) rfl ?_
          refine rn_aload_n 81 dX7_walk_80 rfl rfl rfl ?_
          refine rn_get 84 (.int (mu 15 8)) dX7_walk_81 fl_X7_34 rfl rfl rfl rfl ?_
          refine rn_iload_n 85 dX7_walk_84 rfl rfl rfl ?_
          refine rn_isub 86 dX7_walk_85 rfl ?_
          rw [w8, pk_sub hlim]
          refine rn_icmp_gt 128 89 dX7_walk_86 (by decide) rfl (fun c86 => absurd c86 (nI_nlt (by omega) (by omega))) (fun _ => ?_)
          refine rn_aload_n 90 dX7_walk_89 rfl rfl rfl ?_
          refine rn_get 93 (.ref 17) dX7_walk_90 fl_X7_15 rfl rfl rfl rfl ?_
          refine rn_iload 95 dX7_walk_93 rfl rfl ?_
          refine rn_iload 97 dX7_walk_95 rfl rfl ?_
          refine rn_iast 98 dX7_walk_97 rfl (vp_in_nI (by omega) (by omega)) rfl ?_
          rw [nI_clamp (by omega)]
          refine rn_aload_n 99 dX7_walk_98 rfl rfl rfl ?_
          refine rn_iload 101 dX7_walk_99 rfl rfl ?_
          refine rn_iload_n 102 dX7_walk_101 rfl rfl rfl ?_
          refine rn_iconst (v := 1) 103 dX7_walk_102 (by decide) rfl ?_
          refine rn_iload 105 dX7_walk_103 rfl rfl ?_
          refine rn_ishl 106 dX7_walk_105 rfl ?_
          refine rn_ior 107 dX7_walk_106 rfl ?_
          rw [nb_1 (by omega), nb_or]
          refine rn_iload_n 108 dX7_walk_107 rfl rfl rfl ?_
          refine rn_aload_n 109 dX7_walk_108 rfl rfl rfl ?_
          refine rn_get 112 (.ref 16) dX7_walk_109 fl_X7_9 rfl rfl rfl rfl ?_
          refine rn_iload 114 dX7_walk_112 rfl rfl ?_
          refine rn_iald 115 (nI (eW g a e)) dX7_walk_114 rfl (vp_in_nI (by omega) (by omega)) (by rw [nI_clamp (by omega)]; exact hL e hlt) rfl ?_
          refine rn_iadd 116 dX7_walk_115 rfl ?_
          rw [nI_add]
          refine rn_iload 118 dX7_walk_116 rfl rfl ?_
          refine rn_iconst (v := 1) 119 dX7_walk_118 (by decide) rfl ?_
          refine rn_iadd 120 dX7_walk_119 rfl ?_
          rw [nI_1]
          refine rn_callV mX7_walk [.int (nI (eT g e)), .int (nI (ptN g s P ||| 2 ^ eT g e)), .int (nI (ptL g a P + eW g a e)), .int (nI (P.length + 1))] [] dX7_walk_120 cv_X7_67 rfl rfl rfl (by simp [Value.category]) (HR e A R (mu_s mu 17 P.length (nI e)) h hlt hcan (by omega) hc1 (by unfold WA at hm ⊢; simp [mu_s]; exact hm)) (fun r1 m1 h1 qq _ => ?_)
          obtain ⟨e1, b1, f1⟩ := qq
          subst e1
          show rn_R _ mX7_walk _ 123 [some (.ref 15), some (.int (nI (ptE g s P))), some (.int (nI (ptN g s P))), some (.int (nI (ptL g a P))), some (.int (nI P.length)), some (.int (nI e)), some (.int (nI (eT g e)))] [.int 0] m1 h1 _
          refine rn_if_eq 128 126 dX7_walk_123 (by decide) rfl (fun _ => ?_) (fun c123 => absurd (by decide) c123)
          refine rn_iinc (v := (nI (e + 1))) 131 [some (.ref 15), some (.int (nI (ptE g s P))), some (.int (nI (ptN g s P))), some (.int (nI (ptL g a P))), some (.int (nI P.length)), some (.int (nI (e + 1))), some (.int (nI (eT g e)))] dX7_walk_128 rfl (nI_1 _) rfl rfl ?_
          refine rn_goto 28 dX7_walk_131 (by decide) ?_
          refine rn_drop 6 [some (.ref 15), some (.int (nI (ptE g s P))), some (.int (nI (ptN g s P))), some (.int (nI (ptL g a P))), some (.int (nI P.length)), some (.int (nI (e + 1))), none] rfl ?_
          have f3 := FW_tr hf (FW_tr (FW_17 mu P.length (nI e)) f1)
          have z := ih (e + 1) _ _ m1 h1 (by omega) (CWx_of hc1 f1) b1 f3
          refine rn_mono z (fun r m2 h2 q => ⟨q.1, ?_, q.2.2⟩)
          rw [List.foldl_append, List.length_append, ← Nat.add_assoc]
          exact q.2.1
        · skip
          refine rn_iload 30 dX7_walk_28 rfl rfl ?_
          refine rn_aload_n 31 dX7_walk_30 rfl rfl rfl ?_
          refine rn_get 34 (.ref 1) dX7_walk_31 fl_X7_44 rfl rfl rfl rfl ?_
          refine rn_get 37 (.int (mu 1 1)) dX7_walk_34 fl_X7_75 rfl rfl rfl rfl ?_
          refine rn_icmp_ge 134 40 dX7_walk_37 (by decide) rfl (fun c37 => absurd c37 (by rw [hg.2.2.1]; exact nI_ge hlt (by omega))) (fun _ => ?_)
          refine rn_aload_n 41 dX7_walk_40 rfl rfl rfl ?_
          refine rn_get 44 (.ref 1) dX7_walk_41 fl_X7_44 rfl rfl rfl rfl ?_
          refine rn_iload 46 dX7_walk_44 rfl rfl ?_
          refine rn_cvp mX2_to [.int (nI e)] [] 49 (.int (nI (eT g e))) dX7_walk_46 cv_X7_78 rfl rfl rfl (by simp [Value.category]) rfl (c_to dd h hg hlt) ?_
          refine rn_istore 51 [some (.ref 15), some (.int (nI (ptE g s P))), some (.int (nI (ptN g s P))), some (.int (nI (ptL g a P))), some (.int (nI P.length)), some (.int (nI e)), some (.int (nI (eT g e)))] dX7_walk_49 rfl (Nat.le_of_ble_eq_true rfl) rfl ?_
          refine rn_aload_n 52 dX7_walk_51 rfl rfl rfl ?_
          refine rn_get 55 (.ref 1) dX7_walk_52 fl_X7_44 rfl rfl rfl rfl ?_
          refine rn_iload 57 dX7_walk_55 rfl rfl ?_
          refine rn_cvp mX2_from [.int (nI e)] [] 60 (.int (nI (eF g e))) dX7_walk_57 cv_X7_82 rfl rfl rfl (by simp [Value.category]) rfl (c_from dd h hg hlt) ?_
          refine rn_iload_n 61 dX7_walk_60 rfl rfl rfl ?_
          refine rn_icmp_ne 128 64 dX7_walk_61 (by decide) rfl (fun c61 => absurd (congrArg nI q1) c61) (fun _ => ?_)
          refine rn_iload_n 65 dX7_walk_64 rfl rfl rfl ?_
          refine rn_iload 67 dX7_walk_65 rfl rfl ?_
          refine rn_ishr 68 dX7_walk_67 rfl ?_
          refine rn_iconst (v := 1) 69 dX7_walk_68 (by decide) rfl ?_
          refine rn_iand 70 dX7_walk_69 rfl ?_
          rw [bb]
          refine rn_if_ne 128 73 dX7_walk_70 (by decide) rfl (fun c70 => absurd (rfl) c70) (fun _ => ?_)
          refine rn_aload_n 74 dX7_walk_73 rfl rfl rfl ?_
          refine rn_get 77 (.ref 16) dX7_walk_74 fl_X7_9 rfl rfl rfl rfl ?_
          refine rn_iload 79 dX7_walk_77 rfl rfl ?_
          refine rn_iald 80 (nI (eW g a e)) dX7_walk_79 rfl (vp_in_nI (by omega) (by omega)) (by rw [nI_clamp (by omega)]; exact hL e hlt) rfl ?_
          refine rn_aload_n 81 dX7_walk_80 rfl rfl rfl ?_
          refine rn_get 84 (.int (mu 15 8)) dX7_walk_81 fl_X7_34 rfl rfl rfl rfl ?_
          refine rn_iload_n 85 dX7_walk_84 rfl rfl rfl ?_
          refine rn_isub 86 dX7_walk_85 rfl ?_
          rw [w8, pk_sub hlim]
          refine rn_icmp_gt 128 89 dX7_walk_86 (by decide) rfl (fun _ => ?_) (fun c86 => absurd (nI_lt (by omega) (by omega)) c86)
          refine rn_iinc (v := (nI (e + 1))) 131 [some (.ref 15), some (.int (nI (ptE g s P))), some (.int (nI (ptN g s P))), some (.int (nI (ptL g a P))), some (.int (nI P.length)), some (.int (nI (e + 1))), some (.int (nI (eT g e)))] dX7_walk_128 rfl (nI_1 _) rfl rfl ?_
          refine rn_goto 28 dX7_walk_131 (by decide) ?_
          refine rn_drop 6 [some (.ref 15), some (.int (nI (ptE g s P))), some (.int (nI (ptN g s P))), some (.int (nI (ptL g a P))), some (.int (nI P.length)), some (.int (nI (e + 1))), none] rfl ?_
          have em : ptG g a s t lim (ptS g a s rc P (k + 1) e) = ptG g a s t lim (ptS g a s rc P k (e + 1)) := by
            by_cases z : ptC g a s P e
            · rw [show ptS g a s rc P (k + 1) e = rc (e :: P) ++ ptS g a s rc P k (e + 1) from if_pos z, ptG_app, hrc (e :: P) ⟨hv, hlt, z⟩ (by show lim < ptL g a P + eW g a e; omega), List.nil_append]
            · rw [show ptS g a s rc P (k + 1) e = ptS g a s rc P k (e + 1) from if_neg z]
          rw [em]
          exact ih (e + 1) A R mu h (by omega) hc hm hf
    · skip
      refine rn_iload 30 dX7_walk_28 rfl rfl ?_
      refine rn_aload_n 31 dX7_walk_30 rfl rfl rfl ?_
      refine rn_get 34 (.ref 1) dX7_walk_31 fl_X7_44 rfl rfl rfl rfl ?_
      refine rn_get 37 (.int (mu 1 1)) dX7_walk_34 fl_X7_75 rfl rfl rfl rfl ?_
      refine rn_icmp_ge 134 40 dX7_walk_37 (by decide) rfl (fun c37 => absurd c37 (by rw [hg.2.2.1]; exact nI_ge hlt (by omega))) (fun _ => ?_)
      refine rn_aload_n 41 dX7_walk_40 rfl rfl rfl ?_
      refine rn_get 44 (.ref 1) dX7_walk_41 fl_X7_44 rfl rfl rfl rfl ?_
      refine rn_iload 46 dX7_walk_44 rfl rfl ?_
      refine rn_cvp mX2_to [.int (nI e)] [] 49 (.int (nI (eT g e))) dX7_walk_46 cv_X7_78 rfl rfl rfl (by simp [Value.category]) rfl (c_to dd h hg hlt) ?_
      refine rn_istore 51 [some (.ref 15), some (.int (nI (ptE g s P))), some (.int (nI (ptN g s P))), some (.int (nI (ptL g a P))), some (.int (nI P.length)), some (.int (nI e)), some (.int (nI (eT g e)))] dX7_walk_49 rfl (Nat.le_of_ble_eq_true rfl) rfl ?_
      refine rn_aload_n 52 dX7_walk_51 rfl rfl rfl ?_
      refine rn_get 55 (.ref 1) dX7_walk_52 fl_X7_44 rfl rfl rfl rfl ?_
      refine rn_iload 57 dX7_walk_55 rfl rfl ?_
      refine rn_cvp mX2_from [.int (nI e)] [] 60 (.int (nI (eF g e))) dX7_walk_57 cv_X7_82 rfl rfl rfl (by simp [Value.category]) rfl (c_from dd h hg hlt) ?_
      refine rn_iload_n 61 dX7_walk_60 rfl rfl rfl ?_
      refine rn_icmp_ne 128 64 dX7_walk_61 (by decide) rfl (fun _ => ?_) (fun c61 => absurd c61 (fun z => q1 ((nI_eq (by omega) (by omega)).mp z)))
      refine rn_iinc (v := (nI (e + 1))) 131 [some (.ref 15), some (.int (nI (ptE g s P))), some (.int (nI (ptN g s P))), some (.int (nI (ptL g a P))), some (.int (nI P.length)), some (.int (nI (e + 1))), some (.int (nI (eT g e)))] dX7_walk_128 rfl (nI_1 _) rfl rfl ?_
      refine rn_goto 28 dX7_walk_131 (by decide) ?_
      refine rn_drop 6 [some (.ref 15), some (.int (nI (ptE g s P))), some (.int (nI (ptN g s P))), some (.int (nI (ptL g a P))), some (.int (nI P.length)), some (.int (nI (e + 1))), none] rfl ?_
      have em : ptG g a s t lim (ptS g a s rc P (k + 1) e) = ptG g a s t lim (ptS g a s rc P k (e + 1)) := by rw [show ptS g a s rc P (k + 1) e = ptS g a s rc P k (e + 1) from if_neg (fun z => q1 z.1)]
      rw [em]
      exact ih (e + 1) A R mu h (by omega) hc hm hf

set_option maxRecDepth 100000 in
set_option maxHeartbeats 2000000 in
theorem c_walkA (d : Nat) {g : List Ed} {a s t lim w : Nat} (hs : s < 8) (ht : t < 8) (hlim2 : lim ≤ 9998) (hw : w ≤ 100) : ∀ (f : Nat) (P : List Nat) (A : Nat) (R : List Nat) (mu : Nat → Nat → Int32) (h : Int64), P.length + f = 8 → ptV g a s P → ptL g a P ≤ lim → CWx g a t lim w false mu → WA w A R mu → gd_G mX7_walk (d + f + 3) [.ref 15, .int (nI (ptE g s P)), .int (nI (ptN g s P)), .int (nI (ptL g a P)), .int (nI P.length)] mu h (PWA g a w (ptG g a s t lim (ptA g a s t f P)) A R mu) := by
  intro f
  induction f with
  | zero =>
    intro P A R mu h hPf hv hlim hc hm
    have := ptV_len hc.1.2.1 hs hv
    omega
  | succ f ih =>
    intro P A R mu h hPf hv hlim hc hm
    refine gd_of rfl (Nat.le_of_ble_eq_true rfl) ?_
    show rn_R none mX7_walk (d + f + 4) 0 [some (.ref 15), some (.int (nI (ptE g s P))), some (.int (nI (ptN g s P))), some (.int (nI (ptL g a P))), some (.int (nI P.length)), none, none] [] mu h (PWA g a w (ptG g a s t lim (ptA g a s t (f + 1) P)) A R mu)
    obtain ⟨hg, hL, w6, w7, w8, w10⟩ := id hc
    have h16 := hg.1
    have hp := pw_le hg.1
    have hl7 := ptV_len hg.2.1 hs hv
    have hE := ptE_lt hg.2.1 hs P hv
    by_cases q1 : ptE g s P = t
    · skip
      rw [ptG_end q1 hlim]
      refine rn_iload_n 1 dX7_walk_0 rfl rfl rfl ?_
      refine rn_aload_n 2 dX7_walk_1 rfl rfl rfl ?_
      refine rn_get 5 (.int (mu 15 7)) dX7_walk_2 fl_X7_31 rfl rfl rfl rfl ?_
      refine rn_icmp_ne 16 8 dX7_walk_5 (by decide) rfl (fun c5 => absurd (by rw [w7, q1]) c5) (fun _ => ?_)
      refine rn_aload_n 9 dX7_walk_8 rfl rfl rfl ?_
      refine rn_iload_n 10 dX7_walk_9 rfl rfl rfl ?_
      refine rn_iload 12 dX7_walk_10 rfl rfl ?_
      refine rn_callV mX7_arrive [.int (nI (ptL g a P)), .int (nI P.length)] [] dX7_walk_12 cv_X7_71 rfl rfl rfl (by simp [Value.category]) (c_arrA (d + f + 1) hw (by omega) h hm w6 w10) (fun r1 m1 h1 qq _ => ?_)
      obtain ⟨e1, b1, f1⟩ := qq
      subst e1
      show rn_R _ mX7_walk _ 15 [some (.ref 15), some (.int (nI (ptE g s P))), some (.int (nI (ptN g s P))), some (.int (nI (ptL g a P))), some (.int (nI P.length)), none, none] [.int 0] m1 h1 _
      exact rn_zret rfl dX7_walk_15 rfl (⟨rfl, b1, f1⟩)
    · skip
      rw [ptG_on q1]
      refine rn_iload_n 1 dX7_walk_0 rfl rfl rfl ?_
      refine rn_aload_n 2 dX7_walk_1 rfl rfl rfl ?_
      refine rn_get 5 (.int (mu 15 7)) dX7_walk_2 fl_X7_31 rfl rfl rfl rfl ?_
      refine rn_icmp_ne 16 8 dX7_walk_5 (by decide) rfl (fun _ => ?_) (fun c5 => absurd c5 (by rw [w7]; exact fun z => q1 ((nI_eq (by omega) (by omega)).mp z)))
      refine rn_iload 18 dX7_walk_16 rfl rfl ?_
      refine rn_bipush (v := 8) 20 dX7_walk_18 (by decide) rfl ?_
      refine rn_icmp_lt 25 23 dX7_walk_20 (by decide) rfl (fun _ => ?_) (fun c20 => absurd (nI_lt (b := 8) (by omega) (by omega)) c20)
      refine rn_iconst (v := 0) 26 dX7_walk_25 (by decide) rfl ?_
      refine rn_istore 28 [some (.ref 15), some (.int (nI (ptE g s P))), some (.int (nI (ptN g s P))), some (.int (nI (ptL g a P))), some (.int (nI P.length)), some (.int 0), none] dX7_walk_26 rfl (Nat.le_of_ble_eq_true rfl) rfl ?_
      exact lp_walkA (d + f + 2) (P := P) (rc := ptA g a s t f) hs hv hlim hlim2 hl7 (fun Q h1 h2 => ptG_long h1 h2) (fun e2 A2 R2 mu2 h2 a1 a2 a3 a4 a5 => ih (e2 :: P) A2 R2 mu2 h2 (by show P.length + 1 + f = 8; omega) ⟨hv, a1, a2⟩ a3 a4 a5) (mu0 := mu) g.length 0 A R mu h (by omega) hc hm (FW_rfl mu)

set_option maxRecDepth 100000 in
set_option maxHeartbeats 2000000 in
theorem lp_walkF (dd : Nat) {g : List Ed} {a s t lim : Nat} {P : List Nat} {rc : List Nat → List (List Nat)} {A : Nat} (hs : s < 8) (hv : ptV g a s P) (hlim : ptL g a P ≤ lim) (hlim2 : lim ≤ 9998) (hl7 : P.length ≤ 7) (hrc : ∀ Q, ptV g a s Q → lim < ptL g a Q → ptG g a s t lim (rc Q) = []) (HR : ∀ (e2 : Nat) (mu2 : Nat → Nat → Int32) (h2 : Int64), e2 < g.length → ptC g a s P e2 → ptL g a P + eW g a e2 ≤ lim → CWx g a t lim 0 true mu2 → ptM (e2 :: P) (mu2 17) → mu2 15 9 = nI A → gd_G mX7_walk (dd + 1) [.ref 15, .int (nI (eT g e2)), .int (nI (ptN g s P ||| 2 ^ eT g e2)), .int (nI (ptL g a P + eW g a e2)), .int (nI (P.length + 1))] mu2 h2 (PWF (ptG g a s t lim (rc (e2 :: P))) (e2 :: P) A mu2)) {mu0 : Nat → Nat → Int32} : ∀ (k e : Nat) (mu : Nat → Nat → Int32) (h : Int64), e + k = g.length → (CWx g a t lim 0 true mu) → (ptM P (mu 17)) → (mu 15 9 = nI A) → (FW mu0 mu) → rn_R none mX7_walk (dd + 2) 28 [some (.ref 15), some (.int (nI (ptE g s P))), some (.int (nI (ptN g s P))), some (.int (nI (ptL g a P))), some (.int (nI P.length)), some (.int (nI e)), none] [] mu h (PWF (ptG g a s t lim (ptS g a s rc P k e)) P A mu0) := by
  intro k
  induction k with
  | zero =>
    intro e mu h hek hc hm h9 hf
    obtain ⟨hg, hL, w6, w7, w8, w10⟩ := id hc
    have h16 := hg.1
    have hp := pw_le hg.1
    refine rn_iload 30 dX7_walk_28 rfl rfl ?_
    refine rn_aload_n 31 dX7_walk_30 rfl rfl rfl ?_
    refine rn_get 34 (.ref 1) dX7_walk_31 fl_X7_44 rfl rfl rfl rfl ?_
    refine rn_get 37 (.int (mu 1 1)) dX7_walk_34 fl_X7_75 rfl rfl rfl rfl ?_
    refine rn_icmp_ge 134 40 dX7_walk_37 (by decide) rfl (fun _ => ?_) (fun c37 => absurd (by rw [hg.2.2.1]; exact nI_le (by omega) (by omega)) c37)
    refine rn_iconst (v := 0) 135 dX7_walk_134 (by decide) rfl ?_
    exact rn_zret rfl dX7_walk_135 rfl (⟨⟨rfl, hm, h9⟩, hf⟩)
  | succ k ih =>
    intro e mu h hek hc hm h9 hf
    obtain ⟨hg, hL, w6, w7, w8, w10⟩ := id hc
    have h16 := hg.1
    have hp := pw_le hg.1
    have hlt : e < g.length := by omega
    have hok := e_at hg.2.1 hlt
    have hW := eW_le hg.2.1 a hlt
    have hN := ptN_lt hg.2.1 hs P hv
    have hE := ptE_lt hg.2.1 hs P hv
    have hT8 := hok.2.1
    by_cases q1 : eF g e = ptE g s P
    · skip
      by_cases q2 : (ptN g s P).testBit (eT g e) = true
      · skip
        have bb : (nI (ptN g s P) >>> (nI (eT g e) &&& 31)) &&& 1 = 1 := by rw [nb_bit (by omega) (by omega), if_pos q2]
        refine rn_iload 30 dX7_walk_28 rfl rfl ?_
        refine rn_aload_n 31 dX7_walk_30 rfl rfl rfl ?_
        refine rn_get 34 (.ref 1) dX7_walk_31 fl_X7_44 rfl rfl rfl rfl ?_
        refine rn_get 37 (.int (mu 1 1)) dX7_walk_34 fl_X7_75 rfl rfl rfl rfl ?_
        refine rn_icmp_ge 134 40 dX7_walk_37 (by decide) rfl (fun c37 => absurd c37 (by rw [hg.2.2.1]; exact nI_ge hlt (by omega))) (fun _ => ?_)
        refine rn_aload_n 41 dX7_walk_40 rfl rfl rfl ?_
        refine rn_get 44 (.ref 1) dX7_walk_41 fl_X7_44 rfl rfl rfl rfl ?_
        refine rn_iload 46 dX7_walk_44 rfl rfl ?_
        refine rn_cvp mX2_to [.int (nI e)] [] 49 (.int (nI (eT g e))) dX7_walk_46 cv_X7_78 rfl rfl rfl (by simp [Value.category]) rfl (c_to dd h hg hlt) ?_
        refine rn_istore 51 [some (.ref 15), some (.int (nI (ptE g s P))), some (.int (nI (ptN g s P))), some (.int (nI (ptL g a P))), some (.int (nI P.length)), some (.int (nI e)), some (.int (nI (eT g e)))] dX7_walk_49 rfl (Nat.le_of_ble_eq_true rfl) rfl ?_
        refine rn_aload_n 52 dX7_walk_51 rfl rfl rfl ?_
        refine rn_get 55 (.ref 1) dX7_walk_52 fl_X7_44 rfl rfl rfl rfl ?_
        refine rn_iload 57 dX7_walk_55 rfl rfl ?_
        refine rn_cvp mX2_from [.int (nI e)] [] 60 (.int (nI (eF g e))) dX7_walk_57 cv_X7_82 rfl rfl rfl (by simp [Value.category]) rfl (c_from dd h hg hlt) ?_
        refine rn_iload_n 61 dX7_walk_60 rfl rfl rfl ?_
        refine rn_icmp_ne 128 64 dX7_walk_61 (by decide) rfl (fun c61 => absurd (congrArg nI q1) c61) (fun _ => ?_)
        refine rn_iload_n 65 dX7_walk_64 rfl rfl rfl ?_
        refine rn_iload 67 dX7_walk_65 rfl rfl ?_
        refine rn_ishr 68 dX7_walk_67 rfl ?_
        refine rn_iconst (v := 1) 69 dX7_walk_68 (by decide) rfl ?_
        refine rn_iand 70 dX7_walk_69 rfl ?_
        rw [bb]
        refine rn_if_ne 128 73 dX7_walk_70 (by decide) rfl (fun _ => ?_) (fun c70 => absurd c70 (by decide))
        refine rn_iinc (v := (nI (e + 1))) 131 [some (.ref 15), some (.int (nI (ptE g s P))), some (.int (nI (ptN g s P))), some (.int (nI (ptL g a P))), some (.int (nI P.length)), some (.int (nI (e + 1))), some (.int (nI (eT g e)))] dX7_walk_128 rfl (nI_1 _) rfl rfl ?_
        refine rn_goto 28 dX7_walk_131 (by decide) ?_
        refine rn_drop 6 [some (.ref 15), some (.int (nI (ptE g s P))), some (.int (nI (ptN g s P))), some (.int (nI (ptL g a P))), some (.int (nI P.length)), some (.int (nI (e + 1))), none] rfl ?_
        have em : ptG g a s t lim (ptS g a s rc P (k + 1) e) = ptG g a s t lim (ptS g a s rc P k (e + 1)) := by rw [show ptS g a s rc P (k + 1) e = ptS g a s rc P k (e + 1) from if_neg (fun z => z.2.2 q2)]
        rw [em]
        exact ih (e + 1) mu h (by omega) hc hm h9 hf
      · skip
        have bb : (nI (ptN g s P) >>> (nI (eT g e) &&& 31)) &&& 1 = 0 := by rw [nb_bit (by omega) (by omega), if_neg q2]
        by_cases q3 : eW g a e ≤ lim - ptL g a P
        · skip
          have hcan : ptC g a s P e := ⟨q1, by omega, q2⟩
          have em : ptG g a s t lim (ptS g a s rc P (k + 1) e) = ptG g a s t lim (rc (e :: P)) ++ ptG g a s t lim (ptS g a s rc P k (e + 1)) := by rw [show ptS g a s rc P (k + 1) e = rc (e :: P) ++ ptS g a s rc P k (e + 1) from if_pos hcan, ptG_app]
          rw [em]
          have hc1 := CWx_of hc (FW_17 mu P.length (nI e))
          refine rn_iload 30 dX7_walk_28 rfl rfl ?_
          refine rn_aload_n 31 dX7_walk_30 rfl rfl rfl ?_
          refine rn_get 34 (.ref 1) dX7_walk_31 fl_X7_44 rfl rfl rfl rfl ?_
          refine rn_get 37 (.int (mu 1 1)) dX7_walk_34 fl_X7_75 rfl rfl rfl rfl ?_
          refine rn_icmp_ge 134 40 dX7_walk_37 (by decide) rfl (fun c37 => absurd c37 (by rw [hg.2.2.1]; exact nI_ge hlt (by omega))) (fun _ => ?_)
          refine rn_aload_n 41 dX7_walk_40 rfl rfl rfl ?_
          refine rn_get 44 (.ref 1) dX7_walk_41 fl_X7_44 rfl rfl rfl rfl ?_
          refine rn_iload 46 dX7_walk_44 rfl rfl ?_
          refine rn_cvp mX2_to [.int (nI e)] [] 49 (.int (nI (eT g e))) dX7_walk_46 cv_X7_78 rfl rfl rfl (by simp [Value.category]) rfl (c_to dd h hg hlt) ?_
          refine rn_istore 51 [some (.ref 15), some (.int (nI (ptE g s P))), some (.int (nI (ptN g s P))), some (.int (nI (ptL g a P))), some (.int (nI P.length)), some (.int (nI e)), some (.int (nI (eT g e)))] dX7_walk_49 rfl (Nat.le_of_ble_eq_true rfl) rfl ?_
          refine rn_aload_n 52 dX7_walk_51 rfl rfl rfl ?_
          refine rn_get 55 (.ref 1) dX7_walk_52 fl_X7_44 rfl rfl rfl rfl ?_
          refine rn_iload 57 dX7_walk_55 rfl rfl ?_
          refine rn_cvp mX2_from [.int (nI e)] [] 60 (.int (nI (eF g e))) dX7_walk_57 cv_X7_82 rfl rfl rfl (by simp [Value.category]) rfl (c_from dd h hg hlt) ?_
          refine rn_iload_n 61 dX7_walk_60 rfl rfl rfl ?_
          refine rn_icmp_ne 128 64 dX7_walk_61 (by decide) rfl (fun c61 => absurd (congrArg nI q1) c61) (fun _ => ?_)
          refine rn_iload_n 65 dX7_walk_64 rfl rfl rfl ?_
          refine rn_iload 67 dX7_walk_65 rfl rfl ?_
          refine rn_ishr 68 dX7_walk_67 rfl ?_
          refine rn_iconst (v := 1) 69 dX7_walk_68 (by decide) rfl ?_
          refine rn_iand 70 dX7_walk_69 rfl ?_
          rw [bb]
          refine rn_if_ne 128 73 dX7_walk_70 (by decide) rfl (fun c70 => absurd (rfl) c70) (fun _ => ?_)
          refine rn_aload_n 74 dX7_walk_73 rfl rfl rfl ?_
          refine rn_get 77 (.ref 16) dX7_walk_74 fl_X7_9 rfl rfl rfl rfl ?_
          refine rn_iload 79 dX7_walk_77 rfl rfl ?_
          refine rn_iald 80 (nI (eW g a e)) dX7_walk_79 rfl (vp_in_nI (by omega) (by omega)) (by rw [nI_clamp (by omega)]; exact hL e hlt) rfl ?_
          refine rn_aload_n 81 dX7_walk_80 rfl rfl rfl ?_
          refine rn_get 84 (.int (mu 15 8)) dX7_walk_81 fl_X7_34 rfl rfl rfl rfl ?_
          refine rn_iload_n 85 dX7_walk_84 rfl rfl rfl ?_
          refine rn_isub 86 dX7_walk_85 rfl ?_
          rw [w8, pk_sub hlim]
          refine rn_icmp_gt 128 89 dX7_walk_86 (by decide) rfl (fun c86 => absurd c86 (nI_nlt (by omega) (by omega))) (fun _ => ?_)
          refine rn_aload_n 90 dX7_walk_89 rfl rfl rfl ?_
          refine rn_get 93 (.ref 17) dX7_walk_90 fl_X7_15 rfl rfl rfl rfl ?_
          refine rn_iload 95 dX7_walk_93 rfl rfl ?_
          refine rn_iload 97 dX7_walk_95 rfl rfl ?_
          refine rn_iast 98 dX7_walk_97 rfl (vp_in_nI (by omega) (by omega)) rfl ?_
          rw [nI_clamp (by omega)]
          refine rn_aload_n 99 dX7_walk_98 rfl rfl rfl ?_
          refine rn_iload 101 dX7_walk_99 rfl rfl ?_
          refine rn_iload_n 102 dX7_walk_101 rfl rfl rfl ?_
          refine rn_iconst (v := 1) 103 dX7_walk_102 (by decide) rfl ?_
          refine rn_iload 105 dX7_walk_103 rfl rfl ?_
          refine rn_ishl 106 dX7_walk_105 rfl ?_
          refine rn_ior 107 dX7_walk_106 rfl ?_
          rw [nb_1 (by omega), nb_or]
          refine rn_iload_n 108 dX7_walk_107 rfl rfl rfl ?_
          refine rn_aload_n 109 dX7_walk_108 rfl rfl rfl ?_
          refine rn_get 112 (.ref 16) dX7_walk_109 fl_X7_9 rfl rfl rfl rfl ?_
          refine rn_iload 114 dX7_walk_112 rfl rfl ?_
          refine rn_iald 115 (nI (eW g a e)) dX7_walk_114 rfl (vp_in_nI (by omega) (by omega)) (by rw [nI_clamp (by omega)]; exact hL e hlt) rfl ?_
          refine rn_iadd 116 dX7_walk_115 rfl ?_
          rw [nI_add]
          refine rn_iload 118 dX7_walk_116 rfl rfl ?_
          refine rn_iconst (v := 1) 119 dX7_walk_118 (by decide) rfl ?_
          refine rn_iadd 120 dX7_walk_119 rfl ?_
          rw [nI_1]
          refine rn_callV mX7_walk [.int (nI (eT g e)), .int (nI (ptN g s P ||| 2 ^ eT g e)), .int (nI (ptL g a P + eW g a e)), .int (nI (P.length + 1))] [] dX7_walk_120 cv_X7_67 rfl rfl rfl (by simp [Value.category]) (HR e (mu_s mu 17 P.length (nI e)) h hlt hcan (by omega) hc1 (by show ptM (e :: P) (upd (mu 17) P.length (nI e)); exact ptM_push hm) (by simp [mu_s]; exact h9)) (fun r1 m1 h1 qq _ => ?_)
          obtain ⟨b1, f1⟩ := qq
          have f3 := FW_tr hf (FW_tr (FW_17 mu P.length (nI e)) f1)
          cases hG : ptG g a s t lim (rc (e :: P)) with
          | nil =>
            rw [hG] at b1
            obtain ⟨e1, b2, b3⟩ := b1
            subst e1
            rw [List.nil_append]
            show rn_R _ mX7_walk _ 123 [some (.ref 15), some (.int (nI (ptE g s P))), some (.int (nI (ptN g s P))), some (.int (nI (ptL g a P))), some (.int (nI P.length)), some (.int (nI e)), some (.int (nI (eT g e)))] [.int 0] m1 h1 _
            refine rn_if_eq 128 126 dX7_walk_123 (by decide) rfl (fun _ => ?_) (fun c123 => absurd (by decide) c123)
            refine rn_iinc (v := (nI (e + 1))) 131 [some (.ref 15), some (.int (nI (ptE g s P))), some (.int (nI (ptN g s P))), some (.int (nI (ptL g a P))), some (.int (nI P.length)), some (.int (nI (e + 1))), some (.int (nI (eT g e)))] dX7_walk_128 rfl (nI_1 _) rfl rfl ?_
            refine rn_goto 28 dX7_walk_131 (by decide) ?_
            refine rn_drop 6 [some (.ref 15), some (.int (nI (ptE g s P))), some (.int (nI (ptN g s P))), some (.int (nI (ptL g a P))), some (.int (nI P.length)), some (.int (nI (e + 1))), none] rfl ?_
            exact ih (e + 1) m1 h1 (by omega) (CWx_of hc1 f1) b2.2 b3 f3
          | cons Q L2 =>
            rw [hG] at b1
            obtain ⟨e1, b2, b3, b4⟩ := b1
            subst e1
            show rn_R _ mX7_walk _ 123 [some (.ref 15), some (.int (nI (ptE g s P))), some (.int (nI (ptN g s P))), some (.int (nI (ptL g a P))), some (.int (nI P.length)), some (.int (nI e)), some (.int (nI (eT g e)))] [.int 1] m1 h1 _
            refine rn_if_eq 128 126 dX7_walk_123 (by decide) rfl (fun c123 => absurd c123 (by decide)) (fun _ => ?_)
            refine rn_iconst (v := 1) 127 dX7_walk_126 (by decide) rfl ?_
            exact rn_zret rfl dX7_walk_127 rfl (⟨⟨rfl, b2, b3, b4⟩, f3⟩)
        · skip
          refine rn_iload 30 dX7_walk_28 rfl rfl ?_
          refine rn_aload_n 31 dX7_walk_30 rfl rfl rfl ?_
          refine rn_get 34 (.ref 1) dX7_walk_31 fl_X7_44 rfl rfl rfl rfl ?_
          refine rn_get 37 (.int (mu 1 1)) dX7_walk_34 fl_X7_75 rfl rfl rfl rfl ?_
          refine rn_icmp_ge 134 40 dX7_walk_37 (by decide) rfl (fun c37 => absurd c37 (by rw [hg.2.2.1]; exact nI_ge hlt (by omega))) (fun _ => ?_)
          refine rn_aload_n 41 dX7_walk_40 rfl rfl rfl ?_
          refine rn_get 44 (.ref 1) dX7_walk_41 fl_X7_44 rfl rfl rfl rfl ?_
          refine rn_iload 46 dX7_walk_44 rfl rfl ?_
          refine rn_cvp mX2_to [.int (nI e)] [] 49 (.int (nI (eT g e))) dX7_walk_46 cv_X7_78 rfl rfl rfl (by simp [Value.category]) rfl (c_to dd h hg hlt) ?_
          refine rn_istore 51 [some (.ref 15), some (.int (nI (ptE g s P))), some (.int (nI (ptN g s P))), some (.int (nI (ptL g a P))), some (.int (nI P.length)), some (.int (nI e)), some (.int (nI (eT g e)))] dX7_walk_49 rfl (Nat.le_of_ble_eq_true rfl) rfl ?_
          refine rn_aload_n 52 dX7_walk_51 rfl rfl rfl ?_
          refine rn_get 55 (.ref 1) dX7_walk_52 fl_X7_44 rfl rfl rfl rfl ?_
          refine rn_iload 57 dX7_walk_55 rfl rfl ?_
          refine rn_cvp mX2_from [.int (nI e)] [] 60 (.int (nI (eF g e))) dX7_walk_57 cv_X7_82 rfl rfl rfl (by simp [Value.category]) rfl (c_from dd h hg hlt) ?_
          refine rn_iload_n 61 dX7_walk_60 rfl rfl rfl ?_
          refine rn_icmp_ne 128 64 dX7_walk_61 (by decide) rfl (fun c61 => absurd (congrArg nI q1) c61) (fun _ => ?_)
          refine rn_iload_n 65 dX7_walk_64 rfl rfl rfl ?_
          refine rn_iload 67 dX7_walk_65 rfl rfl ?_
          refine rn_ishr 68 dX7_walk_67 rfl ?_
          refine rn_iconst (v := 1) 69 dX7_walk_68 (by decide) rfl ?_
          refine rn_iand 70 dX7_walk_69 rfl ?_
          rw [bb]
          refine rn_if_ne 128 73 dX7_walk_70 (by decide) rfl (fun c70 => absurd (rfl) c70) (fun _ => ?_)
          refine rn_aload_n 74 dX7_walk_73 rfl rfl rfl ?_
          refine rn_get 77 (.ref 16) dX7_walk_74 fl_X7_9 rfl rfl rfl rfl ?_
          refine rn_iload 79 dX7_walk_77 rfl rfl ?_
          refine rn_iald 80 (nI (eW g a e)) dX7_walk_79 rfl (vp_in_nI (by omega) (by omega)) (by rw [nI_clamp (by omega)]; exact hL e hlt) rfl ?_
          refine rn_aload_n 81 dX7_walk_80 rfl rfl rfl ?_
          refine rn_get 84 (.int (mu 15 8)) dX7_walk_81 fl_X7_34 rfl rfl rfl rfl ?_
          refine rn_iload_n 85 dX7_walk_84 rfl rfl rfl ?_
          refine rn_isub 86 dX7_walk_85 rfl ?_
          rw [w8, pk_sub hlim]
          refine rn_icmp_gt 128 89 dX7_walk_86 (by decide) rfl (fun _ => ?_) (fun c86 => absurd (nI_lt (by omega) (by omega)) c86)
          refine rn_iinc (v := (nI (e + 1))) 131 [some (.ref 15), some (.int (nI (ptE g s P))), some (.int (nI (ptN g s P))), some (.int (nI (ptL g a P))), some (.int (nI P.length)), some (.int (nI (e + 1))), some (.int (nI (eT g e)))] dX7_walk_128 rfl (nI_1 _) rfl rfl ?_
          refine rn_goto 28 dX7_walk_131 (by decide) ?_
          refine rn_drop 6 [some (.ref 15), some (.int (nI (ptE g s P))), some (.int (nI (ptN g s P))), some (.int (nI (ptL g a P))), some (.int (nI P.length)), some (.int (nI (e + 1))), none] rfl ?_
          have em : ptG g a s t lim (ptS g a s rc P (k + 1) e) = ptG g a s t lim (ptS g a s rc P k (e + 1)) := by
            by_cases z : ptC g a s P e
            · rw [show ptS g a s rc P (k + 1) e = rc (e :: P) ++ ptS g a s rc P k (e + 1) from if_pos z, ptG_app, hrc (e :: P) ⟨hv, hlt, z⟩ (by show lim < ptL g a P + eW g a e; omega), List.nil_append]
            · rw [show ptS g a s rc P (k + 1) e = ptS g a s rc P k (e + 1) from if_neg z]
          rw [em]
          exact ih (e + 1) mu h (by omega) hc hm h9 hf
    · skip
      refine rn_iload 30 dX7_walk_28 rfl rfl ?_
      refine rn_aload_n 31 dX7_walk_30 rfl rfl rfl ?_
      refine rn_get 34 (.ref 1) dX7_walk_31 fl_X7_44 rfl rfl rfl rfl ?_
      refine rn_get 37 (.int (mu 1 1)) dX7_walk_34 fl_X7_75 rfl rfl rfl rfl ?_
      refine rn_icmp_ge 134 40 dX7_walk_37 (by decide) rfl (fun c37 => absurd c37 (by rw [hg.2.2.1]; exact nI_ge hlt (by omega))) (fun _ => ?_)
      refine rn_aload_n 41 dX7_walk_40 rfl rfl rfl ?_
      refine rn_get 44 (.ref 1) dX7_walk_41 fl_X7_44 rfl rfl rfl rfl ?_
      refine rn_iload 46 dX7_walk_44 rfl rfl ?_
      refine rn_cvp mX2_to [.int (nI e)] [] 49 (.int (nI (eT g e))) dX7_walk_46 cv_X7_78 rfl rfl rfl (by simp [Value.category]) rfl (c_to dd h hg hlt) ?_
      refine rn_istore 51 [some (.ref 15), some (.int (nI (ptE g s P))), some (.int (nI (ptN g s P))), some (.int (nI (ptL g a P))), some (.int (nI P.length)), some (.int (nI e)), some (.int (nI (eT g e)))] dX7_walk_49 rfl (Nat.le_of_ble_eq_true rfl) rfl ?_
      refine rn_aload_n 52 dX7_walk_51 rfl rfl rfl ?_
      refine rn_get 55 (.ref 1) dX7_walk_52 fl_X7_44 rfl rfl rfl rfl ?_
      refine rn_iload 57 dX7_walk_55 rfl rfl ?_
      refine rn_cvp mX2_from [.int (nI e)] [] 60 (.int (nI (eF g e))) dX7_walk_57 cv_X7_82 rfl rfl rfl (by simp [Value.category]) rfl (c_from dd h hg hlt) ?_
      refine rn_iload_n 61 dX7_walk_60 rfl rfl rfl ?_
      refine rn_icmp_ne 128 64 dX7_walk_61 (by decide) rfl (fun _ => ?_) (fun c61 => absurd c61 (fun z => q1 ((nI_eq (by omega) (by omega)).mp z)))
      refine rn_iinc (v := (nI (e + 1))) 131 [some (.ref 15), some (.int (nI (ptE g s P))), some (.int (nI (ptN g s P))), some (.int (nI (ptL g a P))), some (.int (nI P.length)), some (.int (nI (e + 1))), some (.int (nI (eT g e)))] dX7_walk_128 rfl (nI_1 _) rfl rfl ?_
      refine rn_goto 28 dX7_walk_131 (by decide) ?_
      refine rn_drop 6 [some (.ref 15), some (.int (nI (ptE g s P))), some (.int (nI (ptN g s P))), some (.int (nI (ptL g a P))), some (.int (nI P.length)), some (.int (nI (e + 1))), none] rfl ?_
      have em : ptG g a s t lim (ptS g a s rc P (k + 1) e) = ptG g a s t lim (ptS g a s rc P k (e + 1)) := by rw [show ptS g a s rc P (k + 1) e = ptS g a s rc P k (e + 1) from if_neg (fun z => q1 z.1)]
      rw [em]
      exact ih (e + 1) mu h (by omega) hc hm h9 hf

set_option maxRecDepth 100000 in
set_option maxHeartbeats 2000000 in
theorem c_walkF (d : Nat) {g : List Ed} {a s t lim A : Nat} (hs : s < 8) (ht : t < 8) (hlim2 : lim ≤ 9998) : ∀ (f : Nat) (P : List Nat) (mu : Nat → Nat → Int32) (h : Int64), P.length + f = 8 → ptV g a s P → ptL g a P ≤ lim → CWx g a t lim 0 true mu → ptM P (mu 17) → mu 15 9 = nI A → gd_G mX7_walk (d + f + 3) [.ref 15, .int (nI (ptE g s P)), .int (nI (ptN g s P)), .int (nI (ptL g a P)), .int (nI P.length)] mu h (PWF (ptG g a s t lim (ptA g a s t f P)) P A mu) := by
  intro f
  induction f with
  | zero =>
    intro P mu h hPf hv hlim hc hm h9
    have := ptV_len hc.1.2.1 hs hv
    omega
  | succ f ih =>
    intro P mu h hPf hv hlim hc hm h9
    refine gd_of rfl (Nat.le_of_ble_eq_true rfl) ?_
    show rn_R none mX7_walk (d + f + 4) 0 [some (.ref 15), some (.int (nI (ptE g s P))), some (.int (nI (ptN g s P))), some (.int (nI (ptL g a P))), some (.int (nI P.length)), none, none] [] mu h (PWF (ptG g a s t lim (ptA g a s t (f + 1) P)) P A mu)
    obtain ⟨hg, hL, w6, w7, w8, w10⟩ := id hc
    have h16 := hg.1
    have hp := pw_le hg.1
    have hl7 := ptV_len hg.2.1 hs hv
    have hE := ptE_lt hg.2.1 hs P hv
    by_cases q1 : ptE g s P = t
    · skip
      rw [ptG_end q1 hlim]
      refine rn_iload_n 1 dX7_walk_0 rfl rfl rfl ?_
      refine rn_aload_n 2 dX7_walk_1 rfl rfl rfl ?_
      refine rn_get 5 (.int (mu 15 7)) dX7_walk_2 fl_X7_31 rfl rfl rfl rfl ?_
      refine rn_icmp_ne 16 8 dX7_walk_5 (by decide) rfl (fun c5 => absurd (by rw [w7, q1]) c5) (fun _ => ?_)
      refine rn_aload_n 9 dX7_walk_8 rfl rfl rfl ?_
      refine rn_iload_n 10 dX7_walk_9 rfl rfl rfl ?_
      refine rn_iload 12 dX7_walk_10 rfl rfl ?_
      refine rn_cvm mX7_arrive [.int (nI (ptL g a P)), .int (nI P.length)] [] 15 (some (.int 1)) (mu_s (mu_s mu 15 9 (mu 15 9 + 1)) 15 3 (nI P.length)) dX7_walk_12 cv_X7_71 rfl rfl rfl (by simp [Value.category]) rfl (c_arrF (d + f + 3) h w6 w10) ?_
      exact rn_zret rfl dX7_walk_15 rfl (⟨⟨rfl, by simp [mu_s]; exact hm, by simp [mu_s, upd], by simp [mu_s, upd]; rw [h9, nI_1]⟩, fun c h1 h2 h3 => by simp [mu_s, h1], fun j h1 h2 h3 => by simp [mu_s, upd, h1, h3]⟩)
    · skip
      rw [ptG_on q1]
      refine rn_iload_n 1 dX7_walk_0 rfl rfl rfl ?_
      refine rn_aload_n 2 dX7_walk_1 rfl rfl rfl ?_
      refine rn_get 5 (.int (mu 15 7)) dX7_walk_2 fl_X7_31 rfl rfl rfl rfl ?_
      refine rn_icmp_ne 16 8 dX7_walk_5 (by decide) rfl (fun _ => ?_) (fun c5 => absurd c5 (by rw [w7]; exact fun z => q1 ((nI_eq (by omega) (by omega)).mp z)))
      refine rn_iload 18 dX7_walk_16 rfl rfl ?_
      refine rn_bipush (v := 8) 20 dX7_walk_18 (by decide) rfl ?_
      refine rn_icmp_lt 25 23 dX7_walk_20 (by decide) rfl (fun _ => ?_) (fun c20 => absurd (nI_lt (b := 8) (by omega) (by omega)) c20)
      refine rn_iconst (v := 0) 26 dX7_walk_25 (by decide) rfl ?_
      refine rn_istore 28 [some (.ref 15), some (.int (nI (ptE g s P))), some (.int (nI (ptN g s P))), some (.int (nI (ptL g a P))), some (.int (nI P.length)), some (.int 0), none] dX7_walk_26 rfl (Nat.le_of_ble_eq_true rfl) rfl ?_
      exact lp_walkF (d + f + 2) (P := P) (rc := ptA g a s t f) hs hv hlim hlim2 hl7 (fun Q h1 h2 => ptG_long h1 h2) (fun e2 mu2 h2 a1 a2 a3 a4 a5 a6 => ih (e2 :: P) mu2 h2 (by show P.length + 1 + f = 8; omega) ⟨hv, a1, a2⟩ a3 a4 a5 a6) (mu0 := mu) g.length 0 mu h (by omega) hc hm h9 (FW_rfl mu)
