/-! BOTH SIDES: first -/
def fsS (g : List Ed) (a : Nat) (o : Option (List Nat)) (Q : List Nat) : Option (List Nat) := match o with
  | none => some Q
  | some B => if ptL g a Q < ptL g a B then some Q else some B
theorem fsS_stay {g : List Ed} {a : Nat} : ∀ (L : List (List Nat)) (B : List Nat), (∀ Q ∈ L, ptL g a B ≤ ptL g a Q) → L.foldl (fsS g a) (some B) = some B := by
  intro L
  induction L with
  | nil => intro B _; rfl
  | cons Q L ih =>
    intro B h
    have e : fsS g a (some B) Q = some B := if_neg (by have := h Q List.mem_cons_self; omega)
    show L.foldl (fsS g a) (fsS g a (some B) Q) = _
    rw [e]
    exact ih B (fun R hR => h R (List.mem_cons_of_mem _ hR))
theorem fsS_head {g : List Ed} {a m : Nat} : ∀ (L : List (List Nat)) (o : Option (List Nat)), (∀ Q ∈ L, m ≤ ptL g a Q) → (∀ B, o = some B → m < ptL g a B) → ∀ Q T, L.filter (fun Q => decide (ptL g a Q ≤ m)) = Q :: T → L.foldl (fsS g a) o = some Q := by
  intro L
  induction L with
  | nil => intro o _ _ Q T h; cases h
  | cons X L ih =>
    intro o hl ho Q T h
    show L.foldl (fsS g a) (fsS g a o X) = some Q
    by_cases q : ptL g a X ≤ m
    · rw [List.filter_cons_of_pos (by simpa using q)] at h
      have e1 : X = Q := (List.cons.inj h).1
      subst e1
      have e2 : fsS g a o X = some X := by
        cases o with
        | none => rfl
        | some B => exact if_pos (by have := ho B rfl; omega)
      rw [e2]
      exact fsS_stay L X (fun R hR => by have := hl R (List.mem_cons_of_mem _ hR); omega)
    · rw [List.filter_cons_of_neg (by simpa using q)] at h
      refine ih _ (fun R hR => hl R (List.mem_cons_of_mem _ hR)) (fun B hB => ?_) Q T h
      cases o with
      | none => cases hB; omega
      | some C =>
        have h2 : (if ptL g a X < ptL g a C then some X else some C) = some B := hB
        split at h2
        · cases h2; omega
        · cases h2; exact ho _ rfl
theorem fsS_P {g : List Ed} {a s t : Nat} (ho : ∀ x ∈ g, e_ok x) (hs : s < 8) (ht : t < 8) : (ptP g a s t).foldl (fsS g a) none = hdP g a s t := by
  have bx := xD_le (S := a) (s := s) (rep := 0) ho ht
  unfold hdP
  by_cases q : xD g a s t 0 = 9999
  · rw [if_pos q]
    cases hL : ptP g a s t with
    | nil => rfl
    | cons Q L =>
      have := ptP_low (a := a) ho hs ht (show Q ∈ ptP g a s t by rw [hL]; exact List.mem_cons_self)
      omega
  · rw [if_neg q]
    obtain ⟨Q0, hQ0, hQ1⟩ := ptP_att ho hs ht (show xD g a s t 0 < 9999 by omega)
    cases hG : (ptP g a s t).filter (fun Q => decide (ptL g a Q ≤ xD g a s t 0)) with
    | nil =>
      have : Q0 ∈ (ptP g a s t).filter (fun Q => decide (ptL g a Q ≤ xD g a s t 0)) := List.mem_filter.mpr ⟨hQ0, decide_eq_true (by omega)⟩
      rw [hG] at this
      cases this
    | cons Q T => exact fsS_head _ none (fun R hR => (ptP_low ho hs ht hR).1) (fun B hB => by cases hB) Q T hG
theorem ptM_cg {f f' : Nat → Int32} : ∀ Q : List Nat, ptM Q f → (∀ k, k < Q.length → f' k = f k) → ptM Q f' := by
  intro Q
  induction Q with
  | nil => intro _ _; trivial
  | cons e P ih => intro h hk; exact ⟨by rw [hk P.length (Nat.lt_succ_self _)]; exact h.1, ih h.2 (fun k h2 => hk k (Nat.lt_succ_of_lt h2))⟩
def fl1 (g : List Ed) (a : Nat) (o : Option (List Nat)) : Int32 := match o with
  | none => 9999
  | some B => nI (ptL g a B)
def fl2 (o : Option (List Nat)) : Int32 := match o with
  | none => -1
  | some B => nI B.length
def flM (o : Option (List Nat)) (f : Nat → Int32) : Prop := ∀ B, o = some B → ptM B f ∧ B.length ≤ 7

set_option maxRecDepth 100000 in
set_option maxHeartbeats 2000000 in
theorem lp_cpy (d : Nat) {i1 i2 i3 i4 i5 : Int32} {n : Nat} (hn : n ≤ 7) {mu0 : Nat → Nat → Int32} {h : Int64} {Q : rn_Q} (kk : ∀ mu2 : Nat → Nat → Int32, (∀ j, j < n → mu2 30 j = mu2 28 j) → (∀ c, c ≠ 30 → mu2 c = mu0 c) → rn_R none mX9_first d 96 [some (.ref 22), some (.int i1), some (.int i2), some (.int i3), some (.int i4), some (.int i5), some (.int 1), none] [] mu2 h Q) : ∀ (k e : Nat) (mu : Nat → Nat → Int32), e + k = n → (mu 22 12 = nI n) → (∀ j, j < e → mu 30 j = mu 28 j) → (∀ c, c ≠ 30 → mu c = mu0 c) → rn_R none mX9_first d 67 [some (.ref 22), some (.int i1), some (.int i2), some (.int i3), some (.int i4), some (.int i5), some (.int 1), some (.int (nI e))] [] mu h Q := by
  intro k
  induction k with
  | zero =>
    intro e mu hek h12 hc hf
    refine rn_iload 69 dX9_first_67 rfl rfl ?_
    refine rn_aload_n 70 dX9_first_69 rfl rfl rfl ?_
    refine rn_get 73 (.int (mu 22 12)) dX9_first_70 fl_X9_138 rfl rfl rfl rfl ?_
    refine rn_icmp_ge 96 76 dX9_first_73 (by decide) rfl (fun _ => ?_) (fun c73 => absurd (by rw [h12]; exact nI_le (by omega) (by omega)) c73)
    refine rn_drop 7 [some (.ref 22), some (.int i1), some (.int i2), some (.int i3), some (.int i4), some (.int i5), some (.int 1), none] rfl ?_
    exact kk mu (fun j hj => hc j (by omega)) hf
  | succ k ih =>
    intro e mu hek h12 hc hf
    have hlt : e < n := by omega
    refine rn_iload 69 dX9_first_67 rfl rfl ?_
    refine rn_aload_n 70 dX9_first_69 rfl rfl rfl ?_
    refine rn_get 73 (.int (mu 22 12)) dX9_first_70 fl_X9_138 rfl rfl rfl rfl ?_
    refine rn_icmp_ge 96 76 dX9_first_73 (by decide) rfl (fun c73 => absurd c73 (by rw [h12]; exact nI_ge hlt (by omega))) (fun _ => ?_)
    refine rn_aload_n 77 dX9_first_76 rfl rfl rfl ?_
    refine rn_get 80 (.ref 30) dX9_first_77 fl_X9_35 rfl rfl rfl rfl ?_
    refine rn_iload 82 dX9_first_80 rfl rfl ?_
    refine rn_aload_n 83 dX9_first_82 rfl rfl rfl ?_
    refine rn_get 86 (.ref 28) dX9_first_83 fl_X9_29 rfl rfl rfl rfl ?_
    refine rn_iload 88 dX9_first_86 rfl rfl ?_
    refine rn_iald 89 (mu 28 e) dX9_first_88 rfl (vp_in_nI (by omega) (by omega)) (by rw [nI_clamp (by omega)]) rfl ?_
    refine rn_iast 90 dX9_first_89 rfl (vp_in_nI (by omega) (by omega)) rfl ?_
    rw [nI_clamp (by omega)]
    refine rn_iinc (v := (nI (e + 1))) 93 [some (.ref 22), some (.int i1), some (.int i2), some (.int i3), some (.int i4), some (.int i5), some (.int 1), some (.int (nI (e + 1)))] dX9_first_90 rfl (nI_1 _) rfl rfl ?_
    refine rn_goto 67 dX9_first_93 (by decide) ?_
    exact ih (e + 1) (mu_s mu 30 e (mu 28 e)) (by omega) (by simp [mu_s]; exact h12) (fun j hj => by simp [mu_s]; by_cases z : j = e; (subst z; rw [pk_us]); (rw [pk_un z]; exact hc j (by omega))) (fun c h1 => by simp [mu_s, h1]; exact hf c h1)

set_option maxRecDepth 100000 in
set_option maxHeartbeats 2000000 in
theorem tl_first (d : Nat) {g : List Ed} {a s t : Nat} {i : Int32} (hi : ¬ i < -1) {o : Option (List Nat)} {mu mu0 : Nat → Nat → Int32} {h : Int64} (hM : flM o (mu 30)) (hfp : FP mu0 mu) : rn_R none mX9_first d 108 [some (.ref 22), some (.int (nI s)), some (.int (nI t)), some (.int i), some (.int (fl1 g a (o))), some (.int (fl2 (o))), none, none] [] mu h (fun r mu' _ => r = some (.int (frA o i)) ∧ FP mu0 mu') := by
  by_cases qi : i = -1
  · skip
    refine rn_iload_n 109 dX9_first_108 rfl rfl rfl ?_
    refine rn_iconst (v := (-1)) 110 dX9_first_109 (by decide) rfl ?_
    refine rn_icmp_ne 116 113 dX9_first_110 (by decide) rfl (fun c110 => absurd (qi) c110) (fun _ => ?_)
    refine rn_iload 115 dX9_first_113 rfl rfl ?_
    exact rn_iret rfl dX9_first_115 (⟨by rw [qi]; cases o with | none => rfl | some B => rfl, hfp⟩)
  · skip
    have hi0 : ¬ i < 0 := fun z => hi_n z qi hi
    cases o with
    | none =>
      refine rn_iload_n 109 dX9_first_108 rfl rfl rfl ?_
      refine rn_iconst (v := (-1)) 110 dX9_first_109 (by decide) rfl ?_
      refine rn_icmp_ne 116 113 dX9_first_110 (by decide) rfl (fun _ => ?_) (fun c110 => absurd c110 (qi))
      refine rn_iload_n 117 dX9_first_116 rfl rfl rfl ?_
      refine rn_iload 119 dX9_first_117 rfl rfl ?_
      refine rn_icmp_ge 131 122 dX9_first_119 (by decide) rfl (fun _ => ?_) (fun c119 => absurd (Int32.not_lt.mp hi) c119)
      refine rn_iconst (v := (-1)) 132 dX9_first_131 (by decide) rfl ?_
      exact rn_iret rfl dX9_first_132 (⟨rfl, hfp⟩)
    | some B =>
      obtain ⟨m1, m2⟩ := hM B rfl
      obtain ⟨k, hk, rfl⟩ := nI_of hi0
      show rn_R _ mX9_first _ 108 [some (.ref 22), some (.int (nI s)), some (.int (nI t)), some (.int (nI k)), some (.int (fl1 g a (some B))), some (.int (nI B.length)), none, none] [] mu h _
      by_cases q : k < B.length
      · skip
        refine rn_iload_n 109 dX9_first_108 rfl rfl rfl ?_
        refine rn_iconst (v := (-1)) 110 dX9_first_109 (by decide) rfl ?_
        refine rn_icmp_ne 116 113 dX9_first_110 (by decide) rfl (fun _ => ?_) (fun c110 => absurd c110 (qi))
        refine rn_iload_n 117 dX9_first_116 rfl rfl rfl ?_
        refine rn_iload 119 dX9_first_117 rfl rfl ?_
        refine rn_icmp_ge 131 122 dX9_first_119 (by decide) rfl (fun c119 => absurd c119 (nI_ge q (by omega))) (fun _ => ?_)
        refine rn_aload_n 123 dX9_first_122 rfl rfl rfl ?_
        refine rn_get 126 (.ref 30) dX9_first_123 fl_X9_35 rfl rfl rfl rfl ?_
        refine rn_iload_n 127 dX9_first_126 rfl rfl rfl ?_
        refine rn_iald 128 (nI (B.reverse.getD k 0)) dX9_first_127 rfl (vp_in_nI (by omega) (by omega)) (by rw [nI_clamp (by omega)]; exact ptM_at B m1 k q) rfl ?_
        refine rn_goto 132 dX9_first_128 (by decide) ?_
        exact rn_iret rfl dX9_first_132 (⟨by unfold frA; simp only; rw [if_neg qi, if_pos (nI_lt q (by omega)), nI_clamp hk], hfp⟩)
      · skip
        refine rn_iload_n 109 dX9_first_108 rfl rfl rfl ?_
        refine rn_iconst (v := (-1)) 110 dX9_first_109 (by decide) rfl ?_
        refine rn_icmp_ne 116 113 dX9_first_110 (by decide) rfl (fun _ => ?_) (fun c110 => absurd c110 (qi))
        refine rn_iload_n 117 dX9_first_116 rfl rfl rfl ?_
        refine rn_iload 119 dX9_first_117 rfl rfl ?_
        refine rn_icmp_ge 131 122 dX9_first_119 (by decide) rfl (fun _ => ?_) (fun c119 => absurd (nI_le (by omega) (by omega)) c119)
        refine rn_iconst (v := (-1)) 132 dX9_first_131 (by decide) rfl ?_
        exact rn_iret rfl dX9_first_132 (⟨by unfold frA; simp only; rw [if_neg qi, if_neg (nI_nlt (by omega) (by omega))], hfp⟩)

set_option maxRecDepth 100000 in
set_option maxHeartbeats 2000000 in
theorem lp_mfir (d : Nat) {g : List Ed} {a s t : Nat} (hs : s < 8) (ht : t < 8) {i : Int32} (hi : ¬ i < -1) {mu0 : Nat → Nat → Int32} : ∀ (rest : List (List Nat)) (q : List Nat) (o : Option (List Nat)) (mu : Nat → Nat → Int32) (h : Int64), SPx g a s q mu → ptV g a s q → ptE g s q = t → ptF g s t (ptX g a s t q) = rest → mg g mu → ma g a mu → FP mu0 mu → flM o (mu 30) → (∀ B, o = some B → ptV g a s B) → rn_R none mX9_first (d + 5) 38 [some (.ref 22), some (.int (nI s)), some (.int (nI t)), some (.int i), some (.int (fl1 g a (o))), some (.int (fl2 (o))), some (.int 1), none] [] mu h (fun r mu' _ => r = some (.int (frA ((q :: rest).foldl (fsS g a) o) i)) ∧ FP mu0 mu') := by
  intro rest
  induction rest with
  | nil =>
    intro q o mu h hP hv he hr hg ha hfp hM hoV
    obtain ⟨p1, p2, p3, p4⟩ := id hP
    have h9 := ptL_9 hg.2.1 hs hv
    have hl7 := ptV_len hg.2.1 hs hv
    cases o with
    | none =>
      have ef : (q :: ([] : List (List Nat))).foldl (fsS g a) none = ([] : List (List Nat)).foldl (fsS g a) (some q) := rfl
      rw [ef]
      show rn_R _ mX9_first _ 38 [some (.ref 22), some (.int (nI s)), some (.int (nI t)), some (.int i), some (.int 9999), some (.int (fl2 (none))), some (.int 1), none] [] mu h _
      refine rn_iload 40 dX9_first_38 rfl rfl ?_
      refine rn_if_eq 108 43 dX9_first_40 (by decide) rfl (fun c40 => absurd c40 (by decide)) (fun _ => ?_)
      refine rn_aload_n 44 dX9_first_43 rfl rfl rfl ?_
      refine rn_get 47 (.int (mu 22 13)) dX9_first_44 fl_X9_141 rfl rfl rfl rfl ?_
      refine rn_iload 49 dX9_first_47 rfl rfl ?_
      refine rn_icmp_ge 96 52 dX9_first_49 (by decide) rfl (fun c49 => absurd c49 (by rw [p2]; exact nI_ge (b := 9999) (by omega) (by omega))) (fun _ => ?_)
      refine rn_aload_n 53 dX9_first_52 rfl rfl rfl ?_
      refine rn_get 56 (.int (mu 22 13)) dX9_first_53 fl_X9_141 rfl rfl rfl rfl ?_
      rw [p2]
      refine rn_istore 58 [some (.ref 22), some (.int (nI s)), some (.int (nI t)), some (.int i), some (.int (nI (ptL g a q))), some (.int (fl2 (none))), some (.int 1), none] dX9_first_56 rfl (Nat.le_of_ble_eq_true rfl) rfl ?_
      refine rn_aload_n 59 dX9_first_58 rfl rfl rfl ?_
      refine rn_get 62 (.int (mu 22 12)) dX9_first_59 fl_X9_138 rfl rfl rfl rfl ?_
      rw [p1]
      refine rn_istore 64 [some (.ref 22), some (.int (nI s)), some (.int (nI t)), some (.int i), some (.int (nI (ptL g a q))), some (.int (nI q.length)), some (.int 1), none] dX9_first_62 rfl (Nat.le_of_ble_eq_true rfl) rfl ?_
      refine rn_iconst (v := 0) 65 dX9_first_64 (by decide) rfl ?_
      refine rn_istore 67 [some (.ref 22), some (.int (nI s)), some (.int (nI t)), some (.int i), some (.int (nI (ptL g a q))), some (.int (nI q.length)), some (.int 1), some (.int 0)] dX9_first_65 rfl (Nat.le_of_ble_eq_true rfl) rfl ?_
      refine lp_cpy (d + 5) (n := q.length) hl7 (mu0 := mu) (fun m1 cp1 f1 => ?_) q.length 0 mu (by omega) p1 (fun j hj => absurd hj (Nat.not_lt_zero _)) (fun _ _ => rfl)
      have fp1 : FP mu m1 := ⟨fun c h1 h2 h3 h4 => f1 c h4, fun j h1 h2 h3 => by rw [f1 22 (by omega)]⟩
      have hP1 : SPx g a s q m1 := by unfold SPx at hP ⊢; rw [f1 22 (by omega), f1 28 (by omega)]; exact hP
      have hg1 := mg_FP hg fp1
      have ha1 := ma_FP ha fp1
      have fM1 : flM (some q) (m1 30) := fun B hB => by cases hB; exact ⟨ptM_cg q hP1.2.2.2 cp1, hl7⟩
      show rn_R _ mX9_first _ 96 [some (.ref 22), some (.int (nI s)), some (.int (nI t)), some (.int i), some (.int (fl1 g a (some q))), some (.int (fl2 (some q))), some (.int 1), none] [] m1 h _
      refine rn_aload_n 97 dX9_first_96 rfl rfl rfl ?_
      refine rn_iload_n 98 dX9_first_97 rfl rfl rfl ?_
      refine rn_iload_n 99 dX9_first_98 rfl rfl rfl ?_
      refine rn_iconst (v := 0) 100 dX9_first_99 (by decide) rfl ?_
      refine rn_callV mX9_nextPath [.int (nI s), .int (nI t), .int 0] [] dX9_first_100 cv_X9_159 rfl rfl rfl (by simp [Value.category]) (c_npN (d) h hg1 hs ht hv hP1 ha1 he) (fun r2 m2 h2 qq _ => ?_)
      obtain ⟨b2, f2⟩ := qq
      rw [hr] at b2
      have fp2 := FP_tr (FP_tr hfp fp1) (FP_N f2)
      have fM2 : flM (some q) (m2 30) := by rw [f2.1 30 (by omega) (by omega)]; exact fM1
      subst b2
      show rn_R _ mX9_first _ 103 [some (.ref 22), some (.int (nI s)), some (.int (nI t)), some (.int i), some (.int (fl1 g a (some q))), some (.int (fl2 (some q))), some (.int 1), none] [.int 0] m2 h2 _
      refine rn_istore 105 [some (.ref 22), some (.int (nI s)), some (.int (nI t)), some (.int i), some (.int (fl1 g a (some q))), some (.int (fl2 (some q))), some (.int 0), none] dX9_first_103 rfl (Nat.le_of_ble_eq_true rfl) rfl ?_
      refine rn_goto 38 dX9_first_105 (by decide) ?_
      refine rn_iload 40 dX9_first_38 rfl rfl ?_
      refine rn_if_eq 108 43 dX9_first_40 (by decide) rfl (fun _ => ?_) (fun c40 => absurd (by decide) c40)
      refine rn_drop 6 [some (.ref 22), some (.int (nI s)), some (.int (nI t)), some (.int i), some (.int (fl1 g a (some q))), some (.int (fl2 (some q))), none, none] rfl ?_
      exact tl_first (d + 5) (o := some q) hi fM2 fp2
    | some B =>
      have hB9 := ptL_9 hg.2.1 hs (hoV B rfl)
      show rn_R _ mX9_first _ 38 [some (.ref 22), some (.int (nI s)), some (.int (nI t)), some (.int i), some (.int (nI (ptL g a B))), some (.int (fl2 (some B))), some (.int 1), none] [] mu h _
      by_cases ql : ptL g a q < ptL g a B
      · skip
        have ef : (q :: ([] : List (List Nat))).foldl (fsS g a) (some B) = ([] : List (List Nat)).foldl (fsS g a) (some q) := by show ([] : List (List Nat)).foldl (fsS g a) (if _ then _ else _) = _; rw [if_pos ql]
        rw [ef]
        refine rn_iload 40 dX9_first_38 rfl rfl ?_
        refine rn_if_eq 108 43 dX9_first_40 (by decide) rfl (fun c40 => absurd c40 (by decide)) (fun _ => ?_)
        refine rn_aload_n 44 dX9_first_43 rfl rfl rfl ?_
        refine rn_get 47 (.int (mu 22 13)) dX9_first_44 fl_X9_141 rfl rfl rfl rfl ?_
        refine rn_iload 49 dX9_first_47 rfl rfl ?_
        refine rn_icmp_ge 96 52 dX9_first_49 (by decide) rfl (fun c49 => absurd c49 (by rw [p2]; exact nI_ge ql (by omega))) (fun _ => ?_)
        refine rn_aload_n 53 dX9_first_52 rfl rfl rfl ?_
        refine rn_get 56 (.int (mu 22 13)) dX9_first_53 fl_X9_141 rfl rfl rfl rfl ?_
        rw [p2]
        refine rn_istore 58 [some (.ref 22), some (.int (nI s)), some (.int (nI t)), some (.int i), some (.int (nI (ptL g a q))), some (.int (fl2 (some B))), some (.int 1), none] dX9_first_56 rfl (Nat.le_of_ble_eq_true rfl) rfl ?_
        refine rn_aload_n 59 dX9_first_58 rfl rfl rfl ?_
        refine rn_get 62 (.int (mu 22 12)) dX9_first_59 fl_X9_138 rfl rfl rfl rfl ?_
        rw [p1]
        refine rn_istore 64 [some (.ref 22), some (.int (nI s)), some (.int (nI t)), some (.int i), some (.int (nI (ptL g a q))), some (.int (nI q.length)), some (.int 1), none] dX9_first_62 rfl (Nat.le_of_ble_eq_true rfl) rfl ?_
        refine rn_iconst (v := 0) 65 dX9_first_64 (by decide) rfl ?_
        refine rn_istore 67 [some (.ref 22), some (.int (nI s)), some (.int (nI t)), some (.int i), some (.int (nI (ptL g a q))), some (.int (nI q.length)), some (.int 1), some (.int 0)] dX9_first_65 rfl (Nat.le_of_ble_eq_true rfl) rfl ?_
        refine lp_cpy (d + 5) (n := q.length) hl7 (mu0 := mu) (fun m1 cp1 f1 => ?_) q.length 0 mu (by omega) p1 (fun j hj => absurd hj (Nat.not_lt_zero _)) (fun _ _ => rfl)
        have fp1 : FP mu m1 := ⟨fun c h1 h2 h3 h4 => f1 c h4, fun j h1 h2 h3 => by rw [f1 22 (by omega)]⟩
        have hP1 : SPx g a s q m1 := by unfold SPx at hP ⊢; rw [f1 22 (by omega), f1 28 (by omega)]; exact hP
        have hg1 := mg_FP hg fp1
        have ha1 := ma_FP ha fp1
        have fM1 : flM (some q) (m1 30) := fun B hB => by cases hB; exact ⟨ptM_cg q hP1.2.2.2 cp1, hl7⟩
        show rn_R _ mX9_first _ 96 [some (.ref 22), some (.int (nI s)), some (.int (nI t)), some (.int i), some (.int (fl1 g a (some q))), some (.int (fl2 (some q))), some (.int 1), none] [] m1 h _
        refine rn_aload_n 97 dX9_first_96 rfl rfl rfl ?_
        refine rn_iload_n 98 dX9_first_97 rfl rfl rfl ?_
        refine rn_iload_n 99 dX9_first_98 rfl rfl rfl ?_
        refine rn_iconst (v := 0) 100 dX9_first_99 (by decide) rfl ?_
        refine rn_callV mX9_nextPath [.int (nI s), .int (nI t), .int 0] [] dX9_first_100 cv_X9_159 rfl rfl rfl (by simp [Value.category]) (c_npN (d) h hg1 hs ht hv hP1 ha1 he) (fun r2 m2 h2 qq _ => ?_)
        obtain ⟨b2, f2⟩ := qq
        rw [hr] at b2
        have fp2 := FP_tr (FP_tr hfp fp1) (FP_N f2)
        have fM2 : flM (some q) (m2 30) := by rw [f2.1 30 (by omega) (by omega)]; exact fM1
        subst b2
        show rn_R _ mX9_first _ 103 [some (.ref 22), some (.int (nI s)), some (.int (nI t)), some (.int i), some (.int (fl1 g a (some q))), some (.int (fl2 (some q))), some (.int 1), none] [.int 0] m2 h2 _
        refine rn_istore 105 [some (.ref 22), some (.int (nI s)), some (.int (nI t)), some (.int i), some (.int (fl1 g a (some q))), some (.int (fl2 (some q))), some (.int 0), none] dX9_first_103 rfl (Nat.le_of_ble_eq_true rfl) rfl ?_
        refine rn_goto 38 dX9_first_105 (by decide) ?_
        refine rn_iload 40 dX9_first_38 rfl rfl ?_
        refine rn_if_eq 108 43 dX9_first_40 (by decide) rfl (fun _ => ?_) (fun c40 => absurd (by decide) c40)
        refine rn_drop 6 [some (.ref 22), some (.int (nI s)), some (.int (nI t)), some (.int i), some (.int (fl1 g a (some q))), some (.int (fl2 (some q))), none, none] rfl ?_
        exact tl_first (d + 5) (o := some q) hi fM2 fp2
      · skip
        have ef : (q :: ([] : List (List Nat))).foldl (fsS g a) (some B) = ([] : List (List Nat)).foldl (fsS g a) (some B) := by show ([] : List (List Nat)).foldl (fsS g a) (if _ then _ else _) = _; rw [if_neg ql]
        rw [ef]
        refine rn_iload 40 dX9_first_38 rfl rfl ?_
        refine rn_if_eq 108 43 dX9_first_40 (by decide) rfl (fun c40 => absurd c40 (by decide)) (fun _ => ?_)
        refine rn_aload_n 44 dX9_first_43 rfl rfl rfl ?_
        refine rn_get 47 (.int (mu 22 13)) dX9_first_44 fl_X9_141 rfl rfl rfl rfl ?_
        refine rn_iload 49 dX9_first_47 rfl rfl ?_
        refine rn_icmp_ge 96 52 dX9_first_49 (by decide) rfl (fun _ => ?_) (fun c49 => absurd (by rw [p2]; exact nI_le (by omega) (by omega)) c49)
        refine rn_aload_n 97 dX9_first_96 rfl rfl rfl ?_
        refine rn_iload_n 98 dX9_first_97 rfl rfl rfl ?_
        refine rn_iload_n 99 dX9_first_98 rfl rfl rfl ?_
        refine rn_iconst (v := 0) 100 dX9_first_99 (by decide) rfl ?_
        refine rn_callV mX9_nextPath [.int (nI s), .int (nI t), .int 0] [] dX9_first_100 cv_X9_159 rfl rfl rfl (by simp [Value.category]) (c_npN (d) h hg hs ht hv hP ha he) (fun r2 m2 h2 qq _ => ?_)
        obtain ⟨b2, f2⟩ := qq
        rw [hr] at b2
        have fp2 := FP_tr hfp (FP_N f2)
        have fM2 : flM (some B) (m2 30) := by rw [f2.1 30 (by omega) (by omega)]; exact hM
        subst b2
        show rn_R _ mX9_first _ 103 [some (.ref 22), some (.int (nI s)), some (.int (nI t)), some (.int i), some (.int (nI (ptL g a B))), some (.int (fl2 (some B))), some (.int 1), none] [.int 0] m2 h2 _
        refine rn_istore 105 [some (.ref 22), some (.int (nI s)), some (.int (nI t)), some (.int i), some (.int (nI (ptL g a B))), some (.int (fl2 (some B))), some (.int 0), none] dX9_first_103 rfl (Nat.le_of_ble_eq_true rfl) rfl ?_
        refine rn_goto 38 dX9_first_105 (by decide) ?_
        refine rn_iload 40 dX9_first_38 rfl rfl ?_
        refine rn_if_eq 108 43 dX9_first_40 (by decide) rfl (fun _ => ?_) (fun c40 => absurd (by decide) c40)
        refine rn_drop 6 [some (.ref 22), some (.int (nI s)), some (.int (nI t)), some (.int i), some (.int (nI (ptL g a B))), some (.int (fl2 (some B))), none, none] rfl ?_
        exact tl_first (d + 5) (o := some B) hi fM2 fp2
  | cons q2 rest ih =>
    intro q o mu h hP hv he hr hg ha hfp hM hoV
    obtain ⟨p1, p2, p3, p4⟩ := id hP
    have h9 := ptL_9 hg.2.1 hs hv
    have hl7 := ptV_len hg.2.1 hs hv
    cases o with
    | none =>
      have ef : (q :: (q2 :: rest)).foldl (fsS g a) none = (q2 :: rest).foldl (fsS g a) (some q) := rfl
      rw [ef]
      show rn_R _ mX9_first _ 38 [some (.ref 22), some (.int (nI s)), some (.int (nI t)), some (.int i), some (.int 9999), some (.int (fl2 (none))), some (.int 1), none] [] mu h _
      refine rn_iload 40 dX9_first_38 rfl rfl ?_
      refine rn_if_eq 108 43 dX9_first_40 (by decide) rfl (fun c40 => absurd c40 (by decide)) (fun _ => ?_)
      refine rn_aload_n 44 dX9_first_43 rfl rfl rfl ?_
      refine rn_get 47 (.int (mu 22 13)) dX9_first_44 fl_X9_141 rfl rfl rfl rfl ?_
      refine rn_iload 49 dX9_first_47 rfl rfl ?_
      refine rn_icmp_ge 96 52 dX9_first_49 (by decide) rfl (fun c49 => absurd c49 (by rw [p2]; exact nI_ge (b := 9999) (by omega) (by omega))) (fun _ => ?_)
      refine rn_aload_n 53 dX9_first_52 rfl rfl rfl ?_
      refine rn_get 56 (.int (mu 22 13)) dX9_first_53 fl_X9_141 rfl rfl rfl rfl ?_
      rw [p2]
      refine rn_istore 58 [some (.ref 22), some (.int (nI s)), some (.int (nI t)), some (.int i), some (.int (nI (ptL g a q))), some (.int (fl2 (none))), some (.int 1), none] dX9_first_56 rfl (Nat.le_of_ble_eq_true rfl) rfl ?_
      refine rn_aload_n 59 dX9_first_58 rfl rfl rfl ?_
      refine rn_get 62 (.int (mu 22 12)) dX9_first_59 fl_X9_138 rfl rfl rfl rfl ?_
      rw [p1]
      refine rn_istore 64 [some (.ref 22), some (.int (nI s)), some (.int (nI t)), some (.int i), some (.int (nI (ptL g a q))), some (.int (nI q.length)), some (.int 1), none] dX9_first_62 rfl (Nat.le_of_ble_eq_true rfl) rfl ?_
      refine rn_iconst (v := 0) 65 dX9_first_64 (by decide) rfl ?_
      refine rn_istore 67 [some (.ref 22), some (.int (nI s)), some (.int (nI t)), some (.int i), some (.int (nI (ptL g a q))), some (.int (nI q.length)), some (.int 1), some (.int 0)] dX9_first_65 rfl (Nat.le_of_ble_eq_true rfl) rfl ?_
      refine lp_cpy (d + 5) (n := q.length) hl7 (mu0 := mu) (fun m1 cp1 f1 => ?_) q.length 0 mu (by omega) p1 (fun j hj => absurd hj (Nat.not_lt_zero _)) (fun _ _ => rfl)
      have fp1 : FP mu m1 := ⟨fun c h1 h2 h3 h4 => f1 c h4, fun j h1 h2 h3 => by rw [f1 22 (by omega)]⟩
      have hP1 : SPx g a s q m1 := by unfold SPx at hP ⊢; rw [f1 22 (by omega), f1 28 (by omega)]; exact hP
      have hg1 := mg_FP hg fp1
      have ha1 := ma_FP ha fp1
      have fM1 : flM (some q) (m1 30) := fun B hB => by cases hB; exact ⟨ptM_cg q hP1.2.2.2 cp1, hl7⟩
      show rn_R _ mX9_first _ 96 [some (.ref 22), some (.int (nI s)), some (.int (nI t)), some (.int i), some (.int (fl1 g a (some q))), some (.int (fl2 (some q))), some (.int 1), none] [] m1 h _
      refine rn_aload_n 97 dX9_first_96 rfl rfl rfl ?_
      refine rn_iload_n 98 dX9_first_97 rfl rfl rfl ?_
      refine rn_iload_n 99 dX9_first_98 rfl rfl rfl ?_
      refine rn_iconst (v := 0) 100 dX9_first_99 (by decide) rfl ?_
      refine rn_callV mX9_nextPath [.int (nI s), .int (nI t), .int 0] [] dX9_first_100 cv_X9_159 rfl rfl rfl (by simp [Value.category]) (c_npN (d) h hg1 hs ht hv hP1 ha1 he) (fun r2 m2 h2 qq _ => ?_)
      obtain ⟨b2, f2⟩ := qq
      rw [hr] at b2
      have fp2 := FP_tr (FP_tr hfp fp1) (FP_N f2)
      have fM2 : flM (some q) (m2 30) := by rw [f2.1 30 (by omega) (by omega)]; exact fM1
      obtain ⟨e1, b3, b4, b5, b6⟩ := b2
      subst e1
      show rn_R _ mX9_first _ 103 [some (.ref 22), some (.int (nI s)), some (.int (nI t)), some (.int i), some (.int (fl1 g a (some q))), some (.int (fl2 (some q))), some (.int 1), none] [.int 1] m2 h2 _
      refine rn_istore 105 [some (.ref 22), some (.int (nI s)), some (.int (nI t)), some (.int i), some (.int (fl1 g a (some q))), some (.int (fl2 (some q))), some (.int 1), none] dX9_first_103 rfl (Nat.le_of_ble_eq_true rfl) rfl ?_
      refine rn_goto 38 dX9_first_105 (by decide) ?_
      exact ih q2 (some q) m2 h2 b3 b4 b5 b6 (mg_FN hg1 f2) (ma_FN ha1 f2) fp2 fM2 (fun B hB => by cases hB; exact hv)
    | some B =>
      have hB9 := ptL_9 hg.2.1 hs (hoV B rfl)
      show rn_R _ mX9_first _ 38 [some (.ref 22), some (.int (nI s)), some (.int (nI t)), some (.int i), some (.int (nI (ptL g a B))), some (.int (fl2 (some B))), some (.int 1), none] [] mu h _
      by_cases ql : ptL g a q < ptL g a B
      · skip
        have ef : (q :: (q2 :: rest)).foldl (fsS g a) (some B) = (q2 :: rest).foldl (fsS g a) (some q) := by show (q2 :: rest).foldl (fsS g a) (if _ then _ else _) = _; rw [if_pos ql]
        rw [ef]
        refine rn_iload 40 dX9_first_38 rfl rfl ?_
        refine rn_if_eq 108 43 dX9_first_40 (by decide) rfl (fun c40 => absurd c40 (by decide)) (fun _ => ?_)
        refine rn_aload_n 44 dX9_first_43 rfl rfl rfl ?_
        refine rn_get 47 (.int (mu 22 13)) dX9_first_44 fl_X9_141 rfl rfl rfl rfl ?_
        refine rn_iload 49 dX9_first_47 rfl rfl ?_
        refine rn_icmp_ge 96 52 dX9_first_49 (by decide) rfl (fun c49 => absurd c49 (by rw [p2]; exact nI_ge ql (by omega))) (fun _ => ?_)
        refine rn_aload_n 53 dX9_first_52 rfl rfl rfl ?_
        refine rn_get 56 (.int (mu 22 13)) dX9_first_53 fl_X9_141 rfl rfl rfl rfl ?_
        rw [p2]
        refine rn_istore 58 [some (.ref 22), some (.int (nI s)), some (.int (nI t)), some (.int i), some (.int (nI (ptL g a q))), some (.int (fl2 (some B))), some (.int 1), none] dX9_first_56 rfl (Nat.le_of_ble_eq_true rfl) rfl ?_
        refine rn_aload_n 59 dX9_first_58 rfl rfl rfl ?_
        refine rn_get 62 (.int (mu 22 12)) dX9_first_59 fl_X9_138 rfl rfl rfl rfl ?_
        rw [p1]
        refine rn_istore 64 [some (.ref 22), some (.int (nI s)), some (.int (nI t)), some (.int i), some (.int (nI (ptL g a q))), some (.int (nI q.length)), some (.int 1), none] dX9_first_62 rfl (Nat.le_of_ble_eq_true rfl) rfl ?_
        refine rn_iconst (v := 0) 65 dX9_first_64 (by decide) rfl ?_
        refine rn_istore 67 [some (.ref 22), some (.int (nI s)), some (.int (nI t)), some (.int i), some (.int (nI (ptL g a q))), some (.int (nI q.length)), some (.int 1), some (.int 0)] dX9_first_65 rfl (Nat.le_of_ble_eq_true rfl) rfl ?_
        refine lp_cpy (d + 5) (n := q.length) hl7 (mu0 := mu) (fun m1 cp1 f1 => ?_) q.length 0 mu (by omega) p1 (fun j hj => absurd hj (Nat.not_lt_zero _)) (fun _ _ => rfl)
        have fp1 : FP mu m1 := ⟨fun c h1 h2 h3 h4 => f1 c h4, fun j h1 h2 h3 => by rw [f1 22 (by omega)]⟩
        have hP1 : SPx g a s q m1 := by unfold SPx at hP ⊢; rw [f1 22 (by omega), f1 28 (by omega)]; exact hP
        have hg1 := mg_FP hg fp1
        have ha1 := ma_FP ha fp1
        have fM1 : flM (some q) (m1 30) := fun B hB => by cases hB; exact ⟨ptM_cg q hP1.2.2.2 cp1, hl7⟩
        show rn_R _ mX9_first _ 96 [some (.ref 22), some (.int (nI s)), some (.int (nI t)), some (.int i), some (.int (fl1 g a (some q))), some (.int (fl2 (some q))), some (.int 1), none] [] m1 h _
        refine rn_aload_n 97 dX9_first_96 rfl rfl rfl ?_
        refine rn_iload_n 98 dX9_first_97 rfl rfl rfl ?_
        refine rn_iload_n 99 dX9_first_98 rfl rfl rfl ?_
        refine rn_iconst (v := 0) 100 dX9_first_99 (by decide) rfl ?_
        refine rn_callV mX9_nextPath [.int (nI s), .int (nI t), .int 0] [] dX9_first_100 cv_X9_159 rfl rfl rfl (by simp [Value.category]) (c_npN (d) h hg1 hs ht hv hP1 ha1 he) (fun r2 m2 h2 qq _ => ?_)
        obtain ⟨b2, f2⟩ := qq
        rw [hr] at b2
        have fp2 := FP_tr (FP_tr hfp fp1) (FP_N f2)
        have fM2 : flM (some q) (m2 30) := by rw [f2.1 30 (by omega) (by omega)]; exact fM1
        obtain ⟨e1, b3, b4, b5, b6⟩ := b2
        subst e1
        show rn_R _ mX9_first _ 103 [some (.ref 22), some (.int (nI s)), some (.int (nI t)), some (.int i), some (.int (fl1 g a (some q))), some (.int (fl2 (some q))), some (.int 1), none] [.int 1] m2 h2 _
        refine rn_istore 105 [some (.ref 22), some (.int (nI s)), some (.int (nI t)), some (.int i), some (.int (fl1 g a (some q))), some (.int (fl2 (some q))), some (.int 1), none] dX9_first_103 rfl (Nat.le_of_ble_eq_true rfl) rfl ?_
        refine rn_goto 38 dX9_first_105 (by decide) ?_
        exact ih q2 (some q) m2 h2 b3 b4 b5 b6 (mg_FN hg1 f2) (ma_FN ha1 f2) fp2 fM2 (fun B hB => by cases hB; exact hv)
      · skip
        have ef : (q :: (q2 :: rest)).foldl (fsS g a) (some B) = (q2 :: rest).foldl (fsS g a) (some B) := by show (q2 :: rest).foldl (fsS g a) (if _ then _ else _) = _; rw [if_neg ql]
        rw [ef]
        refine rn_iload 40 dX9_first_38 rfl rfl ?_
        refine rn_if_eq 108 43 dX9_first_40 (by decide) rfl (fun c40 => absurd c40 (by decide)) (fun _ => ?_)
        refine rn_aload_n 44 dX9_first_43 rfl rfl rfl ?_
        refine rn_get 47 (.int (mu 22 13)) dX9_first_44 fl_X9_141 rfl rfl rfl rfl ?_
        refine rn_iload 49 dX9_first_47 rfl rfl ?_
        refine rn_icmp_ge 96 52 dX9_first_49 (by decide) rfl (fun _ => ?_) (fun c49 => absurd (by rw [p2]; exact nI_le (by omega) (by omega)) c49)
        refine rn_aload_n 97 dX9_first_96 rfl rfl rfl ?_
        refine rn_iload_n 98 dX9_first_97 rfl rfl rfl ?_
        refine rn_iload_n 99 dX9_first_98 rfl rfl rfl ?_
        refine rn_iconst (v := 0) 100 dX9_first_99 (by decide) rfl ?_
        refine rn_callV mX9_nextPath [.int (nI s), .int (nI t), .int 0] [] dX9_first_100 cv_X9_159 rfl rfl rfl (by simp [Value.category]) (c_npN (d) h hg hs ht hv hP ha he) (fun r2 m2 h2 qq _ => ?_)
        obtain ⟨b2, f2⟩ := qq
        rw [hr] at b2
        have fp2 := FP_tr hfp (FP_N f2)
        have fM2 : flM (some B) (m2 30) := by rw [f2.1 30 (by omega) (by omega)]; exact hM
        obtain ⟨e1, b3, b4, b5, b6⟩ := b2
        subst e1
        show rn_R _ mX9_first _ 103 [some (.ref 22), some (.int (nI s)), some (.int (nI t)), some (.int i), some (.int (nI (ptL g a B))), some (.int (fl2 (some B))), some (.int 1), none] [.int 1] m2 h2 _
        refine rn_istore 105 [some (.ref 22), some (.int (nI s)), some (.int (nI t)), some (.int i), some (.int (nI (ptL g a B))), some (.int (fl2 (some B))), some (.int 1), none] dX9_first_103 rfl (Nat.le_of_ble_eq_true rfl) rfl ?_
        refine rn_goto 38 dX9_first_105 (by decide) ?_
        exact ih q2 (some B) m2 h2 b3 b4 b5 b6 (mg_FN hg f2) (ma_FN ha f2) fp2 fM2 hoV

set_option maxRecDepth 100000 in
set_option maxHeartbeats 2000000 in
theorem m_fir_b (d : Nat) {g : List Ed} {a : Nat} {hs : List Sg} {tx : List Nat} {f : Int32} {v1 v2 v3 : Int32} (hv : ¬ ((isin v1 8 ∧ isin v2 8) ∧ ¬ v3 < -1)) : MC mX9_first (d + 2) [.int v1, .int v2, .int v3] (g, a, hs, tx, f) (g, a, hs, tx, f) (.int (-2)) := by
  intro mu h hs0
  obtain ⟨hg, ha, hh, ht, hf⟩ := id hs0
  simp only at hg ha hh ht hf
  refine gd_of rfl (Nat.le_of_ble_eq_true rfl) ?_
  show rn_R none mX9_first (d + 2) 0 [some (.ref 22), some (.int v1), some (.int v2), some (.int v3), none, none, none, none] [] mu h (fun r mu' _ => r = some (.int (-2)) ∧ mS (g, a, hs, tx, f) mu' ∧ ∀ c, c < 22 → mu' c = mu c)
  by_cases q1 : isin v1 8 ∧ isin v2 8
  · skip
    have q3 : v3 < -1 := Classical.byContradiction (fun z => hv ⟨q1, z⟩)
    refine rn_iload_n 1 dX9_first_0 rfl rfl rfl ?_
    refine rn_iload_n 2 dX9_first_1 rfl rfl rfl ?_
    refine rn_csp mX9_areNodes [.int v1, .int v2] [] 5 (.int 1) dX9_first_2 cs_X9_53 rfl rfl (by simp [Value.category]) rfl (c_mareNodes_t d mu h q1.1 q1.2) ?_
    refine rn_if_eq 13 8 dX9_first_5 (by decide) rfl (fun c5 => absurd c5 (by decide)) (fun _ => ?_)
    refine rn_iload_n 9 dX9_first_8 rfl rfl rfl ?_
    refine rn_iconst (v := (-1)) 10 dX9_first_9 (by decide) rfl ?_
    refine rn_icmp_ge 16 13 dX9_first_10 (by decide) rfl (fun c10 => absurd c10 (Int32.not_le.mpr q3)) (fun _ => ?_)
    refine rn_bipush (v := (-2)) 15 dX9_first_13 (by decide) rfl ?_
    exact rn_iret rfl dX9_first_15 (⟨rfl, hs0, fun _ _ => rfl⟩)
  · skip
    refine rn_iload_n 1 dX9_first_0 rfl rfl rfl ?_
    refine rn_iload_n 2 dX9_first_1 rfl rfl rfl ?_
    refine rn_csp mX9_areNodes [.int v1, .int v2] [] 5 (.int 0) dX9_first_2 cs_X9_53 rfl rfl (by simp [Value.category]) rfl (c_mareNodes_f d mu h q1) ?_
    refine rn_if_eq 13 8 dX9_first_5 (by decide) rfl (fun _ => ?_) (fun c5 => absurd (by decide) c5)
    refine rn_bipush (v := (-2)) 15 dX9_first_13 (by decide) rfl ?_
    exact rn_iret rfl dX9_first_15 (⟨rfl, hs0, fun _ _ => rfl⟩)

set_option maxRecDepth 100000 in
set_option maxHeartbeats 2000000 in
theorem m_fir_t (d : Nat) {g : List Ed} {a : Nat} {hs : List Sg} {tx : List Nat} {f : Int32} {u v : Nat} (hu : u < 8) (hv : v < 8) {i : Int32} (hi : ¬ i < -1) : MC mX9_first (d + 5) [.int (nI u), .int (nI v), .int i] (g, a, hs, tx, f) (g, a, hs, tx, f) (.int (frA (hdP g a u v) i)) := by
  intro mu h hs0
  obtain ⟨hg, ha, hh, ht, hf⟩ := id hs0
  simp only at hg ha hh ht hf
  refine gd_of rfl (Nat.le_of_ble_eq_true rfl) ?_
  show rn_R none mX9_first (d + 5) 0 [some (.ref 22), some (.int (nI u)), some (.int (nI v)), some (.int i), none, none, none, none] [] mu h (fun r mu' _ => r = some (.int (frA (hdP g a u v) i)) ∧ mS (g, a, hs, tx, f) mu' ∧ ∀ c, c < 22 → mu' c = mu c)
  have ef := fsS_P (a := a) hg.2.1 hu hv
  refine rn_iload_n 1 dX9_first_0 rfl rfl rfl ?_
  refine rn_iload_n 2 dX9_first_1 rfl rfl rfl ?_
  refine rn_csp mX9_areNodes [.int (nI u), .int (nI v)] [] 5 (.int 1) dX9_first_2 cs_X9_53 rfl rfl (by simp [Value.category]) rfl (c_mareNodes_t (d + 3) mu h ⟨u, hu, rfl⟩ ⟨v, hv, rfl⟩) ?_
  refine rn_if_eq 13 8 dX9_first_5 (by decide) rfl (fun c5 => absurd c5 (by decide)) (fun _ => ?_)
  refine rn_iload_n 9 dX9_first_8 rfl rfl rfl ?_
  refine rn_iconst (v := (-1)) 10 dX9_first_9 (by decide) rfl ?_
  refine rn_icmp_ge 16 13 dX9_first_10 (by decide) rfl (fun _ => ?_) (fun c10 => absurd (Int32.not_lt.mp hi) c10)
  refine rn_sipush (v := 9999) 19 dX9_first_16 (by decide) rfl ?_
  refine rn_istore 21 [some (.ref 22), some (.int (nI u)), some (.int (nI v)), some (.int i), some (.int 9999), none, none, none] dX9_first_19 rfl (Nat.le_of_ble_eq_true rfl) rfl ?_
  refine rn_iconst (v := (-1)) 22 dX9_first_21 (by decide) rfl ?_
  refine rn_istore 24 [some (.ref 22), some (.int (nI u)), some (.int (nI v)), some (.int i), some (.int 9999), some (.int (-1)), none, none] dX9_first_22 rfl (Nat.le_of_ble_eq_true rfl) rfl ?_
  refine rn_aload_n 25 dX9_first_24 rfl rfl rfl ?_
  refine rn_iload_n 26 dX9_first_25 rfl rfl rfl ?_
  refine rn_callV mX9_starts [.int (nI u)] [] dX9_first_26 cv_X9_156 rfl rfl rfl (by simp [Value.category]) (c_starts (d + 4) (g := g) (a := a) h hu) (fun r1 m1 h1 qq _ => ?_)
  obtain ⟨e1, s1, f1⟩ := qq
  subst e1
  have hg1 := mg_FN hg f1
  have ha1 := ma_FN ha f1
  show rn_R _ mX9_first _ 29 [some (.ref 22), some (.int (nI u)), some (.int (nI v)), some (.int i), some (.int 9999), some (.int (-1)), none, none] [] m1 h1 _
  refine rn_aload_n 30 dX9_first_29 rfl rfl rfl ?_
  refine rn_iload_n 31 dX9_first_30 rfl rfl rfl ?_
  refine rn_iload_n 32 dX9_first_31 rfl rfl rfl ?_
  refine rn_iconst (v := 1) 33 dX9_first_32 (by decide) rfl ?_
  refine rn_callV mX9_nextPath [.int (nI u), .int (nI v), .int 1] [] dX9_first_33 cv_X9_159 rfl rfl rfl (by simp [Value.category]) (c_npF (d) h1 hg1 hu hv trivial s1 ha1) (fun r2 m2 h2 qq _ => ?_)
  obtain ⟨b2, f2⟩ := qq
  have eP : ptF g u v (ptA g a u v 8 []) = ptP g a u v := rfl
  rw [eP] at b2
  cases hL : ptP g a u v with
  | nil =>
    rw [hL] at b2 ef
    subst b2
    show rn_R _ mX9_first _ 36 [some (.ref 22), some (.int (nI u)), some (.int (nI v)), some (.int i), some (.int 9999), some (.int (-1)), none, none] [.int 0] m2 h2 _
    refine rn_istore 38 [some (.ref 22), some (.int (nI u)), some (.int (nI v)), some (.int i), some (.int 9999), some (.int (-1)), some (.int 0), none] dX9_first_36 rfl (Nat.le_of_ble_eq_true rfl) rfl ?_
    refine rn_iload 40 dX9_first_38 rfl rfl ?_
    refine rn_if_eq 108 43 dX9_first_40 (by decide) rfl (fun _ => ?_) (fun c40 => absurd (by decide) c40)
    refine rn_drop 6 [some (.ref 22), some (.int (nI u)), some (.int (nI v)), some (.int i), some (.int 9999), some (.int (-1)), none, none] rfl ?_
    refine rn_mono (tl_first (d + 5) (g := g) (a := a) (s := u) (t := v) (o := none) hi (mu0 := mu) (fun B hB => by cases hB) (FP_tr (FP_N f1) (FP_N f2))) (fun r m3 h3 z => ?_)
    refine ⟨?_, mS_FP hs0 z.2, fun c hc => z.2.1 c (by omega) (by omega) (by omega) (by omega)⟩
    rw [z.1, ← ef]
    rfl
  | cons q rest =>
    rw [hL] at b2 ef
    obtain ⟨e2, c2, c3, c4, c5⟩ := b2
    subst e2
    show rn_R _ mX9_first _ 36 [some (.ref 22), some (.int (nI u)), some (.int (nI v)), some (.int i), some (.int 9999), some (.int (-1)), none, none] [.int 1] m2 h2 _
    refine rn_istore 38 [some (.ref 22), some (.int (nI u)), some (.int (nI v)), some (.int i), some (.int 9999), some (.int (-1)), some (.int 1), none] dX9_first_36 rfl (Nat.le_of_ble_eq_true rfl) rfl ?_
    refine rn_mono (lp_mfir d hu hv hi (mu0 := mu) rest q none m2 h2 c2 c3 c4 c5 (mg_FN hg1 f2) (ma_FN ha1 f2) (FP_tr (FP_N f1) (FP_N f2)) (fun B hB => by cases hB) (fun B hB => by cases hB)) (fun r m3 h3 z => ?_)
    refine ⟨?_, mS_FP hs0 z.2, fun c hc => z.2.1 c (by omega) (by omega) (by omega) (by omega)⟩
    rw [z.1, ef]

theorem op_first (v1 v2 v3 : Int32) : OP mX8_first mX9_first [.int v1, .int v2, .int v3] := by
  rintro ⟨g, a, hs, tx, f⟩
  by_cases hv : (isin v1 8 ∧ isin v2 8) ∧ ¬ v3 < -1
  · obtain ⟨⟨⟨u, hu, rfl⟩, v, hv, rfl⟩, h3⟩ := hv
    exact ⟨_, _, x_fir_t 86 hu hv h3, m_fir_t 95 hu hv h3⟩
  · exact ⟨_, _, x_fir_b 98 hv, m_fir_b 98 hv⟩
