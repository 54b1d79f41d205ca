/-! DISTANCES: one round over the edges, rounds till nothing changes (the class) -/
abbrev Rs : Type := (Nat → Nat) × (Nat → Nat) × Bool
/-- one edge -/
def rx (g : List Ed) (W : Nat → Nat) (e : Nat) (s : Rs) : Rs := if s.1 (eF g e) + W e < s.1 (eT g e) then (va_up s.1 (eT g e) (s.1 (eF g e) + W e), va_up s.2.1 (eT g e) (s.2.1 (eF g e) ||| 2 ^ e), true) else s
/-- k edges from e on -/
def rf (g : List Ed) (W : Nat → Nat) : Nat → Nat → Rs → Rs
  | 0, _, s => s
  | k + 1, e, s => rf g W k (e + 1) (rx g W e s)
/-- at most k rounds -/
def ro (g : List Ed) (W : Nat → Nat) : Nat → Rs → Rs
  | 0, s => s
  | k + 1, s => if s.2.2 then ro g W k (rf g W g.length 0 (s.1, s.2.1, false)) else s
def RD (D U : Nat → Nat) (mu : Nat → Nat → Int32) : Prop := ∀ v, v < 8 → mu 10 v = nI (D v) ∧ mu 11 v = nI (U v) ∧ D v ≤ 9999 ∧ U v < 2 ^ 16
def LW (g : List Ed) (W : Nat → Nat) (mu : Nat → Nat → Int32) : Prop := ∀ e, e < g.length → mu 9 e = nI (W e) ∧ W e ≤ 9999
theorem RD_up {D U : Nat → Nat} {mu : Nat → Nat → Int32} (h : RD D U mu) {v x y : Nat} (hv : v < 8) (hx : x ≤ 9999) (hy : y < 2 ^ 16) : RD (va_up D v x) (va_up U v y) (mu_s (mu_s mu 10 v (nI x)) 11 v (nI y)) := by
  intro w hw
  show upd (mu 10) v (nI x) w = _ ∧ upd (mu 11) v (nI y) w = _ ∧ _ ∧ _
  unfold va_up
  by_cases q : w = v
  · subst q; rw [pk_us, pk_us, if_pos rfl, if_pos rfl]; exact ⟨rfl, rfl, hx, hy⟩
  · rw [pk_un q, pk_un q, if_neg q, if_neg q]; exact h w hw

set_option maxRecDepth 100000 in
set_option maxHeartbeats 2000000 in
theorem lp_settle1 (d : Nat) {g : List Ed} {W : Nat → Nat} {mu0 : Nat → Nat → Int32} {r : Int32} {Q : rn_Q} : ∀ (k e : Nat) (s : Rs) (mu : Nat → Nat → Int32) (h : Int64), e + k = g.length → xg g mu → LW g W mu → RD s.1 s.2.1 mu → (∀ c, c ≠ 10 → c ≠ 11 → mu c = mu0 c) → (∀ mu' : Nat → Nat → Int32, RD (rf g W k e s).1 (rf g W k e s).2.1 mu' → (∀ c, c ≠ 10 → c ≠ 11 → mu' c = mu0 c) → rn_R none mX5_settle d 119 [some (.ref 8), some (.int (if (rf g W k e s).2.2 then 1 else 0)), some (.int r), none, none, none, none, none] [] mu' h Q) → rn_R none mX5_settle d 18 [some (.ref 8), some (.int (if s.2.2 then 1 else 0)), some (.int r), some (.int (nI e)), none, none, none, none] [] mu h Q := by
  intro k
  induction k with
  | zero =>
    intro e s mu h hek hg hL hR hfr kk
    refine rn_iload_n 19 dX5_settle_18 rfl rfl rfl ?_
    refine rn_aload_n 20 dX5_settle_19 rfl rfl rfl ?_
    refine rn_get 23 (.ref 1) dX5_settle_20 fl_X5_30 rfl rfl rfl rfl ?_
    refine rn_get 26 (.int (mu 1 1)) dX5_settle_23 fl_X5_61 rfl rfl rfl rfl ?_
    refine rn_icmp_ge 119 29 dX5_settle_26 (by decide) rfl (fun _ => ?_) (fun c26 => absurd (by rw [hg.2.2.1]; exact nI_le (by omega) (by have := hg.1; omega)) c26)
    refine rn_drop 3 [some (.ref 8), some (.int (if s.2.2 then 1 else 0)), some (.int r), none, none, none, none, none] rfl ?_
    exact kk mu hR hfr
  | succ k ih =>
    intro e s mu h hek hg hL hR hfr kk
    have hlt : e < g.length := by omega
    have h16 := hg.1
    have hpk := xg_pk hg hlt
    have hok := e_at hg.2.1 hlt
    have hu := hR (eF g e) hok.1
    have hv := hR (eT g e) hok.2.1
    have hl := hL e hlt
    refine rn_iload_n 19 dX5_settle_18 rfl rfl rfl ?_
    refine rn_aload_n 20 dX5_settle_19 rfl rfl rfl ?_
    refine rn_get 23 (.ref 1) dX5_settle_20 fl_X5_30 rfl rfl rfl rfl ?_
    refine rn_get 26 (.int (mu 1 1)) dX5_settle_23 fl_X5_61 rfl rfl rfl rfl ?_
    refine rn_icmp_ge 119 29 dX5_settle_26 (by decide) rfl (fun c26 => absurd c26 (by rw [hg.2.2.1]; exact nI_ge hlt (by omega))) (fun _ => ?_)
    refine rn_aload_n 30 dX5_settle_29 rfl rfl rfl ?_
    refine rn_get 33 (.ref 1) dX5_settle_30 fl_X5_30 rfl rfl rfl rfl ?_
    refine rn_get 36 (.ref 2) dX5_settle_33 fl_X5_65 rfl rfl rfl rfl ?_
    refine rn_iload_n 37 dX5_settle_36 rfl rfl rfl ?_
    refine rn_iald 38 (mu 2 e) dX5_settle_37 rfl (vp_in_nI (by omega) (by omega)) (congrArg (mu 2) (nI_clamp (by omega))) rfl ?_
    refine rn_istore 40 [some (.ref 8), some (.int (if s.2.2 then 1 else 0)), some (.int r), some (.int (nI e)), some (.int (mu 2 e)), none, none, none] dX5_settle_38 rfl (Nat.le_of_ble_eq_true rfl) rfl ?_
    refine rn_iload 42 dX5_settle_40 rfl rfl ?_
    refine rn_bipush (v := 7) 44 dX5_settle_42 (by decide) rfl ?_
    refine rn_iand 45 dX5_settle_44 rfl ?_
    rw [hpk.1]
    refine rn_istore 47 [some (.ref 8), some (.int (if s.2.2 then 1 else 0)), some (.int r), some (.int (nI e)), some (.int (mu 2 e)), some (.int (nI (eF g e))), none, none] dX5_settle_45 rfl (Nat.le_of_ble_eq_true rfl) rfl ?_
    refine rn_iload 49 dX5_settle_47 rfl rfl ?_
    refine rn_iconst (v := 3) 50 dX5_settle_49 (by decide) rfl ?_
    refine rn_ishr 51 dX5_settle_50 rfl ?_
    refine rn_bipush (v := 7) 53 dX5_settle_51 (by decide) rfl ?_
    refine rn_iand 54 dX5_settle_53 rfl ?_
    rw [hpk.2.1]
    refine rn_istore 56 [some (.ref 8), some (.int (if s.2.2 then 1 else 0)), some (.int r), some (.int (nI e)), some (.int (mu 2 e)), some (.int (nI (eF g e))), some (.int (nI (eT g e))), none] dX5_settle_54 rfl (Nat.le_of_ble_eq_true rfl) rfl ?_
    refine rn_aload_n 57 dX5_settle_56 rfl rfl rfl ?_
    refine rn_get 60 (.ref 10) dX5_settle_57 fl_X5_15 rfl rfl rfl rfl ?_
    refine rn_iload 62 dX5_settle_60 rfl rfl ?_
    refine rn_iald 63 (nI (s.1 (eF g e))) dX5_settle_62 rfl (vp_in_nI (by omega) (by omega)) (by rw [nI_clamp (by omega)]; exact hu.1) rfl ?_
    refine rn_aload_n 64 dX5_settle_63 rfl rfl rfl ?_
    refine rn_get 67 (.ref 9) dX5_settle_64 fl_X5_9 rfl rfl rfl rfl ?_
    refine rn_iload_n 68 dX5_settle_67 rfl rfl rfl ?_
    refine rn_iald 69 (nI (W e)) dX5_settle_68 rfl (vp_in_nI (by omega) (by omega)) (by rw [nI_clamp (by omega)]; exact hl.1) rfl ?_
    refine rn_iadd 70 dX5_settle_69 rfl ?_
    rw [nI_add]
    refine rn_istore 72 [some (.ref 8), some (.int (if s.2.2 then 1 else 0)), some (.int r), some (.int (nI e)), some (.int (mu 2 e)), some (.int (nI (eF g e))), some (.int (nI (eT g e))), some (.int (nI (s.1 (eF g e) + W e)))] dX5_settle_70 rfl (Nat.le_of_ble_eq_true rfl) rfl ?_
    refine rn_iload 74 dX5_settle_72 rfl rfl ?_
    refine rn_aload_n 75 dX5_settle_74 rfl rfl rfl ?_
    refine rn_get 78 (.ref 10) dX5_settle_75 fl_X5_15 rfl rfl rfl rfl ?_
    refine rn_iload 80 dX5_settle_78 rfl rfl ?_
    refine rn_iald 81 (nI (s.1 (eT g e))) dX5_settle_80 rfl (vp_in_nI (by omega) (by omega)) (by rw [nI_clamp (by omega)]; exact hv.1) rfl ?_
    by_cases q : s.1 (eF g e) + W e < s.1 (eT g e)
    · skip
      have er : rx g W e s = (va_up s.1 (eT g e) (s.1 (eF g e) + W e), va_up s.2.1 (eT g e) (s.2.1 (eF g e) ||| 2 ^ e), true) := if_pos q
      have hU : s.2.1 (eF g e) ||| 2 ^ e < 2 ^ 16 := tb_add_lt hu.2.2.2 (by omega)
      refine rn_icmp_ge 113 84 dX5_settle_81 (by decide) rfl (fun c81 => absurd c81 (nI_ge q (by omega))) (fun _ => ?_)
      refine rn_aload_n 85 dX5_settle_84 rfl rfl rfl ?_
      refine rn_get 88 (.ref 10) dX5_settle_85 fl_X5_15 rfl rfl rfl rfl ?_
      refine rn_iload 90 dX5_settle_88 rfl rfl ?_
      refine rn_iload 92 dX5_settle_90 rfl rfl ?_
      refine rn_iast 93 dX5_settle_92 rfl (vp_in_nI (by omega) (by omega)) rfl ?_
      rw [nI_clamp (by omega)]
      refine rn_aload_n 94 dX5_settle_93 rfl rfl rfl ?_
      refine rn_get 97 (.ref 11) dX5_settle_94 fl_X5_18 rfl rfl rfl rfl ?_
      refine rn_iload 99 dX5_settle_97 rfl rfl ?_
      refine rn_aload_n 100 dX5_settle_99 rfl rfl rfl ?_
      refine rn_get 103 (.ref 11) dX5_settle_100 fl_X5_18 rfl rfl rfl rfl ?_
      refine rn_iload 105 dX5_settle_103 rfl rfl ?_
      refine rn_iald 106 (nI (s.2.1 (eF g e))) dX5_settle_105 rfl (vp_in_nI (by omega) (by omega)) (by rw [nI_clamp (by omega)]; exact hu.2.1) rfl ?_
      refine rn_iconst (v := 1) 107 dX5_settle_106 (by decide) rfl ?_
      refine rn_iload_n 108 dX5_settle_107 rfl rfl rfl ?_
      refine rn_ishl 109 dX5_settle_108 rfl ?_
      refine rn_ior 110 dX5_settle_109 rfl ?_
      rw [nb_1 (by omega), nb_or]
      refine rn_iast 111 dX5_settle_110 rfl (vp_in_nI (by omega) (by omega)) rfl ?_
      rw [nI_clamp (by omega)]
      refine rn_iconst (v := 1) 112 dX5_settle_111 (by decide) rfl ?_
      refine rn_istore_n 113 [some (.ref 8), some (.int 1), some (.int r), some (.int (nI e)), some (.int (mu 2 e)), some (.int (nI (eF g e))), some (.int (nI (eT g e))), some (.int (nI (s.1 (eF g e) + W e)))] dX5_settle_112 rfl rfl (Nat.le_of_ble_eq_true rfl) rfl ?_
      refine rn_iinc (v := (nI (e + 1))) 116 [some (.ref 8), some (.int 1), some (.int r), some (.int (nI (e + 1))), some (.int (mu 2 e)), some (.int (nI (eF g e))), some (.int (nI (eT g e))), some (.int (nI (s.1 (eF g e) + W e)))] dX5_settle_113 rfl (nI_1 _) rfl rfl ?_
      refine rn_goto 18 dX5_settle_116 (by decide) ?_
      refine rn_drop 4 [some (.ref 8), some (.int 1), some (.int r), some (.int (nI (e + 1))), none, some (.int (nI (eF g e))), some (.int (nI (eT g e))), some (.int (nI (s.1 (eF g e) + W e)))] rfl ?_
      refine rn_drop 5 [some (.ref 8), some (.int 1), some (.int r), some (.int (nI (e + 1))), none, none, some (.int (nI (eT g e))), some (.int (nI (s.1 (eF g e) + W e)))] rfl ?_
      refine rn_drop 6 [some (.ref 8), some (.int 1), some (.int r), some (.int (nI (e + 1))), none, none, none, some (.int (nI (s.1 (eF g e) + W e)))] rfl ?_
      refine rn_drop 7 [some (.ref 8), some (.int 1), some (.int r), some (.int (nI (e + 1))), none, none, none, none] rfl ?_
      have z := ih (e + 1) (rx g W e s) (mu_s (mu_s mu 10 (eT g e) (nI (s.1 (eF g e) + W e))) 11 (eT g e) (nI (s.2.1 (eF g e) ||| 2 ^ e))) h (by omega) (xg_of (mu' := mu_s (mu_s mu 10 (eT g e) (nI (s.1 (eF g e) + W e))) 11 (eT g e) (nI (s.2.1 (eF g e) ||| 2 ^ e))) hg rfl rfl) (fun e2 he2 => hL e2 he2) (by rw [er]; exact RD_up hR hok.2.1 (by omega) hU) (fun c c1 c2 => by simp [mu_s, c1, c2]; exact hfr c c1 c2) kk
      rw [er] at z
      exact z
    · skip
      have er : rx g W e s = s := if_neg q
      refine rn_icmp_ge 113 84 dX5_settle_81 (by decide) rfl (fun _ => ?_) (fun c81 => absurd (nI_le (by omega) (by omega)) c81)
      refine rn_iinc (v := (nI (e + 1))) 116 [some (.ref 8), some (.int (if s.2.2 then 1 else 0)), some (.int r), some (.int (nI (e + 1))), some (.int (mu 2 e)), some (.int (nI (eF g e))), some (.int (nI (eT g e))), some (.int (nI (s.1 (eF g e) + W e)))] dX5_settle_113 rfl (nI_1 _) rfl rfl ?_
      refine rn_goto 18 dX5_settle_116 (by decide) ?_
      refine rn_drop 4 [some (.ref 8), some (.int (if s.2.2 then 1 else 0)), some (.int r), some (.int (nI (e + 1))), none, some (.int (nI (eF g e))), some (.int (nI (eT g e))), some (.int (nI (s.1 (eF g e) + W e)))] rfl ?_
      refine rn_drop 5 [some (.ref 8), some (.int (if s.2.2 then 1 else 0)), some (.int r), some (.int (nI (e + 1))), none, none, some (.int (nI (eT g e))), some (.int (nI (s.1 (eF g e) + W e)))] rfl ?_
      refine rn_drop 6 [some (.ref 8), some (.int (if s.2.2 then 1 else 0)), some (.int r), some (.int (nI (e + 1))), none, none, none, some (.int (nI (s.1 (eF g e) + W e)))] rfl ?_
      refine rn_drop 7 [some (.ref 8), some (.int (if s.2.2 then 1 else 0)), some (.int r), some (.int (nI (e + 1))), none, none, none, none] rfl ?_
      have z := ih (e + 1) (rx g W e s) mu h (by omega) hg hL (by rw [er]; exact hR) hfr kk
      rw [er] at z
      exact z

set_option maxRecDepth 100000 in
set_option maxHeartbeats 2000000 in
theorem lp_settle2 (d : Nat) {g : List Ed} {W : Nat → Nat} {mu0 : Nat → Nat → Int32} {z : Rs} : ∀ (k r : Nat) (s : Rs) (mu : Nat → Nat → Int32) (h : Int64), r + k = 8 → xg g mu0 → LW g W mu0 → RD s.1 s.2.1 mu → (∀ c, c ≠ 10 → c ≠ 11 → mu c = mu0 c) → ro g W k s = z → rn_R none mX5_settle d 4 [some (.ref 8), some (.int (if s.2.2 then 1 else 0)), some (.int (nI r)), none, none, none, none, none] [] mu h (fun r mu' _ => r = none ∧ RD z.1 z.2.1 mu' ∧ ∀ c, c ≠ 10 → c ≠ 11 → mu' c = mu0 c) := by
  intro k
  induction k with
  | zero =>
    intro r s mu h hrk hg hL hR hfr hz
    refine rn_iload_n 5 dX5_settle_4 rfl rfl rfl ?_
    refine rn_bipush (v := 8) 7 dX5_settle_5 (by decide) rfl ?_
    refine rn_icmp_ge 125 10 dX5_settle_7 (by decide) rfl (fun _ => ?_) (fun c7 => absurd (nI_le (a := 8) (by omega) (by omega)) c7)
    exact rn_vret rfl dX5_settle_125 (⟨rfl, by rw [← hz]; exact hR, hfr⟩)
  | succ k ih =>
    intro r s mu h hrk hg hL hR hfr hz
    obtain ⟨D, U, b⟩ := s
    cases b with
    | false =>
      refine rn_iload_n 5 dX5_settle_4 rfl rfl rfl ?_
      refine rn_bipush (v := 8) 7 dX5_settle_5 (by decide) rfl ?_
      refine rn_icmp_ge 125 10 dX5_settle_7 (by decide) rfl (fun c7 => absurd c7 (nI_ge (b := 8) (by omega) (by omega))) (fun _ => ?_)
      refine rn_iload_n 11 dX5_settle_10 rfl rfl rfl ?_
      refine rn_if_eq 125 14 dX5_settle_11 (by decide) rfl (fun _ => ?_) (fun c11 => absurd (rfl) c11)
      exact rn_vret rfl dX5_settle_125 (⟨rfl, by rw [← hz]; exact hR, hfr⟩)
    | true =>
      refine rn_iload_n 5 dX5_settle_4 rfl rfl rfl ?_
      refine rn_bipush (v := 8) 7 dX5_settle_5 (by decide) rfl ?_
      refine rn_icmp_ge 125 10 dX5_settle_7 (by decide) rfl (fun c7 => absurd c7 (nI_ge (b := 8) (by omega) (by omega))) (fun _ => ?_)
      refine rn_iload_n 11 dX5_settle_10 rfl rfl rfl ?_
      refine rn_if_eq 125 14 dX5_settle_11 (by decide) rfl (fun c11 => absurd c11 (by simp)) (fun _ => ?_)
      refine rn_iconst (v := 0) 15 dX5_settle_14 (by decide) rfl ?_
      refine rn_istore_n 16 [some (.ref 8), some (.int 0), some (.int (nI r)), none, none, none, none, none] dX5_settle_15 rfl rfl (Nat.le_of_ble_eq_true rfl) rfl ?_
      refine rn_iconst (v := 0) 17 dX5_settle_16 (by decide) rfl ?_
      refine rn_istore_n 18 [some (.ref 8), some (.int 0), some (.int (nI r)), some (.int 0), none, none, none, none] dX5_settle_17 rfl rfl (Nat.le_of_ble_eq_true rfl) rfl ?_
      refine lp_settle1 d g.length 0 (D, U, false) mu h (by omega) (xg_of hg (by rw [hfr 1 (by omega) (by omega)]) (hfr 2 (by omega) (by omega))) (fun e he => by rw [hfr 9 (by omega) (by omega)]; exact hL e he) hR hfr (fun mu' hR' hfr' => ?_)
      refine rn_iinc (v := (nI (r + 1))) 122 [some (.ref 8), some (.int (if (rf g W g.length 0 (D, U, false)).2.2 then 1 else 0)), some (.int (nI (r + 1))), none, none, none, none, none] dX5_settle_119 rfl (nI_1 _) rfl rfl ?_
      refine rn_goto 4 dX5_settle_122 (by decide) ?_
      exact ih (r + 1) (rf g W g.length 0 (D, U, false)) mu' h (by omega) hg hL hR' hfr' hz

set_option maxRecDepth 100000 in
set_option maxHeartbeats 2000000 in
theorem c_settle (d : Nat) {g : List Ed} {W : Nat → Nat} {D U : Nat → Nat} {mu : Nat → Nat → Int32} (h : Int64) (hg : xg g mu) (hL : LW g W mu) (hR : RD D U mu) : gd_G mX5_settle d [.ref 8] mu h (fun r mu' _ => r = none ∧ RD (ro g W 8 (D, U, true)).1 (ro g W 8 (D, U, true)).2.1 mu' ∧ ∀ c, c ≠ 10 → c ≠ 11 → mu' c = mu c) := by
  refine gd_of rfl (Nat.le_of_ble_eq_true rfl) ?_
  show rn_R none mX5_settle d 0 [some (.ref 8), none, none, none, none, none, none, none] [] mu h (fun r mu' _ => r = none ∧ RD (ro g W 8 (D, U, true)).1 (ro g W 8 (D, U, true)).2.1 mu' ∧ ∀ c, c ≠ 10 → c ≠ 11 → mu' c = mu c)
  refine rn_iconst (v := 1) 1 dX5_settle_0 (by decide) rfl ?_
  refine rn_istore_n 2 [some (.ref 8), some (.int 1), none, none, none, none, none, none] dX5_settle_1 rfl rfl (Nat.le_of_ble_eq_true rfl) rfl ?_
  refine rn_iconst (v := 0) 3 dX5_settle_2 (by decide) rfl ?_
  refine rn_istore_n 4 [some (.ref 8), some (.int 1), some (.int 0), none, none, none, none, none] dX5_settle_3 rfl rfl (Nat.le_of_ble_eq_true rfl) rfl ?_
  exact lp_settle2 d 8 0 (D, U, true) mu h (by omega) hg hL hR (fun _ _ _ => rfl) rfl
