/-! DISTANCES: repairs, a run (the class) -/
theorem fl_1 (f : Nat → Int32) (e : Nat) (v : Int32) : upd (fun j => if j < e then v else f j) e v = (fun j => if j < (e + 1) then v else f j) := by
  funext j
  unfold upd
  by_cases hj : j = e
  · subst hj
    rw [if_pos rfl, if_pos (by omega)]
  · rw [if_neg hj]
    show (if j < e then v else f j) = _
    by_cases h2 : j < e
    · rw [if_pos h2, if_pos (by omega)]
    · rw [if_neg h2, if_neg (by omega)]
abbrev Du : Type := (Nat → Nat) × (Nat → Nat)
def rp (g : List Ed) (S : Nat) (B : Du) (e : Nat) (s : Du) : Du := if S.testBit e = true ∧ B.1 (eF g e) + eL g e < s.1 (eT g e) then (va_up s.1 (eT g e) (B.1 (eF g e) + eL g e), va_up s.2 (eT g e) (B.2 (eF g e) ||| 2 ^ e)) else s
def rpf (g : List Ed) (S : Nat) (B : Du) : Nat → Nat → Du → Du
  | 0, _, s => s
  | k + 1, e, s => rpf g S B k (e + 1) (rp g S B e s)
def st0 (s v : Nat) : Nat := if v = s then 0 else 9999
def rst (g : List Ed) (S : Nat) (p : Du) : Du := ((ro g (eW g S) 8 (p.1, p.2, true)).1, (ro g (eW g S) 8 (p.1, p.2, true)).2.1)
/-- what a run leaves, by its repairs -/
def rlay (g : List Ed) (S s : Nat) : Nat → Du
  | 0 => rst g S (st0 s, fun _ => 0)
  | k + 1 => rst g S (rpf g S (rlay g S s k) g.length 0 (rlay g S s k))
def RB (B : Du) (mu : Nat → Nat → Int32) : Prop := ∀ v, v < 8 → mu 12 v = nI (B.1 v) ∧ mu 13 v = nI (B.2 v) ∧ B.1 v ≤ 9999 ∧ B.2 v < 2 ^ 16

set_option maxRecDepth 100000 in
set_option maxHeartbeats 2000000 in
theorem lp_fillA10 (d : Nat) (mu : Nat → Nat → Int32) (h : Int64) (v : Int32) : ∀ (k e : Nat), e + k = 8 → rn_R none mJ7_fill_53178 d 5 [some (.ref 10), some (.int v), some (.int (nI e)), some (.int 8)] [] (mu_r mu 10 (fun j => if j < e then v else mu 10 j)) h (pq none (mu_r mu 10 (fun j => if j < 8 then v else mu 10 j)) h) := by
  intro k
  induction k with
  | zero =>
    intro e hek
    refine rn_iload_n 6 dJ7_fill_53178_5 rfl rfl rfl ?_
    refine rn_iload_n 7 dJ7_fill_53178_6 rfl rfl rfl ?_
    refine rn_icmp_ge 20 10 dJ7_fill_53178_7 (by decide) rfl (fun _ => ?_) (fun c7 => absurd (nI_le (a := 8) (by omega) (by omega)) c7)
    exact rn_vret rfl dJ7_fill_53178_20 (⟨rfl, by rw [show e = 8 by omega], rfl⟩)
  | succ k ih =>
    intro e hek
    refine rn_iload_n 6 dJ7_fill_53178_5 rfl rfl rfl ?_
    refine rn_iload_n 7 dJ7_fill_53178_6 rfl rfl rfl ?_
    refine rn_icmp_ge 20 10 dJ7_fill_53178_7 (by decide) rfl (fun c7 => absurd c7 (nI_ge (b := 8) (by omega) (by omega))) (fun _ => ?_)
    refine rn_aload_n 11 dJ7_fill_53178_10 rfl rfl rfl ?_
    refine rn_iload_n 12 dJ7_fill_53178_11 rfl rfl rfl ?_
    refine rn_iload_n 13 dJ7_fill_53178_12 rfl rfl rfl ?_
    refine rn_iast 14 dJ7_fill_53178_13 rfl (vp_in_nI (by omega) (by omega)) rfl ?_
    rw [nI_clamp (by omega), mu_rs]
    rw [fl_1 (mu 10) e v]
    refine rn_iinc (v := (nI (e + 1))) 17 [some (.ref 10), some (.int v), some (.int (nI (e + 1))), some (.int 8)] dJ7_fill_53178_14 rfl (nI_1 _) rfl rfl ?_
    refine rn_goto 5 dJ7_fill_53178_17 (by decide) ?_
    exact ih (e + 1) (by omega)

set_option maxRecDepth 100000 in
set_option maxHeartbeats 2000000 in
theorem c_fillA10 (d : Nat) (mu : Nat → Nat → Int32) (h : Int64) (v : Int32) : gd_G mJ7_fill_53178 d [.ref 10, .int v] mu h (pq none (mu_r mu 10 (fun j => if j < 8 then v else mu 10 j)) h) := by
  refine gd_of rfl (Nat.le_of_ble_eq_true rfl) ?_
  show rn_R none mJ7_fill_53178 d 0 [some (.ref 10), some (.int v), none, none] [] mu h (pq none (mu_r mu 10 (fun j => if j < 8 then v else mu 10 j)) h)
  refine rn_iconst (v := 0) 1 dJ7_fill_53178_0 (by decide) rfl ?_
  refine rn_istore_n 2 [some (.ref 10), some (.int v), some (.int 0), none] dJ7_fill_53178_1 rfl rfl (Nat.le_of_ble_eq_true rfl) rfl ?_
  refine rn_aload_n 3 dJ7_fill_53178_2 rfl rfl rfl ?_
  refine rn_alen (ty := .int) 4 8 dJ7_fill_53178_3 rfl (by decide) (by decide) rfl ?_
  refine rn_istore_n 5 [some (.ref 10), some (.int v), some (.int 0), some (.int 8)] dJ7_fill_53178_4 rfl rfl (Nat.le_of_ble_eq_true rfl) rfl ?_
  have z := lp_fillA10 d mu h v 8 0 (by omega)
  rw [show (fun j => if j < 0 then v else mu 10 j) = mu 10 from funext (fun j => by simp), mu_r_id] at z
  exact z

set_option maxRecDepth 100000 in
set_option maxHeartbeats 2000000 in
theorem lp_fillA11 (d : Nat) (mu : Nat → Nat → Int32) (h : Int64) (v : Int32) : ∀ (k e : Nat), e + k = 8 → rn_R none mJ7_fill_53178 d 5 [some (.ref 11), some (.int v), some (.int (nI e)), some (.int 8)] [] (mu_r mu 11 (fun j => if j < e then v else mu 11 j)) h (pq none (mu_r mu 11 (fun j => if j < 8 then v else mu 11 j)) h) := by
  intro k
  induction k with
  | zero =>
    intro e hek
    refine rn_iload_n 6 dJ7_fill_53178_5 rfl rfl rfl ?_
    refine rn_iload_n 7 dJ7_fill_53178_6 rfl rfl rfl ?_
    refine rn_icmp_ge 20 10 dJ7_fill_53178_7 (by decide) rfl (fun _ => ?_) (fun c7 => absurd (nI_le (a := 8) (by omega) (by omega)) c7)
    exact rn_vret rfl dJ7_fill_53178_20 (⟨rfl, by rw [show e = 8 by omega], rfl⟩)
  | succ k ih =>
    intro e hek
    refine rn_iload_n 6 dJ7_fill_53178_5 rfl rfl rfl ?_
    refine rn_iload_n 7 dJ7_fill_53178_6 rfl rfl rfl ?_
    refine rn_icmp_ge 20 10 dJ7_fill_53178_7 (by decide) rfl (fun c7 => absurd c7 (nI_ge (b := 8) (by omega) (by omega))) (fun _ => ?_)
    refine rn_aload_n 11 dJ7_fill_53178_10 rfl rfl rfl ?_
    refine rn_iload_n 12 dJ7_fill_53178_11 rfl rfl rfl ?_
    refine rn_iload_n 13 dJ7_fill_53178_12 rfl rfl rfl ?_
    refine rn_iast 14 dJ7_fill_53178_13 rfl (vp_in_nI (by omega) (by omega)) rfl ?_
    rw [nI_clamp (by omega), mu_rs]
    rw [fl_1 (mu 11) e v]
    refine rn_iinc (v := (nI (e + 1))) 17 [some (.ref 11), some (.int v), some (.int (nI (e + 1))), some (.int 8)] dJ7_fill_53178_14 rfl (nI_1 _) rfl rfl ?_
    refine rn_goto 5 dJ7_fill_53178_17 (by decide) ?_
    exact ih (e + 1) (by omega)

set_option maxRecDepth 100000 in
set_option maxHeartbeats 2000000 in
theorem c_fillA11 (d : Nat) (mu : Nat → Nat → Int32) (h : Int64) (v : Int32) : gd_G mJ7_fill_53178 d [.ref 11, .int v] mu h (pq none (mu_r mu 11 (fun j => if j < 8 then v else mu 11 j)) h) := by
  refine gd_of rfl (Nat.le_of_ble_eq_true rfl) ?_
  show rn_R none mJ7_fill_53178 d 0 [some (.ref 11), some (.int v), none, none] [] mu h (pq none (mu_r mu 11 (fun j => if j < 8 then v else mu 11 j)) h)
  refine rn_iconst (v := 0) 1 dJ7_fill_53178_0 (by decide) rfl ?_
  refine rn_istore_n 2 [some (.ref 11), some (.int v), some (.int 0), none] dJ7_fill_53178_1 rfl rfl (Nat.le_of_ble_eq_true rfl) rfl ?_
  refine rn_aload_n 3 dJ7_fill_53178_2 rfl rfl rfl ?_
  refine rn_alen (ty := .int) 4 8 dJ7_fill_53178_3 rfl (by decide) (by decide) rfl ?_
  refine rn_istore_n 5 [some (.ref 11), some (.int v), some (.int 0), some (.int 8)] dJ7_fill_53178_4 rfl rfl (Nat.le_of_ble_eq_true rfl) rfl ?_
  have z := lp_fillA11 d mu h v 8 0 (by omega)
  rw [show (fun j => if j < 0 then v else mu 11 j) = mu 11 from funext (fun j => by simp), mu_r_id] at z
  exact z

set_option maxRecDepth 100000 in
set_option maxHeartbeats 2000000 in
theorem lp_rep1 (d : Nat) {B : Du} {mu0 : Nat → Nat → Int32} {S : Int32} {Q : rn_Q} : ∀ (k v : Nat) (mu : Nat → Nat → Int32) (h : Int64), v + k = 8 → RD B.1 B.2 mu → (∀ w, w < v → mu 12 w = nI (B.1 w) ∧ mu 13 w = nI (B.2 w)) → (∀ c, c ≠ 12 → c ≠ 13 → mu c = mu0 c) → (∀ mu' : Nat → Nat → Int32, RD B.1 B.2 mu' → RB B mu' → (∀ c, c ≠ 12 → c ≠ 13 → mu' c = mu0 c) → rn_R none mX5_repairOnce d 38 [some (.ref 8), some (.int S), none, none, none, none, none] [] mu' h Q) → rn_R none mX5_repairOnce d 2 [some (.ref 8), some (.int S), some (.int (nI v)), none, none, none, none] [] mu h Q := by
  intro k
  induction k with
  | zero =>
    intro v mu h hk hR hB hfr kk
    refine rn_iload_n 3 dX5_repairOnce_2 rfl rfl rfl ?_
    refine rn_bipush (v := 8) 5 dX5_repairOnce_3 (by decide) rfl ?_
    refine rn_icmp_ge 38 8 dX5_repairOnce_5 (by decide) rfl (fun _ => ?_) (fun c5 => absurd (nI_le (a := 8) (by omega) (by omega)) c5)
    refine rn_drop 2 [some (.ref 8), some (.int S), none, none, none, none, none] rfl ?_
    exact kk mu hR (fun w hw => ⟨(hB w (by omega)).1, (hB w (by omega)).2, (hR w hw).2.2.1, (hR w hw).2.2.2⟩) hfr
  | succ k ih =>
    intro v mu h hk hR hB hfr kk
    have hv := hR v (by omega)
    refine rn_iload_n 3 dX5_repairOnce_2 rfl rfl rfl ?_
    refine rn_bipush (v := 8) 5 dX5_repairOnce_3 (by decide) rfl ?_
    refine rn_icmp_ge 38 8 dX5_repairOnce_5 (by decide) rfl (fun c5 => absurd c5 (nI_ge (b := 8) (by omega) (by omega))) (fun _ => ?_)
    refine rn_aload_n 9 dX5_repairOnce_8 rfl rfl rfl ?_
    refine rn_get 12 (.ref 12) dX5_repairOnce_9 fl_X5_21 rfl rfl rfl rfl ?_
    refine rn_iload_n 13 dX5_repairOnce_12 rfl rfl rfl ?_
    refine rn_aload_n 14 dX5_repairOnce_13 rfl rfl rfl ?_
    refine rn_get 17 (.ref 10) dX5_repairOnce_14 fl_X5_15 rfl rfl rfl rfl ?_
    refine rn_iload_n 18 dX5_repairOnce_17 rfl rfl rfl ?_
    refine rn_iald 19 (nI (B.1 v)) dX5_repairOnce_18 rfl (vp_in_nI (by omega) (by omega)) (by rw [nI_clamp (by omega)]; exact hv.1) rfl ?_
    refine rn_iast 20 dX5_repairOnce_19 rfl (vp_in_nI (by omega) (by omega)) rfl ?_
    rw [nI_clamp (by omega)]
    refine rn_aload_n 21 dX5_repairOnce_20 rfl rfl rfl ?_
    refine rn_get 24 (.ref 13) dX5_repairOnce_21 fl_X5_24 rfl rfl rfl rfl ?_
    refine rn_iload_n 25 dX5_repairOnce_24 rfl rfl rfl ?_
    refine rn_aload_n 26 dX5_repairOnce_25 rfl rfl rfl ?_
    refine rn_get 29 (.ref 11) dX5_repairOnce_26 fl_X5_18 rfl rfl rfl rfl ?_
    refine rn_iload_n 30 dX5_repairOnce_29 rfl rfl rfl ?_
    refine rn_iald 31 (nI (B.2 v)) dX5_repairOnce_30 rfl (vp_in_nI (by omega) (by omega)) (by rw [nI_clamp (by omega)]; exact hv.2.1) rfl ?_
    refine rn_iast 32 dX5_repairOnce_31 rfl (vp_in_nI (by omega) (by omega)) rfl ?_
    rw [nI_clamp (by omega)]
    refine rn_iinc (v := (nI (v + 1))) 35 [some (.ref 8), some (.int S), some (.int (nI (v + 1))), none, none, none, none] dX5_repairOnce_32 rfl (nI_1 _) rfl rfl ?_
    refine rn_goto 2 dX5_repairOnce_35 (by decide) ?_
    refine ih (v + 1) (mu_s (mu_s mu 12 v (nI (B.1 v))) 13 v (nI (B.2 v))) h (by omega) (fun w hw => hR w hw) (fun w hw => ?_) (fun c c1 c2 => by simp [mu_s, c1, c2]; exact hfr c c1 c2) kk
    show upd (mu 12) v (nI (B.1 v)) w = _ ∧ upd (mu 13) v (nI (B.2 v)) w = _
    by_cases q : w = v
    · subst q; rw [pk_us, pk_us]; exact ⟨rfl, rfl⟩
    · rw [pk_un q, pk_un q]; exact hB w (by omega)

set_option maxRecDepth 100000 in
set_option maxHeartbeats 2000000 in
theorem lp_rep2 (d : Nat) {g : List Ed} {S : Nat} (hS : S < 2 ^ 31) {B : Du} {mu0 : Nat → Nat → Int32} : ∀ (k e : Nat) (s : Du) (mu : Nat → Nat → Int32) (h : Int64), e + k = g.length → xg g mu → RD s.1 s.2 mu → RB B mu → (∀ c, c ≠ 10 → c ≠ 11 → c ≠ 12 → c ≠ 13 → mu c = mu0 c) → rn_R none mX5_repairOnce d 40 [some (.ref 8), some (.int (nI S)), some (.int (nI e)), none, none, none, none] [] mu h (fun r mu' _ => r = none ∧ RD (rpf g S B k e s).1 (rpf g S B k e s).2 mu' ∧ ∀ c, c ≠ 10 → c ≠ 11 → c ≠ 12 → c ≠ 13 → mu' c = mu0 c) := by
  intro k
  induction k with
  | zero =>
    intro e s mu h hek hg hR hB hfr
    refine rn_iload_n 41 dX5_repairOnce_40 rfl rfl rfl ?_
    refine rn_aload_n 42 dX5_repairOnce_41 rfl rfl rfl ?_
    refine rn_get 45 (.ref 1) dX5_repairOnce_42 fl_X5_30 rfl rfl rfl rfl ?_
    refine rn_get 48 (.int (mu 1 1)) dX5_repairOnce_45 fl_X5_61 rfl rfl rfl rfl ?_
    refine rn_icmp_ge 145 51 dX5_repairOnce_48 (by decide) rfl (fun _ => ?_) (fun c48 => absurd (by rw [hg.2.2.1]; exact nI_le (by omega) (by have := hg.1; omega)) c48)
    exact rn_vret rfl dX5_repairOnce_145 (⟨rfl, hR, hfr⟩)
  | succ k ih =>
    intro e s mu h hek hg hR hB hfr
    have hlt : e < g.length := by omega
    have h16 := hg.1
    have hpk := xg_pk hg hlt
    have hok := e_at hg.2.1 hlt
    have hu := hB (eF g e) hok.1
    have hv := hR (eT g e) hok.2.1
    have hbit := nb_bit (n := S) (e := e) hS (by omega)
    refine rn_iload_n 41 dX5_repairOnce_40 rfl rfl rfl ?_
    refine rn_aload_n 42 dX5_repairOnce_41 rfl rfl rfl ?_
    refine rn_get 45 (.ref 1) dX5_repairOnce_42 fl_X5_30 rfl rfl rfl rfl ?_
    refine rn_get 48 (.int (mu 1 1)) dX5_repairOnce_45 fl_X5_61 rfl rfl rfl rfl ?_
    refine rn_icmp_ge 145 51 dX5_repairOnce_48 (by decide) rfl (fun c48 => absurd c48 (by rw [hg.2.2.1]; exact nI_ge hlt (by omega))) (fun _ => ?_)
    refine rn_aload_n 52 dX5_repairOnce_51 rfl rfl rfl ?_
    refine rn_get 55 (.ref 1) dX5_repairOnce_52 fl_X5_30 rfl rfl rfl rfl ?_
    refine rn_get 58 (.ref 2) dX5_repairOnce_55 fl_X5_65 rfl rfl rfl rfl ?_
    refine rn_iload_n 59 dX5_repairOnce_58 rfl rfl rfl ?_
    refine rn_iald 60 (mu 2 e) dX5_repairOnce_59 rfl (vp_in_nI (by omega) (by omega)) (congrArg (mu 2) (nI_clamp (by omega))) rfl ?_
    refine rn_istore_n 61 [some (.ref 8), some (.int (nI S)), some (.int (nI e)), some (.int (mu 2 e)), none, none, none] dX5_repairOnce_60 rfl rfl (Nat.le_of_ble_eq_true rfl) rfl ?_
    refine rn_iload_n 62 dX5_repairOnce_61 rfl rfl rfl ?_
    refine rn_bipush (v := 7) 64 dX5_repairOnce_62 (by decide) rfl ?_
    refine rn_iand 65 dX5_repairOnce_64 rfl ?_
    rw [hpk.1]
    refine rn_istore 67 [some (.ref 8), some (.int (nI S)), some (.int (nI e)), some (.int (mu 2 e)), some (.int (nI (eF g e))), none, none] dX5_repairOnce_65 rfl (Nat.le_of_ble_eq_true rfl) rfl ?_
    refine rn_iload_n 68 dX5_repairOnce_67 rfl rfl rfl ?_
    refine rn_iconst (v := 3) 69 dX5_repairOnce_68 (by decide) rfl ?_
    refine rn_ishr 70 dX5_repairOnce_69 rfl ?_
    refine rn_bipush (v := 7) 72 dX5_repairOnce_70 (by decide) rfl ?_
    refine rn_iand 73 dX5_repairOnce_72 rfl ?_
    rw [hpk.2.1]
    refine rn_istore 75 [some (.ref 8), some (.int (nI S)), some (.int (nI e)), some (.int (mu 2 e)), some (.int (nI (eF g e))), some (.int (nI (eT g e))), none] dX5_repairOnce_73 rfl (Nat.le_of_ble_eq_true rfl) rfl ?_
    refine rn_aload_n 76 dX5_repairOnce_75 rfl rfl rfl ?_
    refine rn_get 79 (.ref 12) dX5_repairOnce_76 fl_X5_21 rfl rfl rfl rfl ?_
    refine rn_iload 81 dX5_repairOnce_79 rfl rfl ?_
    refine rn_iald 82 (nI (B.1 (eF g e))) dX5_repairOnce_81 rfl (vp_in_nI (by omega) (by omega)) (by rw [nI_clamp (by omega)]; exact hu.1) rfl ?_
    refine rn_iload_n 83 dX5_repairOnce_82 rfl rfl rfl ?_
    refine rn_bipush (v := 6) 85 dX5_repairOnce_83 (by decide) rfl ?_
    refine rn_ishr 86 dX5_repairOnce_85 rfl ?_
    refine rn_bipush (v := 127) 88 dX5_repairOnce_86 (by decide) rfl ?_
    refine rn_iand 89 dX5_repairOnce_88 rfl ?_
    rw [hpk.2.2.1]
    refine rn_iadd 90 dX5_repairOnce_89 rfl ?_
    rw [nI_add]
    refine rn_istore 92 [some (.ref 8), some (.int (nI S)), some (.int (nI e)), some (.int (mu 2 e)), some (.int (nI (eF g e))), some (.int (nI (eT g e))), some (.int (nI (B.1 (eF g e) + eL g e)))] dX5_repairOnce_90 rfl (Nat.le_of_ble_eq_true rfl) rfl ?_
    refine rn_iload_n 93 dX5_repairOnce_92 rfl rfl rfl ?_
    refine rn_iload_n 94 dX5_repairOnce_93 rfl rfl rfl ?_
    refine rn_ishr 95 dX5_repairOnce_94 rfl ?_
    refine rn_iconst (v := 1) 96 dX5_repairOnce_95 (by decide) rfl ?_
    refine rn_iand 97 dX5_repairOnce_96 rfl ?_
    cases hb : S.testBit e with
    | false =>
      rw [hb] at hbit
      have er : rp g S B e s = s := if_neg (fun z => absurd z.1 (by rw [hb]; decide))
      refine rn_if_eq 139 100 dX5_repairOnce_97 (by decide) rfl (fun _ => ?_) (fun c97 => absurd (by rw [hbit]; rfl) c97)
      refine rn_iinc (v := (nI (e + 1))) 142 [some (.ref 8), some (.int (nI S)), some (.int (nI (e + 1))), some (.int (mu 2 e)), some (.int (nI (eF g e))), some (.int (nI (eT g e))), some (.int (nI (B.1 (eF g e) + eL g e)))] dX5_repairOnce_139 rfl (nI_1 _) rfl rfl ?_
      refine rn_goto 40 dX5_repairOnce_142 (by decide) ?_
      refine rn_drop 3 [some (.ref 8), some (.int (nI S)), some (.int (nI (e + 1))), none, some (.int (nI (eF g e))), some (.int (nI (eT g e))), some (.int (nI (B.1 (eF g e) + eL g e)))] rfl ?_
      refine rn_drop 4 [some (.ref 8), some (.int (nI S)), some (.int (nI (e + 1))), none, none, some (.int (nI (eT g e))), some (.int (nI (B.1 (eF g e) + eL g e)))] rfl ?_
      refine rn_drop 5 [some (.ref 8), some (.int (nI S)), some (.int (nI (e + 1))), none, none, none, some (.int (nI (B.1 (eF g e) + eL g e)))] rfl ?_
      refine rn_drop 6 [some (.ref 8), some (.int (nI S)), some (.int (nI (e + 1))), none, none, none, none] rfl ?_
      have z := ih (e + 1) (rp g S B e s) mu h (by omega) hg (by rw [er]; exact hR) hB hfr
      exact z
    | true =>
      rw [hb] at hbit
      by_cases q : B.1 (eF g e) + eL g e < s.1 (eT g e)
      · skip
        have er : rp g S B e s = (va_up s.1 (eT g e) (B.1 (eF g e) + eL g e), va_up s.2 (eT g e) (B.2 (eF g e) ||| 2 ^ e)) := if_pos ⟨hb, q⟩
        have hU : B.2 (eF g e) ||| 2 ^ e < 2 ^ 16 := tb_add_lt hu.2.2.2 (by omega)
        refine rn_if_eq 139 100 dX5_repairOnce_97 (by decide) rfl (fun c97 => absurd c97 (by rw [hbit]; decide)) (fun _ => ?_)
        refine rn_iload 102 dX5_repairOnce_100 rfl rfl ?_
        refine rn_aload_n 103 dX5_repairOnce_102 rfl rfl rfl ?_
        refine rn_get 106 (.ref 10) dX5_repairOnce_103 fl_X5_15 rfl rfl rfl rfl ?_
        refine rn_iload 108 dX5_repairOnce_106 rfl rfl ?_
        refine rn_iald 109 (nI (s.1 (eT g e))) dX5_repairOnce_108 rfl (vp_in_nI (by omega) (by omega)) (by rw [nI_clamp (by omega)]; exact hv.1) rfl ?_
        refine rn_icmp_ge 139 112 dX5_repairOnce_109 (by decide) rfl (fun c109 => absurd c109 (nI_ge q (by omega))) (fun _ => ?_)
        refine rn_aload_n 113 dX5_repairOnce_112 rfl rfl rfl ?_
        refine rn_get 116 (.ref 10) dX5_repairOnce_113 fl_X5_15 rfl rfl rfl rfl ?_
        refine rn_iload 118 dX5_repairOnce_116 rfl rfl ?_
        refine rn_iload 120 dX5_repairOnce_118 rfl rfl ?_
        refine rn_iast 121 dX5_repairOnce_120 rfl (vp_in_nI (by omega) (by omega)) rfl ?_
        rw [nI_clamp (by omega)]
        refine rn_aload_n 122 dX5_repairOnce_121 rfl rfl rfl ?_
        refine rn_get 125 (.ref 11) dX5_repairOnce_122 fl_X5_18 rfl rfl rfl rfl ?_
        refine rn_iload 127 dX5_repairOnce_125 rfl rfl ?_
        refine rn_aload_n 128 dX5_repairOnce_127 rfl rfl rfl ?_
        refine rn_get 131 (.ref 13) dX5_repairOnce_128 fl_X5_24 rfl rfl rfl rfl ?_
        refine rn_iload 133 dX5_repairOnce_131 rfl rfl ?_
        refine rn_iald 134 (nI (B.2 (eF g e))) dX5_repairOnce_133 rfl (vp_in_nI (by omega) (by omega)) (by rw [nI_clamp (by omega)]; exact hu.2.1) rfl ?_
        refine rn_iconst (v := 1) 135 dX5_repairOnce_134 (by decide) rfl ?_
        refine rn_iload_n 136 dX5_repairOnce_135 rfl rfl rfl ?_
        refine rn_ishl 137 dX5_repairOnce_136 rfl ?_
        refine rn_ior 138 dX5_repairOnce_137 rfl ?_
        rw [nb_1 (by omega), nb_or]
        refine rn_iast 139 dX5_repairOnce_138 rfl (vp_in_nI (by omega) (by omega)) rfl ?_
        rw [nI_clamp (by omega)]
        refine rn_iinc (v := (nI (e + 1))) 142 [some (.ref 8), some (.int (nI S)), some (.int (nI (e + 1))), some (.int (mu 2 e)), some (.int (nI (eF g e))), some (.int (nI (eT g e))), some (.int (nI (B.1 (eF g e) + eL g e)))] dX5_repairOnce_139 rfl (nI_1 _) rfl rfl ?_
        refine rn_goto 40 dX5_repairOnce_142 (by decide) ?_
        refine rn_drop 3 [some (.ref 8), some (.int (nI S)), some (.int (nI (e + 1))), none, some (.int (nI (eF g e))), some (.int (nI (eT g e))), some (.int (nI (B.1 (eF g e) + eL g e)))] rfl ?_
        refine rn_drop 4 [some (.ref 8), some (.int (nI S)), some (.int (nI (e + 1))), none, none, some (.int (nI (eT g e))), some (.int (nI (B.1 (eF g e) + eL g e)))] rfl ?_
        refine rn_drop 5 [some (.ref 8), some (.int (nI S)), some (.int (nI (e + 1))), none, none, none, some (.int (nI (B.1 (eF g e) + eL g e)))] rfl ?_
        refine rn_drop 6 [some (.ref 8), some (.int (nI S)), some (.int (nI (e + 1))), none, none, none, none] rfl ?_
        have z := ih (e + 1) (rp g S B e s) (mu_s (mu_s mu 10 (eT g e) (nI (B.1 (eF g e) + eL g e))) 11 (eT g e) (nI (B.2 (eF g e) ||| 2 ^ e))) h (by omega) (xg_of (mu' := mu_s (mu_s mu 10 (eT g e) (nI (B.1 (eF g e) + eL g e))) 11 (eT g e) (nI (B.2 (eF g e) ||| 2 ^ e))) hg rfl rfl) (by rw [er]; exact RD_up hR hok.2.1 (by omega) hU) (fun w hw => hB w hw) (fun c c1 c2 c3 c4 => by simp [mu_s, c1, c2]; exact hfr c c1 c2 c3 c4)
        exact z
      · skip
        have er : rp g S B e s = s := if_neg (fun z => q z.2)
        refine rn_if_eq 139 100 dX5_repairOnce_97 (by decide) rfl (fun c97 => absurd c97 (by rw [hbit]; decide)) (fun _ => ?_)
        refine rn_iload 102 dX5_repairOnce_100 rfl rfl ?_
        refine rn_aload_n 103 dX5_repairOnce_102 rfl rfl rfl ?_
        refine rn_get 106 (.ref 10) dX5_repairOnce_103 fl_X5_15 rfl rfl rfl rfl ?_
        refine rn_iload 108 dX5_repairOnce_106 rfl rfl ?_
        refine rn_iald 109 (nI (s.1 (eT g e))) dX5_repairOnce_108 rfl (vp_in_nI (by omega) (by omega)) (by rw [nI_clamp (by omega)]; exact hv.1) rfl ?_
        refine rn_icmp_ge 139 112 dX5_repairOnce_109 (by decide) rfl (fun _ => ?_) (fun c109 => absurd (nI_le (by omega) (by omega)) c109)
        refine rn_iinc (v := (nI (e + 1))) 142 [some (.ref 8), some (.int (nI S)), some (.int (nI (e + 1))), some (.int (mu 2 e)), some (.int (nI (eF g e))), some (.int (nI (eT g e))), some (.int (nI (B.1 (eF g e) + eL g e)))] dX5_repairOnce_139 rfl (nI_1 _) rfl rfl ?_
        refine rn_goto 40 dX5_repairOnce_142 (by decide) ?_
        refine rn_drop 3 [some (.ref 8), some (.int (nI S)), some (.int (nI (e + 1))), none, some (.int (nI (eF g e))), some (.int (nI (eT g e))), some (.int (nI (B.1 (eF g e) + eL g e)))] rfl ?_
        refine rn_drop 4 [some (.ref 8), some (.int (nI S)), some (.int (nI (e + 1))), none, none, some (.int (nI (eT g e))), some (.int (nI (B.1 (eF g e) + eL g e)))] rfl ?_
        refine rn_drop 5 [some (.ref 8), some (.int (nI S)), some (.int (nI (e + 1))), none, none, none, some (.int (nI (B.1 (eF g e) + eL g e)))] rfl ?_
        refine rn_drop 6 [some (.ref 8), some (.int (nI S)), some (.int (nI (e + 1))), none, none, none, none] rfl ?_
        have z := ih (e + 1) (rp g S B e s) mu h (by omega) hg (by rw [er]; exact hR) hB hfr
        exact z

set_option maxRecDepth 100000 in
set_option maxHeartbeats 2000000 in
theorem c_repairOnce (d : Nat) {g : List Ed} {S : Nat} (hS : S < 2 ^ 31) {B : Du} {mu : Nat → Nat → Int32} (h : Int64) (hg : xg g mu) (hR : RD B.1 B.2 mu) : gd_G mX5_repairOnce d [.ref 8, .int (nI S)] mu h (fun r mu' _ => r = none ∧ RD (rpf g S B g.length 0 B).1 (rpf g S B g.length 0 B).2 mu' ∧ ∀ c, c ≠ 10 → c ≠ 11 → c ≠ 12 → c ≠ 13 → mu' c = mu c) := by
  refine gd_of rfl (Nat.le_of_ble_eq_true rfl) ?_
  show rn_R none mX5_repairOnce d 0 [some (.ref 8), some (.int (nI S)), none, none, none, none, none] [] mu h (fun r mu' _ => r = none ∧ RD (rpf g S B g.length 0 B).1 (rpf g S B g.length 0 B).2 mu' ∧ ∀ c, c ≠ 10 → c ≠ 11 → c ≠ 12 → c ≠ 13 → mu' c = mu c)
  refine rn_iconst (v := 0) 1 dX5_repairOnce_0 (by decide) rfl ?_
  refine rn_istore_n 2 [some (.ref 8), some (.int (nI S)), some (.int 0), none, none, none, none] dX5_repairOnce_1 rfl rfl (Nat.le_of_ble_eq_true rfl) rfl ?_
  refine lp_rep1 d (mu0 := mu) 8 0 mu h (by omega) hR (fun w hw => by omega) (fun _ _ _ => rfl) (fun mu' hR' hB' hfr' => ?_)
  refine rn_iconst (v := 0) 39 dX5_repairOnce_38 (by decide) rfl ?_
  refine rn_istore_n 40 [some (.ref 8), some (.int (nI S)), some (.int 0), none, none, none, none] dX5_repairOnce_39 rfl rfl (Nat.le_of_ble_eq_true rfl) rfl ?_
  exact lp_rep2 d hS g.length 0 B mu' h (by omega) (xg_of hg (by rw [hfr' 1 (by omega) (by omega)]) (hfr' 2 (by omega) (by omega))) hR' hB' (fun c c1 c2 c3 c4 => hfr' c c3 c4)
