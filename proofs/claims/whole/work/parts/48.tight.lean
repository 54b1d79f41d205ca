/-! BOTH SIDES: tight -/
def tgS (g : List Ed) (S s t : Nat) : Nat → Nat
  | 0 => 0
  | k + 1 => if xD g S s (eF g k) 0 + eW g S k + xD g S (eT g k) t 0 = xD g S s t 0 then tgS g S s t k ||| 2 ^ k else tgS g S s t k
theorem tgS_lt {g : List Ed} {S s t : Nat} : ∀ {n : Nat} (k : Nat), k ≤ n → tgS g S s t k < 2 ^ n := by
  intro n k
  induction k with
  | zero => intro _; exact pw_pos n
  | succ k ih =>
    intro hk
    show (if xD g S s (eF g k) 0 + eW g S k + xD g S (eT g k) t 0 = xD g S s t 0 then tgS g S s t k ||| 2 ^ k else tgS g S s t k) < 2 ^ n
    split
    · exact tb_add_lt (ih (by omega)) (by omega)
    · exact ih (by omega)
theorem xD_le {g : List Ed} {S s t rep : Nat} (ho : ∀ x ∈ g, e_ok x) (ht : t < 8) : xD g S s t rep ≤ 9999 := (xD_DD ho ht).1

set_option maxRecDepth 100000 in
set_option maxHeartbeats 2000000 in
theorem lp_tg1 (d : Nat) {g : List Ed} {S s t : Nat} (hS : S < 2 ^ 31) (hs : s < 8) (ht : t < 8) {mu0 : Nat → Nat → Int32} {Q : rn_Q} : ∀ (k i : Nat) (mu : Nat → Nat → Int32) (h : Int64), i + k = 8 → (xg g mu) → (∀ w, w < i → mu 14 w = nI (xD g S w t 0)) → (∀ c, c < 9 ∨ 14 < c → mu c = mu0 c) → (∀ (mu' : Nat → Nat → Int32) (h' : Int64), xg g mu' → (∀ w, w < 8 → mu' 14 w = nI (xD g S w t 0)) → (∀ c, c < 9 ∨ 14 < c → mu' c = mu0 c) → rn_R none mX5_tightEdges (d + 3) 32 [some (.ref 8), some (.int (nI s)), some (.int (nI t)), some (.int (nI S)), none, none, none] [] mu' h' Q) → rn_R none mX5_tightEdges (d + 3) 3 [some (.ref 8), some (.int (nI s)), some (.int (nI t)), some (.int (nI S)), some (.int (nI i)), none, none] [] mu h Q := by
  intro k
  induction k with
  | zero =>
    intro i mu h hek hg ho hfr kk
    refine rn_iload 5 dX5_tightEdges_3 rfl rfl ?_
    refine rn_bipush (v := 8) 7 dX5_tightEdges_5 (by decide) rfl ?_
    refine rn_icmp_ge 32 10 dX5_tightEdges_7 (by decide) rfl (fun _ => ?_) (fun c7 => absurd (nI_le (a := 8) (by omega) (by omega)) c7)
    refine rn_drop 4 [some (.ref 8), some (.int (nI s)), some (.int (nI t)), some (.int (nI S)), none, none, none] rfl ?_
    obtain rfl : i = 8 := by omega
    exact kk mu h hg ho hfr
  | succ k ih =>
    intro i mu h hek hg ho hfr kk
    refine rn_iload 5 dX5_tightEdges_3 rfl rfl ?_
    refine rn_bipush (v := 8) 7 dX5_tightEdges_5 (by decide) rfl ?_
    refine rn_icmp_ge 32 10 dX5_tightEdges_7 (by decide) rfl (fun c7 => absurd c7 (nI_ge (b := 8) (by omega) (by omega))) (fun _ => ?_)
    refine rn_aload_n 11 dX5_tightEdges_10 rfl rfl rfl ?_
    refine rn_get 14 (.ref 14) dX5_tightEdges_11 fl_X5_27 rfl rfl rfl rfl ?_
    refine rn_iload 16 dX5_tightEdges_14 rfl rfl ?_
    refine rn_aload_n 17 dX5_tightEdges_16 rfl rfl rfl ?_
    refine rn_iload 19 dX5_tightEdges_17 rfl rfl ?_
    refine rn_iload_n 20 dX5_tightEdges_19 rfl rfl rfl ?_
    refine rn_iload_n 21 dX5_tightEdges_20 rfl rfl rfl ?_
    refine rn_iconst (v := 0) 22 dX5_tightEdges_21 (by decide) rfl ?_
    refine rn_callV mX5_measure [.int (nI i), .int (nI t), .int (nI S), .int 0] [.int (nI i), .ref 14] dX5_tightEdges_22 cv_X5_68 rfl rfl rfl (by simp [Value.category]) (c_measure (d) (S := S) (s := i) (t := t) (rep := 0) hS (by omega) ht (by omega) h hg) (fun r1 m1 h1 q1 _ => ?_)
    obtain ⟨e1, R1, W1, f1⟩ := q1
    subst e1
    have hg1 : xg g m1 := xg_fr hg f1
    show rn_R _ mX5_tightEdges _ 25 [some (.ref 8), some (.int (nI s)), some (.int (nI t)), some (.int (nI S)), some (.int (nI i)), none, none] [.int (nI (xD g S i t 0)), .int (nI i), .ref 14] m1 h1 _
    refine rn_iast 26 dX5_tightEdges_25 rfl (vp_in_nI (by omega) (by omega)) rfl ?_
    rw [nI_clamp (by omega)]
    refine rn_iinc (v := (nI (i + 1))) 29 [some (.ref 8), some (.int (nI s)), some (.int (nI t)), some (.int (nI S)), some (.int (nI (i + 1))), none, none] dX5_tightEdges_26 rfl (nI_1 _) rfl rfl ?_
    refine rn_goto 3 dX5_tightEdges_29 (by decide) ?_
    exact ih (i + 1) _ h1 (by omega) (xg_of (mu' := mu_s m1 14 i (nI (xD g S i t 0))) hg1 rfl rfl) (fun w hw => by
      show upd (m1 14) i (nI (xD g S i t 0)) w = _
      by_cases q : w = i
      · subst q; rw [pk_us]
      · rw [pk_un q, f1 14 (by omega)]; exact ho w (by omega)) (fun c hc => by
      simp [mu_s, show c ≠ 14 by omega]; rw [f1 c (by omega)]; exact hfr c hc) kk

set_option maxRecDepth 100000 in
set_option maxHeartbeats 2000000 in
theorem lp_tg2 (d : Nat) {g : List Ed} {S s t : Nat} (hs : s < 8) (ht : t < 8) {mu : Nat → Nat → Int32} (h : Int64) (hg : xg g mu) (hR : RD (rlay g S s 0).1 (rlay g S s 0).2 mu) (hL : LW g (eW g S) mu) (ho : ∀ w, w < 8 → mu 14 w = nI (xD g S w t 0)) : ∀ (k e : Nat), e + k = g.length → rn_R none mX5_tightEdges (d + 3) 58 [some (.ref 8), some (.int (nI s)), some (.int (nI t)), some (.int (nI S)), some (.int (nI (xD g S s t 0))), some (.int (nI (tgS g S s t e))), some (.int (nI e))] [] mu h (pq (some (.int (nI (tgS g S s t g.length)))) mu h) := by
  intro k
  induction k with
  | zero =>
    intro e hek
    refine rn_iload 60 dX5_tightEdges_58 rfl rfl ?_
    refine rn_aload_n 61 dX5_tightEdges_60 rfl rfl rfl ?_
    refine rn_get 64 (.ref 1) dX5_tightEdges_61 fl_X5_30 rfl rfl rfl rfl ?_
    refine rn_get 67 (.int (mu 1 1)) dX5_tightEdges_64 fl_X5_61 rfl rfl rfl rfl ?_
    refine rn_icmp_ge 127 70 dX5_tightEdges_67 (by decide) rfl (fun _ => ?_) (fun c67 => absurd (by rw [hg.2.2.1]; exact nI_le (by omega) (by have := hg.1; omega)) c67)
    refine rn_iload 129 dX5_tightEdges_127 rfl rfl ?_
    exact rn_iret rfl dX5_tightEdges_129 (⟨by rw [show e = g.length by omega], rfl, rfl⟩)
  | succ k ih =>
    intro e hek
    have hlt : e < g.length := by omega
    have h16 := hg.1
    have hok := e_at hg.2.1 hlt
    have hx : (rlay g S s 0).1 (eF g e) = xD g S s (eF g e) 0 := by unfold xD; rw [show (if S = 0 then 0 else 0) = 0 by split <;> rfl]
    have b1 := xD_le (S := S) (s := s) (rep := 0) hg.2.1 hok.1
    have b2 := xD_le (S := S) (s := eT g e) (rep := 0) hg.2.1 ht
    have b3 := (hL e hlt).2
    have b4 := xD_le (S := S) (s := s) (rep := 0) hg.2.1 ht
    refine rn_iload 60 dX5_tightEdges_58 rfl rfl ?_
    refine rn_aload_n 61 dX5_tightEdges_60 rfl rfl rfl ?_
    refine rn_get 64 (.ref 1) dX5_tightEdges_61 fl_X5_30 rfl rfl rfl rfl ?_
    refine rn_get 67 (.int (mu 1 1)) dX5_tightEdges_64 fl_X5_61 rfl rfl rfl rfl ?_
    refine rn_icmp_ge 127 70 dX5_tightEdges_67 (by decide) rfl (fun c67 => absurd c67 (by rw [hg.2.2.1]; exact nI_ge hlt (by omega))) (fun _ => ?_)
    refine rn_aload_n 71 dX5_tightEdges_70 rfl rfl rfl ?_
    refine rn_get 74 (.ref 10) dX5_tightEdges_71 fl_X5_15 rfl rfl rfl rfl ?_
    refine rn_aload_n 75 dX5_tightEdges_74 rfl rfl rfl ?_
    refine rn_get 78 (.ref 1) dX5_tightEdges_75 fl_X5_30 rfl rfl rfl rfl ?_
    refine rn_iload 80 dX5_tightEdges_78 rfl rfl ?_
    refine rn_cvp mX2_from [.int (nI e)] [.ref 10] 83 (.int (nI (eF g e))) dX5_tightEdges_80 cv_X5_72 rfl rfl rfl (by simp [Value.category]) rfl (c_from (d + 1) h hg hlt) ?_
    refine rn_iald 84 (nI (xD g S s (eF g e) 0)) dX5_tightEdges_83 rfl (vp_in_nI (by omega) (by omega)) (by rw [nI_clamp (by omega)]; exact (hx ▸ (hR (eF g e) hok.1).1)) rfl ?_
    refine rn_aload_n 85 dX5_tightEdges_84 rfl rfl rfl ?_
    refine rn_get 88 (.ref 9) dX5_tightEdges_85 fl_X5_9 rfl rfl rfl rfl ?_
    refine rn_iload 90 dX5_tightEdges_88 rfl rfl ?_
    refine rn_iald 91 (nI (eW g S e)) dX5_tightEdges_90 rfl (vp_in_nI (by omega) (by omega)) (by rw [nI_clamp (by omega)]; exact (hL e hlt).1) rfl ?_
    refine rn_iadd 92 dX5_tightEdges_91 rfl ?_
    refine rn_aload_n 93 dX5_tightEdges_92 rfl rfl rfl ?_
    refine rn_get 96 (.ref 14) dX5_tightEdges_93 fl_X5_27 rfl rfl rfl rfl ?_
    refine rn_aload_n 97 dX5_tightEdges_96 rfl rfl rfl ?_
    refine rn_get 100 (.ref 1) dX5_tightEdges_97 fl_X5_30 rfl rfl rfl rfl ?_
    refine rn_iload 102 dX5_tightEdges_100 rfl rfl ?_
    refine rn_cvp mX2_to [.int (nI e)] [.ref 14, .int ((nI (xD g S s (eF g e) 0)) + (nI (eW g S e)))] 105 (.int (nI (eT g e))) dX5_tightEdges_102 cv_X5_75 rfl rfl rfl (by simp [Value.category]) rfl (c_to (d + 1) h hg hlt) ?_
    refine rn_iald 106 (nI (xD g S (eT g e) t 0)) dX5_tightEdges_105 rfl (vp_in_nI (by omega) (by omega)) (by rw [nI_clamp (by omega)]; exact ho (eT g e) hok.2.1) rfl ?_
    refine rn_iadd 107 dX5_tightEdges_106 rfl ?_
    refine rn_iload 109 dX5_tightEdges_107 rfl rfl ?_
    rw [nI_add, nI_add]
    by_cases q : xD g S s (eF g e) 0 + eW g S e + xD g S (eT g e) t 0 = xD g S s t 0
    · skip
      have et : tgS g S s t (e + 1) = tgS g S s t e ||| 2 ^ e := if_pos q
      refine rn_icmp_ne 121 112 dX5_tightEdges_109 (by decide) rfl (fun c109 => absurd (congrArg nI q) c109) (fun _ => ?_)
      refine rn_iload 114 dX5_tightEdges_112 rfl rfl ?_
      refine rn_iconst (v := 1) 115 dX5_tightEdges_114 (by decide) rfl ?_
      refine rn_iload 117 dX5_tightEdges_115 rfl rfl ?_
      refine rn_ishl 118 dX5_tightEdges_117 rfl ?_
      refine rn_ior 119 dX5_tightEdges_118 rfl ?_
      rw [nb_1 (by omega), nb_or]
      refine rn_istore 121 [some (.ref 8), some (.int (nI s)), some (.int (nI t)), some (.int (nI S)), some (.int (nI (xD g S s t 0))), some (.int (nI (tgS g S s t e ||| 2 ^ e))), some (.int (nI e))] dX5_tightEdges_119 rfl (Nat.le_of_ble_eq_true rfl) rfl ?_
      refine rn_iinc (v := (nI (e + 1))) 124 [some (.ref 8), some (.int (nI s)), some (.int (nI t)), some (.int (nI S)), some (.int (nI (xD g S s t 0))), some (.int (nI (tgS g S s t e ||| 2 ^ e))), some (.int (nI (e + 1)))] dX5_tightEdges_121 rfl (nI_1 _) rfl rfl ?_
      refine rn_goto 58 dX5_tightEdges_124 (by decide) ?_
      have z := ih (e + 1) (by omega)
      rw [et] at z
      exact z
    · skip
      have et : tgS g S s t (e + 1) = tgS g S s t e := if_neg q
      refine rn_icmp_ne 121 112 dX5_tightEdges_109 (by decide) rfl (fun _ => ?_) (fun c109 => absurd c109 (fun z => q ((nI_eq (by omega) (by omega)).mp z)))
      refine rn_iinc (v := (nI (e + 1))) 124 [some (.ref 8), some (.int (nI s)), some (.int (nI t)), some (.int (nI S)), some (.int (nI (xD g S s t 0))), some (.int (nI (tgS g S s t e))), some (.int (nI (e + 1)))] dX5_tightEdges_121 rfl (nI_1 _) rfl rfl ?_
      refine rn_goto 58 dX5_tightEdges_124 (by decide) ?_
      have z := ih (e + 1) (by omega)
      rw [et] at z
      exact z

set_option maxRecDepth 100000 in
set_option maxHeartbeats 2000000 in
theorem c_tightEdges (d : Nat) {g : List Ed} {S s t : Nat} (hS : S < 2 ^ 31) (hs : s < 8) (ht : t < 8) {mu : Nat → Nat → Int32} (h : Int64) (hg : xg g mu) : gd_G mX5_tightEdges (d + 3) [.ref 8, .int (nI s), .int (nI t), .int (nI S)] mu h (fun r mu' _ => r = some (.int (nI (if xD g S s t 0 = 9999 then 0 else tgS g S s t g.length))) ∧ ∀ c, c < 9 ∨ 14 < c → mu' c = mu c) := by
  refine gd_of rfl (Nat.le_of_ble_eq_true rfl) ?_
  show rn_R none mX5_tightEdges (d + 3) 0 [some (.ref 8), some (.int (nI s)), some (.int (nI t)), some (.int (nI S)), none, none, none] [] mu h (fun r mu' _ => r = some (.int (nI (if xD g S s t 0 = 9999 then 0 else tgS g S s t g.length))) ∧ ∀ c, c < 9 ∨ 14 < c → mu' c = mu c)
  refine rn_iconst (v := 0) 1 dX5_tightEdges_0 (by decide) rfl ?_
  refine rn_istore 3 [some (.ref 8), some (.int (nI s)), some (.int (nI t)), some (.int (nI S)), some (.int 0), none, none] dX5_tightEdges_1 rfl (Nat.le_of_ble_eq_true rfl) rfl ?_
  refine lp_tg1 d hS hs ht (mu0 := mu) 8 0 mu h (by omega) hg (fun w hw => by omega) (fun _ _ => rfl) (fun m0 h0 hg0 ho hfr => ?_)
  refine rn_aload_n 33 dX5_tightEdges_32 rfl rfl rfl ?_
  refine rn_iload_n 34 dX5_tightEdges_33 rfl rfl rfl ?_
  refine rn_iload_n 35 dX5_tightEdges_34 rfl rfl rfl ?_
  refine rn_iload_n 36 dX5_tightEdges_35 rfl rfl rfl ?_
  refine rn_iconst (v := 0) 37 dX5_tightEdges_36 (by decide) rfl ?_
  refine rn_callV mX5_measure [.int (nI s), .int (nI t), .int (nI S), .int 0] [] dX5_tightEdges_37 cv_X5_68 rfl rfl rfl (by simp [Value.category]) (c_measure (d) (S := S) (s := s) (t := t) (rep := 0) hS hs ht (by omega) h0 hg0) (fun r1 m1 h1 q1 _ => ?_)
  obtain ⟨e1, R1, W1, f1⟩ := q1
  subst e1
  have hg1 : xg g m1 := xg_fr hg0 f1
  show rn_R _ mX5_tightEdges _ 40 [some (.ref 8), some (.int (nI s)), some (.int (nI t)), some (.int (nI S)), none, none, none] [.int (nI (xD g S s t 0))] m1 h1 _
  refine rn_istore 42 [some (.ref 8), some (.int (nI s)), some (.int (nI t)), some (.int (nI S)), some (.int (nI (xD g S s t 0))), none, none] dX5_tightEdges_40 rfl (Nat.le_of_ble_eq_true rfl) rfl ?_
  refine rn_iload 44 dX5_tightEdges_42 rfl rfl ?_
  refine rn_sipush (v := 9999) 47 dX5_tightEdges_44 (by decide) rfl ?_
  have b4 := xD_le (S := S) (s := s) (rep := 0) hg.2.1 ht
  have ee : (if S = 0 then 0 else 0) = 0 := by split <;> rfl
  rw [ee] at R1
  by_cases q : xD g S s t 0 = 9999
  · skip
    refine rn_icmp_ne 52 50 dX5_tightEdges_47 (by decide) rfl (fun c47 => absurd (congrArg nI q) c47) (fun _ => ?_)
    refine rn_iconst (v := 0) 51 dX5_tightEdges_50 (by decide) rfl ?_
    exact rn_iret rfl dX5_tightEdges_51 (⟨by rw [if_pos q]; rfl, fun c hc => by rw [f1 c (by omega)]; exact hfr c hc⟩)
  · skip
    rw [if_neg q]
    refine rn_icmp_ne 52 50 dX5_tightEdges_47 (by decide) rfl (fun _ => ?_) (fun c47 => absurd c47 (fun z => q ((nI_eq (b := 9999) (by omega) (by omega)).mp z)))
    refine rn_iconst (v := 0) 53 dX5_tightEdges_52 (by decide) rfl ?_
    refine rn_istore 55 [some (.ref 8), some (.int (nI s)), some (.int (nI t)), some (.int (nI S)), some (.int (nI (xD g S s t 0))), some (.int 0), none] dX5_tightEdges_53 rfl (Nat.le_of_ble_eq_true rfl) rfl ?_
    refine rn_iconst (v := 0) 56 dX5_tightEdges_55 (by decide) rfl ?_
    refine rn_istore 58 [some (.ref 8), some (.int (nI s)), some (.int (nI t)), some (.int (nI S)), some (.int (nI (xD g S s t 0))), some (.int 0), some (.int 0)] dX5_tightEdges_56 rfl (Nat.le_of_ble_eq_true rfl) rfl ?_
    refine rn_mono (lp_tg2 d (S := S) hs ht h1 hg1 R1 W1 (fun w hw => by rw [f1 14 (by omega)]; exact ho w hw) g.length 0 (by omega)) (fun r m2 h2 q2 => ?_)
    obtain ⟨q1, q2, q3⟩ := q2
    refine ⟨q1, fun c hc => ?_⟩
    rw [q2, f1 c (by omega)]
    exact hfr c hc

set_option maxRecDepth 100000 in
set_option maxHeartbeats 2000000 in
theorem x_tight_b (d : Nat) {g : List Ed} {a : Nat} {hs : List Sg} {tx : List Nat} {f : Int32} {v1 v2 : Int32} (hv : ¬ ((isin v1 8 ∧ isin v2 8))) : XC mX8_tight (d + 2) [.int v1, .int v2] (g, a, hs, tx, f) (g, a, hs, tx, f) (.int (-2)) := by
  intro mu h hs0
  obtain ⟨hg, ha, hh, ht, hf⟩ := id hs0
  simp only at hg ha hh ht hf
  refine gd_of rfl (Nat.le_of_ble_eq_true rfl) ?_
  show rn_R none mX8_tight (d + 2) 0 [some (.ref 0), some (.int v1), some (.int v2)] [] mu h (fun r mu' _ => r = some (.int (-2)) ∧ xS (g, a, hs, tx, f) mu' ∧ ∀ c, 22 ≤ c → mu' c = mu c)
  have qq0 : ¬ (isin v1 8 ∧ isin v2 8) := fun z => hv (z)
  refine rn_iload_n 1 dX8_tight_0 rfl rfl rfl ?_
  refine rn_iload_n 2 dX8_tight_1 rfl rfl rfl ?_
  refine rn_csp mX8_areNodes [.int v1, .int v2] [] 5 (.int 0) dX8_tight_2 cs_X8_75 rfl rfl (by simp [Value.category]) rfl (c_areNodes_f (d) mu h qq0) ?_
  refine rn_if_ne 11 8 dX8_tight_5 (by decide) rfl (fun c5 => absurd (rfl) c5) (fun _ => ?_)
  refine rn_bipush (v := (-2)) 10 dX8_tight_8 (by decide) rfl ?_
  exact rn_iret rfl dX8_tight_10 (⟨rfl, hs0, fun _ _ => rfl⟩)

set_option maxRecDepth 100000 in
set_option maxHeartbeats 2000000 in
theorem x_tight_t (d : Nat) {g : List Ed} {a : Nat} {hs : List Sg} {tx : List Nat} {f : Int32} {u v : Nat} (hu : u < 8) (hv : v < 8) : XC mX8_tight (d + 4) [.int (nI u), .int (nI v)] (g, a, hs, tx, f) (g, a, hs, tx, f) (.int (nI (if u = v ∨ xD g a u v 0 = 9999 then 0 else tgS g a u v g.length))) := by
  intro mu h hs0
  obtain ⟨hg, ha, hh, ht, hf⟩ := id hs0
  simp only at hg ha hh ht hf
  refine gd_of rfl (Nat.le_of_ble_eq_true rfl) ?_
  show rn_R none mX8_tight (d + 4) 0 [some (.ref 0), some (.int (nI u)), some (.int (nI v))] [] mu h (fun r mu' _ => r = some (.int (nI (if u = v ∨ xD g a u v 0 = 9999 then 0 else tgS g a u v g.length))) ∧ xS (g, a, hs, tx, f) mu' ∧ ∀ c, 22 ≤ c → mu' c = mu c)
  have hp := pw_le hg.1
  have ha2 := ha.2
  by_cases q : u = v
  · skip
    refine rn_iload_n 1 dX8_tight_0 rfl rfl rfl ?_
    refine rn_iload_n 2 dX8_tight_1 rfl rfl rfl ?_
    refine rn_csp mX8_areNodes [.int (nI u), .int (nI v)] [] 5 (.int 1) dX8_tight_2 cs_X8_75 rfl rfl (by simp [Value.category]) rfl (c_areNodes_t (d + 2) mu h ⟨u, hu, rfl⟩ ⟨v, hv, rfl⟩) ?_
    refine rn_if_ne 11 8 dX8_tight_5 (by decide) rfl (fun _ => ?_) (fun c5 => absurd c5 (by decide))
    refine rn_iload_n 12 dX8_tight_11 rfl rfl rfl ?_
    refine rn_iload_n 13 dX8_tight_12 rfl rfl rfl ?_
    refine rn_icmp_ne 20 16 dX8_tight_13 (by decide) rfl (fun c13 => absurd (congrArg nI q) c13) (fun _ => ?_)
    refine rn_iconst (v := 0) 17 dX8_tight_16 (by decide) rfl ?_
    refine rn_goto 36 dX8_tight_17 (by decide) ?_
    exact rn_iret rfl dX8_tight_36 (⟨by rw [if_pos (Or.inl q)]; rfl, hs0, fun _ _ => rfl⟩)
  · skip
    refine rn_iload_n 1 dX8_tight_0 rfl rfl rfl ?_
    refine rn_iload_n 2 dX8_tight_1 rfl rfl rfl ?_
    refine rn_csp mX8_areNodes [.int (nI u), .int (nI v)] [] 5 (.int 1) dX8_tight_2 cs_X8_75 rfl rfl (by simp [Value.category]) rfl (c_areNodes_t (d + 2) mu h ⟨u, hu, rfl⟩ ⟨v, hv, rfl⟩) ?_
    refine rn_if_ne 11 8 dX8_tight_5 (by decide) rfl (fun _ => ?_) (fun c5 => absurd c5 (by decide))
    refine rn_iload_n 12 dX8_tight_11 rfl rfl rfl ?_
    refine rn_iload_n 13 dX8_tight_12 rfl rfl rfl ?_
    refine rn_icmp_ne 20 16 dX8_tight_13 (by decide) rfl (fun _ => ?_) (fun c13 => absurd c13 (fun z => q ((nI_eq (by omega) (by omega)).mp z)))
    refine rn_aload_n 21 dX8_tight_20 rfl rfl rfl ?_
    refine rn_get 24 (.ref 8) dX8_tight_21 fl_X8_35 rfl rfl rfl rfl ?_
    refine rn_iload_n 25 dX8_tight_24 rfl rfl rfl ?_
    refine rn_iload_n 26 dX8_tight_25 rfl rfl rfl ?_
    refine rn_aload_n 27 dX8_tight_26 rfl rfl rfl ?_
    refine rn_get 30 (.ref 1) dX8_tight_27 fl_X8_10 rfl rfl rfl rfl ?_
    refine rn_get 33 (.int (mu 1 2)) dX8_tight_30 fl_X8_111 rfl rfl rfl rfl ?_
    rw [ha.1]
    refine rn_callV mX5_tightEdges [.int (nI u), .int (nI v), .int (nI a)] [] dX8_tight_33 cv_X8_158 rfl rfl rfl (by simp [Value.category]) (c_tightEdges d (by omega) hu hv h hg) (fun r1 m1 h1 q1 _ => ?_)
    obtain ⟨e1, f1⟩ := q1
    subst e1
    exact rn_iret rfl dX8_tight_36 (⟨by simp only [q, false_or], xS_fr hs0 (fun c hc => f1 c (by omega)), fun c hc => f1 c (by omega)⟩)

set_option maxRecDepth 100000 in
set_option maxHeartbeats 2000000 in
theorem m_tight_b (d : Nat) {g : List Ed} {a : Nat} {hs : List Sg} {tx : List Nat} {f : Int32} {v1 v2 : Int32} (hv : ¬ ((isin v1 8 ∧ isin v2 8))) : MC mX9_tight (d + 2) [.int v1, .int v2] (g, a, hs, tx, f) (g, a, hs, tx, f) (.int (-2)) := by
  intro mu h hs0
  obtain ⟨hg, ha, hh, ht, hf⟩ := id hs0
  simp only at hg ha hh ht hf
  refine gd_of rfl (Nat.le_of_ble_eq_true rfl) ?_
  show rn_R none mX9_tight (d + 2) 0 [some (.ref 22), some (.int v1), some (.int v2), none, none, none, none, none] [] mu h (fun r mu' _ => r = some (.int (-2)) ∧ mS (g, a, hs, tx, f) mu' ∧ ∀ c, c < 22 → mu' c = mu c)
  have qq0 : ¬ (isin v1 8 ∧ isin v2 8) := fun z => hv (z)
  refine rn_iload_n 1 dX9_tight_0 rfl rfl rfl ?_
  refine rn_iload_n 2 dX9_tight_1 rfl rfl rfl ?_
  refine rn_csp mX9_areNodes [.int v1, .int v2] [] 5 (.int 0) dX9_tight_2 cs_X9_53 rfl rfl (by simp [Value.category]) rfl (c_mareNodes_f (d) mu h qq0) ?_
  refine rn_if_ne 11 8 dX9_tight_5 (by decide) rfl (fun c5 => absurd (rfl) c5) (fun _ => ?_)
  refine rn_bipush (v := (-2)) 10 dX9_tight_8 (by decide) rfl ?_
  exact rn_iret rfl dX9_tight_10 (⟨rfl, hs0, fun _ _ => rfl⟩)

set_option maxRecDepth 100000 in
set_option maxHeartbeats 2000000 in
theorem lp_mtg (d : Nat) {g : List Ed} {a u v : Nat} (ha2 : a < 2 ^ g.length) (hu : u < 8) (hv : v < 8) (hne : ¬ u = v) (hlt9 : xD g a u v 0 < 9999) {mu0 : Nat → Nat → Int32} (h : Int64) : ∀ (k e : Nat) (mu : Nat → Nat → Int32), e + k = g.length → (mg g mu) → (mu 23 81 = nI a) → (∀ c, c ≠ 27 → mu c = mu0 c) → rn_R none mX9_tight (d + 5) 32 [some (.ref 22), some (.int (nI u)), some (.int (nI v)), some (.int (nI (xD g a u v 0))), some (.int (nI (tgS g a u v e))), some (.int (nI e)), none, none] [] mu h (fun r mu' _ => r = some (.int (nI (tgS g a u v g.length))) ∧ ∀ c, c ≠ 27 → mu' c = mu0 c) := by
  intro k
  induction k with
  | zero =>
    intro e mu hek hg ha hfr
    refine rn_iload 34 dX9_tight_32 rfl rfl ?_
    refine rn_aload_n 35 dX9_tight_34 rfl rfl rfl ?_
    refine rn_get 38 (.ref 23) dX9_tight_35 fl_X9_7 rfl rfl rfl rfl ?_
    refine rn_bipush (v := 80) 40 dX9_tight_38 (by decide) rfl ?_
    refine rn_iald 41 (mu 23 80) dX9_tight_40 rfl (vp_in_nI (n := 80) (by decide) (by decide)) rfl rfl ?_
    refine rn_icmp_ge 142 44 dX9_tight_41 (by decide) rfl (fun _ => ?_) (fun c41 => absurd (by rw [hg.2.2.1]; exact nI_le (by omega) (by have := hg.1; omega)) c41)
    refine rn_iload 144 dX9_tight_142 rfl rfl ?_
    exact rn_iret rfl dX9_tight_144 (⟨by rw [show e = g.length by omega], hfr⟩)
  | succ k ih =>
    intro e mu hek hg ha hfr
    have hlt : e < g.length := by omega
    have h16 := hg.1
    have hok := e_at hg.2.1 hlt
    have hp := pw_le hg.1
    have b1 := xD_le (S := a) (s := u) (rep := 0) hg.2.1 hok.1
    have b2 := xD_le (S := a) (s := eT g e) (rep := 0) hg.2.1 hv
    have b3 := eW_le hg.2.1 a hlt
    have b4 := xD_le (S := a) (s := u) (rep := 0) hg.2.1 hv
    refine rn_iload 34 dX9_tight_32 rfl rfl ?_
    refine rn_aload_n 35 dX9_tight_34 rfl rfl rfl ?_
    refine rn_get 38 (.ref 23) dX9_tight_35 fl_X9_7 rfl rfl rfl rfl ?_
    refine rn_bipush (v := 80) 40 dX9_tight_38 (by decide) rfl ?_
    refine rn_iald 41 (mu 23 80) dX9_tight_40 rfl (vp_in_nI (n := 80) (by decide) (by decide)) rfl rfl ?_
    refine rn_icmp_ge 142 44 dX9_tight_41 (by decide) rfl (fun c41 => absurd c41 (by rw [hg.2.2.1]; exact nI_ge hlt (by omega))) (fun _ => ?_)
    refine rn_iload_n 45 dX9_tight_44 rfl rfl rfl ?_
    refine rn_iload_n 46 dX9_tight_45 rfl rfl rfl ?_
    refine rn_icmp_eq 142 49 dX9_tight_46 (by decide) rfl (fun c46 => absurd c46 (fun z => hne ((nI_eq (by omega) (by omega)).mp z))) (fun _ => ?_)
    refine rn_iload_n 50 dX9_tight_49 rfl rfl rfl ?_
    refine rn_sipush (v := 9999) 53 dX9_tight_50 (by decide) rfl ?_
    refine rn_icmp_ge 142 56 dX9_tight_53 (by decide) rfl (fun c53 => absurd c53 (nI_ge (b := 9999) (by omega) (by omega))) (fun _ => ?_)
    refine rn_aload_n 57 dX9_tight_56 rfl rfl rfl ?_
    refine rn_iload_n 58 dX9_tight_57 rfl rfl rfl ?_
    refine rn_aload_n 59 dX9_tight_58 rfl rfl rfl ?_
    refine rn_iload 61 dX9_tight_59 rfl rfl ?_
    refine rn_iconst (v := 0) 62 dX9_tight_61 (by decide) rfl ?_
    refine rn_cvp mX9_of [.int (nI e), .int 0] [.int (nI u), .ref 22] 65 (.int (nI (eF g e))) dX9_tight_62 cv_X9_46 rfl rfl rfl (by simp [Value.category]) rfl (c_ofe (d + 4) h hg (w := 0) hlt (by omega)) ?_
    refine rn_aload_n 66 dX9_tight_65 rfl rfl rfl ?_
    refine rn_get 69 (.ref 23) dX9_tight_66 fl_X9_7 rfl rfl rfl rfl ?_
    refine rn_bipush (v := 81) 71 dX9_tight_69 (by decide) rfl ?_
    refine rn_iald 72 (mu 23 81) dX9_tight_71 rfl (vp_in_nI (n := 81) (by decide) (by decide)) rfl rfl ?_
    rw [show mu 23 81 = nI a from ha]
    refine rn_iconst (v := 0) 73 dX9_tight_72 (by decide) rfl ?_
    refine rn_callV mX9_far [.int (nI u), .int (nI (eF g e)), .int (nI a), .int 0] [] dX9_tight_73 cv_X9_134 rfl rfl rfl (by simp [Value.category]) (c_far (d) (S := a) (s := u) (t := eF g e) (rep := 0) (by omega) hu hok.1 (by omega) h hg) (fun r1 m1 h1 q1 _ => ?_)
    obtain ⟨e1, k1, f1⟩ := q1
    rw [e1, k1]
    have hg1 : mg g m1 := mg_of hg (f1 23 (by omega))
    show rn_R _ mX9_tight _ 76 [some (.ref 22), some (.int (nI u)), some (.int (nI v)), some (.int (nI (xD g a u v 0))), some (.int (nI (tgS g a u v e))), some (.int (nI e)), none, none] [.int (nI (xD g a u (eF g e) 0))] m1 h _
    refine rn_istore 78 [some (.ref 22), some (.int (nI u)), some (.int (nI v)), some (.int (nI (xD g a u v 0))), some (.int (nI (tgS g a u v e))), some (.int (nI e)), some (.int (nI (xD g a u (eF g e) 0))), none] dX9_tight_76 rfl (Nat.le_of_ble_eq_true rfl) rfl ?_
    refine rn_aload_n 79 dX9_tight_78 rfl rfl rfl ?_
    refine rn_aload_n 80 dX9_tight_79 rfl rfl rfl ?_
    refine rn_iload 82 dX9_tight_80 rfl rfl ?_
    refine rn_iconst (v := 1) 83 dX9_tight_82 (by decide) rfl ?_
    refine rn_cvp mX9_of [.int (nI e), .int 1] [.ref 22] 86 (.int (nI (eT g e))) dX9_tight_83 cv_X9_46 rfl rfl rfl (by simp [Value.category]) rfl (c_ofe (d + 4) h hg1 (w := 1) hlt (by omega)) ?_
    refine rn_iload_n 87 dX9_tight_86 rfl rfl rfl ?_
    refine rn_aload_n 88 dX9_tight_87 rfl rfl rfl ?_
    refine rn_get 91 (.ref 23) dX9_tight_88 fl_X9_7 rfl rfl rfl rfl ?_
    refine rn_bipush (v := 81) 93 dX9_tight_91 (by decide) rfl ?_
    refine rn_iald 94 (m1 23 81) dX9_tight_93 rfl (vp_in_nI (n := 81) (by decide) (by decide)) rfl rfl ?_
    rw [show m1 23 81 = nI a from by rw [f1 23 (by omega)]; exact ha]
    refine rn_iconst (v := 0) 95 dX9_tight_94 (by decide) rfl ?_
    refine rn_callV mX9_far [.int (nI (eT g e)), .int (nI v), .int (nI a), .int 0] [] dX9_tight_95 cv_X9_134 rfl rfl rfl (by simp [Value.category]) (c_far (d) (S := a) (s := eT g e) (t := v) (rep := 0) (by omega) hok.2.1 hv (by omega) h hg1) (fun r2 m2 h2 q2 _ => ?_)
    obtain ⟨e2, k2, f2⟩ := q2
    rw [e2, k2]
    have hg2 : mg g m2 := mg_of hg1 (f2 23 (by omega))
    show rn_R _ mX9_tight _ 98 [some (.ref 22), some (.int (nI u)), some (.int (nI v)), some (.int (nI (xD g a u v 0))), some (.int (nI (tgS g a u v e))), some (.int (nI e)), some (.int (nI (xD g a u (eF g e) 0))), none] [.int (nI (xD g a (eT g e) v 0))] m2 h _
    refine rn_istore 100 [some (.ref 22), some (.int (nI u)), some (.int (nI v)), some (.int (nI (xD g a u v 0))), some (.int (nI (tgS g a u v e))), some (.int (nI e)), some (.int (nI (xD g a u (eF g e) 0))), some (.int (nI (xD g a (eT g e) v 0)))] dX9_tight_98 rfl (Nat.le_of_ble_eq_true rfl) rfl ?_
    refine rn_iload 102 dX9_tight_100 rfl rfl ?_
    refine rn_iload 104 dX9_tight_102 rfl rfl ?_
    refine rn_aload_n 105 dX9_tight_104 rfl rfl rfl ?_
    refine rn_iload 107 dX9_tight_105 rfl rfl ?_
    refine rn_aload_n 108 dX9_tight_107 rfl rfl rfl ?_
    refine rn_get 111 (.ref 23) dX9_tight_108 fl_X9_7 rfl rfl rfl rfl ?_
    refine rn_bipush (v := 81) 113 dX9_tight_111 (by decide) rfl ?_
    refine rn_iald 114 (m2 23 81) dX9_tight_113 rfl (vp_in_nI (n := 81) (by decide) (by decide)) rfl rfl ?_
    rw [show m2 23 81 = nI a from by rw [f2 23 (by omega), f1 23 (by omega)]; exact ha]
    refine rn_cvp mX9_lengthOf [.int (nI e), .int (nI a)] [.int (nI (xD g a u (eF g e) 0)), .int (nI (tgS g a u v e))] 117 (.int (nI (eW g a e))) dX9_tight_114 cv_X9_124 rfl rfl rfl (by simp [Value.category]) rfl (c_lengthOf (d + 3) h hg2 (S := a) (by omega) hlt) ?_
    refine rn_iadd 118 dX9_tight_117 rfl ?_
    refine rn_iload 120 dX9_tight_118 rfl rfl ?_
    refine rn_iadd 121 dX9_tight_120 rfl ?_
    refine rn_iload_n 122 dX9_tight_121 rfl rfl rfl ?_
    rw [nI_add, nI_add]
    by_cases q : xD g a u (eF g e) 0 + eW g a e + xD g a (eT g e) v 0 = xD g a u v 0
    · skip
      have et : tgS g a u v (e + 1) = tgS g a u v e ||| 2 ^ e := if_pos q
      refine rn_icmp_ne 132 125 dX9_tight_122 (by decide) rfl (fun c122 => absurd (congrArg nI q) c122) (fun _ => ?_)
      refine rn_iconst (v := 1) 126 dX9_tight_125 (by decide) rfl ?_
      refine rn_iload 128 dX9_tight_126 rfl rfl ?_
      refine rn_ishl 129 dX9_tight_128 rfl ?_
      refine rn_goto 133 dX9_tight_129 (by decide) ?_
      refine rn_ior 134 dX9_tight_133 rfl ?_
      rw [nb_1 (by omega), nb_or]
      refine rn_istore 136 [some (.ref 22), some (.int (nI u)), some (.int (nI v)), some (.int (nI (xD g a u v 0))), some (.int (nI (tgS g a u v e ||| 2 ^ e))), some (.int (nI e)), some (.int (nI (xD g a u (eF g e) 0))), some (.int (nI (xD g a (eT g e) v 0)))] dX9_tight_134 rfl (Nat.le_of_ble_eq_true rfl) rfl ?_
      refine rn_iinc (v := (nI (e + 1))) 139 [some (.ref 22), some (.int (nI u)), some (.int (nI v)), some (.int (nI (xD g a u v 0))), some (.int (nI (tgS g a u v e ||| 2 ^ e))), some (.int (nI (e + 1))), some (.int (nI (xD g a u (eF g e) 0))), some (.int (nI (xD g a (eT g e) v 0)))] dX9_tight_136 rfl (nI_1 _) rfl rfl ?_
      refine rn_goto 32 dX9_tight_139 (by decide) ?_
      refine rn_drop 6 [some (.ref 22), some (.int (nI u)), some (.int (nI v)), some (.int (nI (xD g a u v 0))), some (.int (nI (tgS g a u v e ||| 2 ^ e))), some (.int (nI (e + 1))), none, some (.int (nI (xD g a (eT g e) v 0)))] rfl ?_
      refine rn_drop 7 [some (.ref 22), some (.int (nI u)), some (.int (nI v)), some (.int (nI (xD g a u v 0))), some (.int (nI (tgS g a u v e ||| 2 ^ e))), some (.int (nI (e + 1))), none, none] rfl ?_
      have z := ih (e + 1) m2 (by omega) hg2 (by rw [f2 23 (by omega), f1 23 (by omega)]; exact ha) (fun c hc => by rw [f2 c hc, f1 c hc]; exact hfr c hc)
      rw [et] at z
      exact z
    · skip
      have et : tgS g a u v (e + 1) = tgS g a u v e := if_neg q
      refine rn_icmp_ne 132 125 dX9_tight_122 (by decide) rfl (fun _ => ?_) (fun c122 => absurd c122 (fun z => q ((nI_eq (by omega) (by omega)).mp z)))
      refine rn_iconst (v := 0) 133 dX9_tight_132 (by decide) rfl ?_
      refine rn_ior 134 dX9_tight_133 rfl ?_
      rw [show nI (tgS g a u v e) ||| 0 = nI (tgS g a u v e) by exact (nb_or _ 0).trans (by rw [Nat.or_zero])]
      refine rn_istore 136 [some (.ref 22), some (.int (nI u)), some (.int (nI v)), some (.int (nI (xD g a u v 0))), some (.int (nI (tgS g a u v e))), some (.int (nI e)), some (.int (nI (xD g a u (eF g e) 0))), some (.int (nI (xD g a (eT g e) v 0)))] dX9_tight_134 rfl (Nat.le_of_ble_eq_true rfl) rfl ?_
      refine rn_iinc (v := (nI (e + 1))) 139 [some (.ref 22), some (.int (nI u)), some (.int (nI v)), some (.int (nI (xD g a u v 0))), some (.int (nI (tgS g a u v e))), some (.int (nI (e + 1))), some (.int (nI (xD g a u (eF g e) 0))), some (.int (nI (xD g a (eT g e) v 0)))] dX9_tight_136 rfl (nI_1 _) rfl rfl ?_
      refine rn_goto 32 dX9_tight_139 (by decide) ?_
      refine rn_drop 6 [some (.ref 22), some (.int (nI u)), some (.int (nI v)), some (.int (nI (xD g a u v 0))), some (.int (nI (tgS g a u v e))), some (.int (nI (e + 1))), none, some (.int (nI (xD g a (eT g e) v 0)))] rfl ?_
      refine rn_drop 7 [some (.ref 22), some (.int (nI u)), some (.int (nI v)), some (.int (nI (xD g a u v 0))), some (.int (nI (tgS g a u v e))), some (.int (nI (e + 1))), none, none] rfl ?_
      have z := ih (e + 1) m2 (by omega) hg2 (by rw [f2 23 (by omega), f1 23 (by omega)]; exact ha) (fun c hc => by rw [f2 c hc, f1 c hc]; exact hfr c hc)
      rw [et] at z
      exact z

set_option maxRecDepth 100000 in
set_option maxHeartbeats 2000000 in
theorem m_tight_t (d : Nat) {g : List Ed} {a : Nat} {hs : List Sg} {tx : List Nat} {f : Int32} {u v : Nat} (hu : u < 8) (hv : v < 8) : MC mX9_tight (d + 5) [.int (nI u), .int (nI v)] (g, a, hs, tx, f) (g, a, hs, tx, f) (.int (nI (if u = v ∨ xD g a u v 0 = 9999 then 0 else tgS g a u v g.length))) := by
  intro mu h hs0
  obtain ⟨hg, ha, hh, ht, hf⟩ := id hs0
  simp only at hg ha hh ht hf
  refine gd_of rfl (Nat.le_of_ble_eq_true rfl) ?_
  show rn_R none mX9_tight (d + 5) 0 [some (.ref 22), some (.int (nI u)), some (.int (nI v)), none, none, none, none, none] [] mu h (fun r mu' _ => r = some (.int (nI (if u = v ∨ xD g a u v 0 = 9999 then 0 else tgS g a u v g.length))) ∧ mS (g, a, hs, tx, f) mu' ∧ ∀ c, c < 22 → mu' c = mu c)
  have hp := pw_le hg.1
  have ha2 := ha.2
  have b4 := xD_le (S := a) (s := u) (rep := 0) hg.2.1 hv
  have h16 := hg.1
  refine rn_iload_n 1 dX9_tight_0 rfl rfl rfl ?_
  refine rn_iload_n 2 dX9_tight_1 rfl rfl rfl ?_
  refine rn_csp mX9_areNodes [.int (nI u), .int (nI v)] [] 5 (.int 1) dX9_tight_2 cs_X9_53 rfl rfl (by simp [Value.category]) rfl (c_mareNodes_t (d + 3) mu h ⟨u, hu, rfl⟩ ⟨v, hv, rfl⟩) ?_
  refine rn_if_ne 11 8 dX9_tight_5 (by decide) rfl (fun _ => ?_) (fun c5 => absurd c5 (by decide))
  refine rn_aload_n 12 dX9_tight_11 rfl rfl rfl ?_
  refine rn_iload_n 13 dX9_tight_12 rfl rfl rfl ?_
  refine rn_iload_n 14 dX9_tight_13 rfl rfl rfl ?_
  refine rn_aload_n 15 dX9_tight_14 rfl rfl rfl ?_
  refine rn_get 18 (.ref 23) dX9_tight_15 fl_X9_7 rfl rfl rfl rfl ?_
  refine rn_bipush (v := 81) 20 dX9_tight_18 (by decide) rfl ?_
  refine rn_iald 21 (mu 23 81) dX9_tight_20 rfl (vp_in_nI (n := 81) (by decide) (by decide)) rfl rfl ?_
  rw [ha.1]
  refine rn_iconst (v := 0) 22 dX9_tight_21 (by decide) rfl ?_
  refine rn_callV mX9_far [.int (nI u), .int (nI v), .int (nI a), .int 0] [] dX9_tight_22 cv_X9_134 rfl rfl rfl (by simp [Value.category]) (c_far (d) (S := a) (s := u) (t := v) (rep := 0) (by omega) hu hv (by omega) h hg) (fun r1 m1 h1 q1 _ => ?_)
  obtain ⟨e1, k1, f1⟩ := q1
  rw [e1, k1]
  have hg1 : mg g m1 := mg_of hg (f1 23 (by omega))
  show rn_R _ mX9_tight _ 25 [some (.ref 22), some (.int (nI u)), some (.int (nI v)), none, none, none, none, none] [.int (nI (xD g a u v 0))] m1 h _
  refine rn_istore_n 26 [some (.ref 22), some (.int (nI u)), some (.int (nI v)), some (.int (nI (xD g a u v 0))), none, none, none, none] dX9_tight_25 rfl rfl (Nat.le_of_ble_eq_true rfl) rfl ?_
  refine rn_iconst (v := 0) 27 dX9_tight_26 (by decide) rfl ?_
  refine rn_istore 29 [some (.ref 22), some (.int (nI u)), some (.int (nI v)), some (.int (nI (xD g a u v 0))), some (.int 0), none, none, none] dX9_tight_27 rfl (Nat.le_of_ble_eq_true rfl) rfl ?_
  refine rn_iconst (v := 0) 30 dX9_tight_29 (by decide) rfl ?_
  refine rn_istore 32 [some (.ref 22), some (.int (nI u)), some (.int (nI v)), some (.int (nI (xD g a u v 0))), some (.int 0), some (.int 0), none, none] dX9_tight_30 rfl (Nat.le_of_ble_eq_true rfl) rfl ?_
  by_cases q : u = v ∨ xD g a u v 0 = 9999
  · skip
    rw [if_pos q]
    by_cases n0 : 0 < g.length
    · skip
      have hl : ¬ nI g.length ≤ 0 := nI_ge (a := 0) n0 (by omega)
      rcases q with q | q
      · skip
        refine rn_iload 34 dX9_tight_32 rfl rfl ?_
        refine rn_aload_n 35 dX9_tight_34 rfl rfl rfl ?_
        refine rn_get 38 (.ref 23) dX9_tight_35 fl_X9_7 rfl rfl rfl rfl ?_
        refine rn_bipush (v := 80) 40 dX9_tight_38 (by decide) rfl ?_
        refine rn_iald 41 (m1 23 80) dX9_tight_40 rfl (vp_in_nI (n := 80) (by decide) (by decide)) rfl rfl ?_
        refine rn_icmp_ge 142 44 dX9_tight_41 (by decide) rfl (fun c41 => absurd c41 (by rw [hg1.2.2.1]; exact hl)) (fun _ => ?_)
        refine rn_iload_n 45 dX9_tight_44 rfl rfl rfl ?_
        refine rn_iload_n 46 dX9_tight_45 rfl rfl rfl ?_
        refine rn_icmp_eq 142 49 dX9_tight_46 (by decide) rfl (fun _ => ?_) (fun c46 => absurd (congrArg nI q) c46)
        refine rn_iload 144 dX9_tight_142 rfl rfl ?_
        exact rn_iret rfl dX9_tight_144 (⟨rfl, mS_fr hs0 (fun c c1 c2 => f1 c (by omega)), fun c hc => f1 c (by omega)⟩)
      · skip
        refine rn_iload 34 dX9_tight_32 rfl rfl ?_
        refine rn_aload_n 35 dX9_tight_34 rfl rfl rfl ?_
        refine rn_get 38 (.ref 23) dX9_tight_35 fl_X9_7 rfl rfl rfl rfl ?_
        refine rn_bipush (v := 80) 40 dX9_tight_38 (by decide) rfl ?_
        refine rn_iald 41 (m1 23 80) dX9_tight_40 rfl (vp_in_nI (n := 80) (by decide) (by decide)) rfl rfl ?_
        refine rn_icmp_ge 142 44 dX9_tight_41 (by decide) rfl (fun c41 => absurd c41 (by rw [hg1.2.2.1]; exact hl)) (fun _ => ?_)
        refine rn_iload_n 45 dX9_tight_44 rfl rfl rfl ?_
        refine rn_iload_n 46 dX9_tight_45 rfl rfl rfl ?_
        by_cases q3 : u = v
        · skip
          refine rn_icmp_eq 142 49 dX9_tight_46 (by decide) rfl (fun _ => ?_) (fun c46 => absurd (congrArg nI q3) c46)
          refine rn_iload 144 dX9_tight_142 rfl rfl ?_
          exact rn_iret rfl dX9_tight_144 (⟨rfl, mS_fr hs0 (fun c c1 c2 => f1 c (by omega)), fun c hc => f1 c (by omega)⟩)
        · skip
          refine rn_icmp_eq 142 49 dX9_tight_46 (by decide) rfl (fun c46 => absurd c46 (fun z => q3 ((nI_eq (by omega) (by omega)).mp z))) (fun _ => ?_)
          refine rn_iload_n 50 dX9_tight_49 rfl rfl rfl ?_
          refine rn_sipush (v := 9999) 53 dX9_tight_50 (by decide) rfl ?_
          refine rn_icmp_ge 142 56 dX9_tight_53 (by decide) rfl (fun _ => ?_) (fun c53 => absurd (nI_le (a := 9999) (by omega) (by omega)) c53)
          refine rn_iload 144 dX9_tight_142 rfl rfl ?_
          exact rn_iret rfl dX9_tight_144 (⟨rfl, mS_fr hs0 (fun c c1 c2 => f1 c (by omega)), fun c hc => f1 c (by omega)⟩)
    · skip
      refine rn_iload 34 dX9_tight_32 rfl rfl ?_
      refine rn_aload_n 35 dX9_tight_34 rfl rfl rfl ?_
      refine rn_get 38 (.ref 23) dX9_tight_35 fl_X9_7 rfl rfl rfl rfl ?_
      refine rn_bipush (v := 80) 40 dX9_tight_38 (by decide) rfl ?_
      refine rn_iald 41 (m1 23 80) dX9_tight_40 rfl (vp_in_nI (n := 80) (by decide) (by decide)) rfl rfl ?_
      refine rn_icmp_ge 142 44 dX9_tight_41 (by decide) rfl (fun _ => ?_) (fun c41 => absurd (by rw [hg1.2.2.1]; exact nI_le (b := 0) (by omega) (by omega)) c41)
      refine rn_iload 144 dX9_tight_142 rfl rfl ?_
      exact rn_iret rfl dX9_tight_144 (⟨rfl, mS_fr hs0 (fun c c1 c2 => f1 c (by omega)), fun c hc => f1 c (by omega)⟩)
  · skip
    rw [if_neg q]
    refine rn_mono (lp_mtg d ha2 hu hv (fun z => q (Or.inl z)) (Nat.lt_of_le_of_ne b4 (fun z => q (Or.inr z))) (mu0 := mu) h g.length 0 m1 (by omega) hg1 (by rw [f1 23 (by omega)]; exact ha.1) f1) (fun r m2 h2 q2 => ?_)
    exact ⟨q2.1, mS_fr hs0 (fun c c1 c2 => q2.2 c (by omega)), fun c hc => q2.2 c (by omega)⟩

theorem op_tight (v1 v2 : Int32) : OP mX8_tight mX9_tight [.int v1, .int v2] := by
  rintro ⟨g, a, hs, tx, f⟩
  by_cases hv : isin v1 8 ∧ isin v2 8
  · obtain ⟨⟨u, hu, rfl⟩, v, hv, rfl⟩ := hv
    exact ⟨_, _, x_tight_t 96 hu hv, m_tight_t 95 hu hv⟩
  · exact ⟨_, _, x_tight_b 98 hv, m_tight_b 98 hv⟩
