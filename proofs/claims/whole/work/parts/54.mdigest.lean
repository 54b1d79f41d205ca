/-! THE REFERENCE: digest -/
/-- a call that ends in a known memory, and a known long -/
theorem rn_cvh {X : Option (Nat × (Nat → Int32))} {y : ym_T} {d pc : Nat} {L : List (Option Value)} {mu : Nat → Nat → Int32} {h : Int64} {Q : rn_Q} (y1 : ym_T) (As S : List Value) {S0 : List Value} {i ci n idx : Nat} {fs : List ly_F} (n' : Nat) (v : Option Value) (mu1 : Nat → Nat → Int32) (h1 : Int64) (hd : decode y.2.1 pc = .ok (.invokevirtual idx, 3)) (hc : cv_ok y.1.cls idx y1 ci n) (hi : ly_L[i]? = some (.inr (ci, fs))) (hS0 : S0 = As.reverse ++ .ref i :: S) (hn : As.length = n) (hcat : (S.map fun v => v.category).sum ≤ 8) (hp : pc + 3 = n') (hG : gd_G y1 d (.ref i :: As) mu h (pq v mu1 h1)) (k : rn_R X y (d + 1) n' L (v.toList ++ S) mu1 h1 Q) : rn_R X y (d + 1) pc L S0 mu h Q := by
  subst hp
  refine rn_callV y1 As S hd hc hi hS0 hn hcat hG (fun r mu' h' q _ => ?_)
  obtain ⟨q1, q2, q3⟩ := q
  subst q1; subst q2; subst q3
  exact k

set_option maxRecDepth 100000 in
set_option maxHeartbeats 2000000 in
theorem c_mixes (d : Nat) (mu : Nat → Nat → Int32) (h : Int64) (v : Int32) : gd_G mX9_mixes d [.ref 22, .int v] mu h (pq none mu (hx h v)) := by
  refine gd_of rfl (Nat.le_of_ble_eq_true rfl) ?_
  show rn_R none mX9_mixes d 0 [some (.ref 22), some (.int v)] [] mu h (pq none mu (hx h v))
  refine rn_aload_n 1 dX9_mixes_0 rfl rfl rfl ?_
  refine rn_ldc2 4 dX9_mixes_1 kc_X9_195 rfl ?_
  refine rn_aload_n 5 dX9_mixes_4 rfl rfl rfl ?_
  refine rn_get 8 (.long h) dX9_mixes_5 fl_X9_197 rfl rfl rfl rfl ?_
  refine rn_lmul 9 dX9_mixes_8 rfl ?_
  refine rn_iload_n 10 dX9_mixes_9 rfl rfl rfl ?_
  refine rn_i2l 11 dX9_mixes_10 rfl ?_
  refine rn_ladd 12 dX9_mixes_11 rfl ?_
  refine rn_putl 15 dX9_mixes_12 fp_X9_197 rfl rfl ly_1_22 rfl ?_
  exact rn_vret rfl dX9_mixes_15 (⟨rfl, rfl, rfl⟩)

set_option maxRecDepth 100000 in
set_option maxHeartbeats 2000000 in
theorem c_medp (d : Nat) {g : List Ed} {a : Nat} {mu : Nat → Nat → Int32} (h : Int64) (hg : mg g mu) (ha : ma g a mu) {e w : Nat} (he : e < g.length) (hw : w < 5) : gd_G mX9_edge (d + 2) [.ref 22, .int (nI e), .int (nI w)] mu h (pq (some (.int (nI (eP g e w)))) mu h) := by
  refine gd_of rfl (Nat.le_of_ble_eq_true rfl) ?_
  show rn_R none mX9_edge (d + 2) 0 [some (.ref 22), some (.int (nI e)), some (.int (nI w))] [] mu h (pq (some (.int (nI (eP g e w)))) mu h)
  refine rn_aload_n 1 dX9_edge_0 rfl rfl rfl ?_
  refine rn_iload_n 2 dX9_edge_1 rfl rfl rfl ?_
  refine rn_cvp mX9_isEdge [.int (nI e)] [] 5 (.int 1) dX9_edge_2 cv_X9_66 rfl rfl rfl (by simp [Value.category]) rfl (c_isEdge_t (d) h hg he) ?_
  refine rn_if_eq 17 8 dX9_edge_5 (by decide) rfl (fun c5 => absurd c5 (by decide)) (fun _ => ?_)
  refine rn_iload_n 9 dX9_edge_8 rfl rfl rfl ?_
  refine rn_iconst (v := 0) 10 dX9_edge_9 (by decide) rfl ?_
  refine rn_iconst (v := 5) 11 dX9_edge_10 (by decide) rfl ?_
  refine rn_csp mX9_in [.int (nI w), .int 0, .int 5] [] 14 (.int 1) dX9_edge_11 cs_X9_38 rfl rfl (by simp [Value.category]) rfl (c_in_t (d + 1) mu h (nI_pos (by omega)) (nI_nlt (a := 5) (by omega) (by omega))) ?_
  refine rn_if_ne 20 17 dX9_edge_14 (by decide) rfl (fun _ => ?_) (fun c14 => absurd c14 (by decide))
  refine rn_iload_n 21 dX9_edge_20 rfl rfl rfl ?_
  refine rn_iconst (v := 5) 22 dX9_edge_21 (by decide) rfl ?_
  refine rn_icmp_ge 34 25 dX9_edge_22 (by decide) rfl (fun c22 => absurd c22 (nI_ge (b := 5) (by omega) (by omega))) (fun _ => ?_)
  refine rn_aload_n 26 dX9_edge_25 rfl rfl rfl ?_
  refine rn_iload_n 27 dX9_edge_26 rfl rfl rfl ?_
  refine rn_iload_n 28 dX9_edge_27 rfl rfl rfl ?_
  refine rn_cvp mX9_of [.int (nI e), .int (nI w)] [] 31 (.int (nI (eP g e w))) dX9_edge_28 cv_X9_46 rfl rfl rfl (by simp [Value.category]) rfl (c_ofe (d + 1) h hg he hw) ?_
  refine rn_goto 45 dX9_edge_31 (by decide) ?_
  exact rn_iret rfl dX9_edge_45 (⟨rfl, rfl, rfl⟩)

set_option maxRecDepth 100000 in
set_option maxHeartbeats 2000000 in
theorem c_meda (d : Nat) {g : List Ed} {a : Nat} {mu : Nat → Nat → Int32} (h : Int64) (hg : mg g mu) (ha : ma g a mu) {e : Nat} (he : e < g.length) : gd_G mX9_edge (d + 2) [.ref 22, .int (nI e), .int 5] mu h (pq (some (.int (if a.testBit e then 1 else 0))) mu h) := by
  refine gd_of rfl (Nat.le_of_ble_eq_true rfl) ?_
  show rn_R none mX9_edge (d + 2) 0 [some (.ref 22), some (.int (nI e)), some (.int 5)] [] mu h (pq (some (.int (if a.testBit e then 1 else 0))) mu h)
  have hp := pw_le hg.1
  have ha2 := ha.2
  have h16 := hg.1
  refine rn_aload_n 1 dX9_edge_0 rfl rfl rfl ?_
  refine rn_iload_n 2 dX9_edge_1 rfl rfl rfl ?_
  refine rn_cvp mX9_isEdge [.int (nI e)] [] 5 (.int 1) dX9_edge_2 cv_X9_66 rfl rfl rfl (by simp [Value.category]) rfl (c_isEdge_t (d) h hg he) ?_
  refine rn_if_eq 17 8 dX9_edge_5 (by decide) rfl (fun c5 => absurd c5 (by decide)) (fun _ => ?_)
  refine rn_iload_n 9 dX9_edge_8 rfl rfl rfl ?_
  refine rn_iconst (v := 0) 10 dX9_edge_9 (by decide) rfl ?_
  refine rn_iconst (v := 5) 11 dX9_edge_10 (by decide) rfl ?_
  refine rn_csp mX9_in [.int 5, .int 0, .int 5] [] 14 (.int 1) dX9_edge_11 cs_X9_38 rfl rfl (by simp [Value.category]) rfl (c_in_t (d + 1) mu h (by decide) (by decide)) ?_
  refine rn_if_ne 20 17 dX9_edge_14 (by decide) rfl (fun _ => ?_) (fun c14 => absurd c14 (by decide))
  refine rn_iload_n 21 dX9_edge_20 rfl rfl rfl ?_
  refine rn_iconst (v := 5) 22 dX9_edge_21 (by decide) rfl ?_
  refine rn_icmp_ge 34 25 dX9_edge_22 (by decide) rfl (fun _ => ?_) (fun c22 => absurd (by decide) c22)
  refine rn_aload_n 35 dX9_edge_34 rfl rfl rfl ?_
  refine rn_get 38 (.ref 23) dX9_edge_35 fl_X9_7 rfl rfl rfl rfl ?_
  refine rn_bipush (v := 81) 40 dX9_edge_38 (by decide) rfl ?_
  refine rn_iald 41 (mu 23 81) dX9_edge_40 rfl (vp_in_nI (n := 81) (by decide) (by decide)) rfl rfl ?_
  refine rn_iload_n 42 dX9_edge_41 rfl rfl rfl ?_
  refine rn_ishr 43 dX9_edge_42 rfl ?_
  refine rn_iconst (v := 1) 44 dX9_edge_43 (by decide) rfl ?_
  refine rn_iand 45 dX9_edge_44 rfl ?_
  exact rn_iret rfl dX9_edge_45 (⟨by rw [ha.1, nb_bit (by omega) (by omega)], rfl, rfl⟩)

theorem c_medge (d : Nat) {g : List Ed} {a : Nat} {mu : Nat → Nat → Int32} (h : Int64) (hg : mg g mu) (ha : ma g a mu) {e w : Nat} (he : e < g.length) (hw : w < 6) : gd_G mX9_edge (d + 2) [.ref 22, .int (nI e), .int (nI w)] mu h (pq (some (.int (nI (edV g a e w)))) mu h) := by
  rcases Nat.lt_or_ge w 5 with q | q
  · have e1 : edV g a e w = eP g e w := if_pos q
    rw [e1]
    exact c_medp d h hg ha he q
  · obtain rfl : w = 5 := by omega
    have e1 : (Value.int (nI (edV g a e 5))) = .int (if a.testBit e then 1 else 0) := by
      show Value.int (nI (if a.testBit e then 1 else 0)) = _
      split <;> rfl
    rw [e1]
    exact c_meda d h hg ha he

set_option maxRecDepth 100000 in
set_option maxHeartbeats 2000000 in
theorem c_mdist (d : Nat) {g : List Ed} {a : Nat} {mu : Nat → Nat → Int32} (h : Int64) (hg : mg g mu) (ha : ma g a mu) {u v : Nat} (hu : u < 8) (hv : v < 8) : gd_G mX9_distance (d + 5) [.ref 22, .int (nI u), .int (nI v)] mu h (fun r mu' h' => r = some (.int (nI (xD g a u v 0))) ∧ h' = h ∧ ∀ c, c ≠ 27 → mu' c = mu c) := by
  refine gd_of rfl (Nat.le_of_ble_eq_true rfl) ?_
  show rn_R none mX9_distance (d + 5) 0 [some (.ref 22), some (.int (nI u)), some (.int (nI v))] [] mu h (fun r mu' h' => r = some (.int (nI (xD g a u v 0))) ∧ h' = h ∧ ∀ c, c ≠ 27 → mu' c = mu c)
  have hp := pw_le hg.1
  have ha2 := ha.2
  refine rn_iload_n 1 dX9_distance_0 rfl rfl rfl ?_
  refine rn_iload_n 2 dX9_distance_1 rfl rfl rfl ?_
  refine rn_csp mX9_areNodes [.int (nI u), .int (nI v)] [] 5 (.int 1) dX9_distance_2 cs_X9_53 rfl rfl (by simp [Value.category]) rfl (c_mareNodes_t (d + 3) mu h ⟨u, hu, rfl⟩ ⟨v, hv, rfl⟩) ?_
  refine rn_if_eq 25 8 dX9_distance_5 (by decide) rfl (fun c5 => absurd c5 (by decide)) (fun _ => ?_)
  refine rn_aload_n 9 dX9_distance_8 rfl rfl rfl ?_
  refine rn_iload_n 10 dX9_distance_9 rfl rfl rfl ?_
  refine rn_iload_n 11 dX9_distance_10 rfl rfl rfl ?_
  refine rn_aload_n 12 dX9_distance_11 rfl rfl rfl ?_
  refine rn_get 15 (.ref 23) dX9_distance_12 fl_X9_7 rfl rfl rfl rfl ?_
  refine rn_bipush (v := 81) 17 dX9_distance_15 (by decide) rfl ?_
  refine rn_iald 18 (mu 23 81) dX9_distance_17 rfl (vp_in_nI (n := 81) (by decide) (by decide)) rfl rfl ?_
  rw [ha.1]
  refine rn_iconst (v := 0) 19 dX9_distance_18 (by decide) rfl ?_
  refine rn_callV mX9_far [.int (nI u), .int (nI v), .int (nI a), .int 0] [] dX9_distance_19 cv_X9_134 rfl rfl rfl (by simp [Value.category]) (c_far (d) (S := a) (s := u) (t := v) (rep := 0) (by omega) hu hv (by omega) h hg) (fun r1 m1 h1 q1 _ => ?_)
  obtain ⟨e1, k1, f1⟩ := q1
  rw [e1, k1]
  have hg1 : mg g m1 := mg_of hg (f1 23 (by omega))
  show rn_R _ mX9_distance _ 22 [some (.ref 22), some (.int (nI u)), some (.int (nI v))] [.int (nI (xD g a u v 0))] m1 h _
  refine rn_goto 27 dX9_distance_22 (by decide) ?_
  exact rn_iret rfl dX9_distance_27 (⟨rfl, rfl, f1⟩)

set_option maxRecDepth 100000 in
set_option maxHeartbeats 2000000 in
theorem lp_mg4 (d : Nat) {g : List Ed} {a : Nat} {hs : List Sg} {tx : List Nat} {f : Int32} {mu0 : Nat → Nat → Int32} (hs00 : mS (g, a, hs, tx, f) mu0) {H : Int64} : ∀ (k e : Nat) (mu : Nat → Nat → Int32), e + k = tx.length → (∀ c, c ≠ 27 → mu c = mu0 c) → rn_R none mX9_digest (d + 1) 108 [some (.ref 22), some (.int (nI e))] [] mu (hF (vgT tx) e H) (fun r mu' _ => r = some (.long (hF (vgT tx) tx.length H)) ∧ ∀ c, c ≠ 27 → mu' c = mu0 c) := by
  intro k
  induction k with
  | zero =>
    intro e mu hek hfr
    have hs0 : mS (g, a, hs, tx, f) mu := mS_fr hs00 (fun c c1 c2 => hfr c (by omega))
    obtain ⟨hg, ha, hh, ht, hf⟩ := id hs0
    simp only at hg ha hh ht hf
    have h16 := hg.1
    have hp := pw_le hg.1
    have ha2 := ha.2
    refine rn_iload_n 109 dX9_digest_108 rfl rfl rfl ?_
    refine rn_aload_n 110 dX9_digest_109 rfl rfl rfl ?_
    refine rn_get 113 (.int (mu 22 5)) dX9_digest_110 fl_X9_70 rfl rfl rfl rfl ?_
    refine rn_icmp_ge 132 116 dX9_digest_113 (by decide) rfl (fun _ => ?_) (fun c113 => absurd (by rw [ht.2.1]; exact nI_le (by omega) (by have := ht.1; omega)) c113)
    refine rn_aload_n 133 dX9_digest_132 rfl rfl rfl ?_
    refine rn_get 136 (.long (hF (vgT tx) e H)) dX9_digest_133 fl_X9_197 rfl rfl rfl rfl ?_
    exact rn_lret rfl dX9_digest_136 (⟨by rw [show e = tx.length by omega], hfr⟩)
  | succ k ih =>
    intro e mu hek hfr
    have hs0 : mS (g, a, hs, tx, f) mu := mS_fr hs00 (fun c c1 c2 => hfr c (by omega))
    obtain ⟨hg, ha, hh, ht, hf⟩ := id hs0
    simp only at hg ha hh ht hf
    have h16 := hg.1
    have hp := pw_le hg.1
    have ha2 := ha.2
    have hlt : e < tx.length := by omega
    have h11 := ht.1
    refine rn_iload_n 109 dX9_digest_108 rfl rfl rfl ?_
    refine rn_aload_n 110 dX9_digest_109 rfl rfl rfl ?_
    refine rn_get 113 (.int (mu 22 5)) dX9_digest_110 fl_X9_70 rfl rfl rfl rfl ?_
    refine rn_icmp_ge 132 116 dX9_digest_113 (by decide) rfl (fun c113 => absurd c113 (by rw [ht.2.1]; exact nI_ge hlt (by omega))) (fun _ => ?_)
    refine rn_aload_n 117 dX9_digest_116 rfl rfl rfl ?_
    refine rn_aload_n 118 dX9_digest_117 rfl rfl rfl ?_
    refine rn_get 121 (.ref 25) dX9_digest_118 fl_X9_20 rfl rfl rfl rfl ?_
    refine rn_iload_n 122 dX9_digest_121 rfl rfl rfl ?_
    refine rn_iald 123 (nI (tx.getD e 0)) dX9_digest_122 rfl (vp_in_nI (by omega) (by omega)) (by rw [nI_clamp (by omega)]; exact ht.2.2.2 e _ (xt_at hlt)) rfl ?_
    refine rn_cvh mX9_mixes [.int (nI (tx.getD e 0))] [] 126 none mu (hx (hF (vgT tx) e H) (nI (tx.getD e 0))) dX9_digest_123 cv_X9_206 rfl rfl rfl (by simp [Value.category]) rfl (c_mixes (d) mu (hF (vgT tx) e H) (nI (tx.getD e 0))) ?_
    refine rn_iinc (v := (nI (e + 1))) 129 [some (.ref 22), some (.int (nI (e + 1)))] dX9_digest_126 rfl (nI_1 _) rfl rfl ?_
    refine rn_goto 108 dX9_digest_129 (by decide) ?_
    exact ih (e + 1) mu (by omega) hfr

set_option maxRecDepth 100000 in
set_option maxHeartbeats 2000000 in
theorem lp_mg3 (d : Nat) {g : List Ed} {a : Nat} {hs : List Sg} {tx : List Nat} {f : Int32} {mu0 : Nat → Nat → Int32} (hs00 : mS (g, a, hs, tx, f) mu0) {H : Int64} : ∀ (k j : Nat) (mu : Nat → Nat → Int32), j + k = 64 → (∀ c, c ≠ 27 → mu c = mu0 c) → rn_R none mX9_digest (d + 6) 70 [some (.ref 22), some (.int (nI j))] [] mu (hF (vgD g a) j H) (fun r mu' _ => r = some (.long (hF (vgT tx) tx.length (hx (hF (vgD g a) 64 H) f))) ∧ ∀ c, c ≠ 27 → mu' c = mu0 c) := by
  intro k
  induction k with
  | zero =>
    intro j mu hek hfr
    have hs0 : mS (g, a, hs, tx, f) mu := mS_fr hs00 (fun c c1 c2 => hfr c (by omega))
    obtain ⟨hg, ha, hh, ht, hf⟩ := id hs0
    simp only at hg ha hh ht hf
    have h16 := hg.1
    have hp := pw_le hg.1
    have ha2 := ha.2
    refine rn_iload_n 71 dX9_digest_70 rfl rfl rfl ?_
    refine rn_bipush (v := 64) 73 dX9_digest_71 (by decide) rfl ?_
    refine rn_icmp_ge 98 76 dX9_digest_73 (by decide) rfl (fun _ => ?_) (fun c73 => absurd (nI_le (a := 64) (by omega) (by omega)) c73)
    obtain rfl : j = 64 := by omega
    refine rn_drop 1 [some (.ref 22), none] rfl ?_
    refine rn_aload_n 99 dX9_digest_98 rfl rfl rfl ?_
    refine rn_aload_n 100 dX9_digest_99 rfl rfl rfl ?_
    refine rn_get 103 (.int (mu 22 3)) dX9_digest_100 fl_X9_16 rfl rfl rfl rfl ?_
    refine rn_cvh mX9_mixes [.int (mu 22 3)] [] 106 none mu (hx (hF (vgD g a) 64 H) (mu 22 3)) dX9_digest_103 cv_X9_206 rfl rfl rfl (by simp [Value.category]) rfl (c_mixes (d + 5) mu (hF (vgD g a) 64 H) (mu 22 3)) ?_
    refine rn_iconst (v := 0) 107 dX9_digest_106 (by decide) rfl ?_
    refine rn_istore_n 108 [some (.ref 22), some (.int 0)] dX9_digest_107 rfl rfl (Nat.le_of_ble_eq_true rfl) rfl ?_
    rw [hf]
    exact lp_mg4 (d + 5) hs00 (H := hx (hF (vgD g a) 64 H) f) tx.length 0 mu (by omega) hfr
  | succ k ih =>
    intro j mu hek hfr
    have hs0 : mS (g, a, hs, tx, f) mu := mS_fr hs00 (fun c c1 c2 => hfr c (by omega))
    obtain ⟨hg, ha, hh, ht, hf⟩ := id hs0
    simp only at hg ha hh ht hf
    have h16 := hg.1
    have hp := pw_le hg.1
    have ha2 := ha.2
    have hj : j < 64 := by omega
    have edv : nI j / 8 = nI (j / 8) := pk_div (d := 8) (by omega) (by omega) (by omega)
    have erm : nI j - nI j / 8 * 8 = nI (j % 8) := pk_rem (d := 8) (by omega) (by omega) (by omega)
    refine rn_iload_n 71 dX9_digest_70 rfl rfl rfl ?_
    refine rn_bipush (v := 64) 73 dX9_digest_71 (by decide) rfl ?_
    refine rn_icmp_ge 98 76 dX9_digest_73 (by decide) rfl (fun c73 => absurd c73 (nI_ge (b := 64) (by omega) (by omega))) (fun _ => ?_)
    refine rn_aload_n 77 dX9_digest_76 rfl rfl rfl ?_
    refine rn_aload_n 78 dX9_digest_77 rfl rfl rfl ?_
    refine rn_iload_n 79 dX9_digest_78 rfl rfl rfl ?_
    refine rn_bipush (v := 8) 81 dX9_digest_79 (by decide) rfl ?_
    refine rn_idiv 82 dX9_digest_81 (by decide) rfl ?_
    refine rn_iload_n 83 dX9_digest_82 rfl rfl rfl ?_
    refine rn_bipush (v := 8) 85 dX9_digest_83 (by decide) rfl ?_
    refine rn_irem 86 dX9_digest_85 (by decide) rfl ?_
    rw [erm, edv]
    refine rn_callV mX9_distance [.int (nI (j / 8)), .int (nI (j % 8))] [.ref 22] dX9_digest_86 cv_X9_212 rfl rfl rfl (by simp [Value.category]) (c_mdist d (hF (vgD g a) j H) hg ha (u := j / 8) (v := j % 8) (by omega) (by omega)) (fun r1 m1 h1 q1 _ => ?_)
    obtain ⟨e1, k1, f1⟩ := q1
    rw [e1, k1]
    show rn_R _ mX9_digest _ 89 [some (.ref 22), some (.int (nI j))] [.int (nI (xD g a (j / 8) (j % 8) 0)), .ref 22] m1 (hF (vgD g a) j H) _
    refine rn_cvh mX9_mixes [.int (nI (xD g a (j / 8) (j % 8) 0))] [] 92 none m1 (hx (hF (vgD g a) j H) (nI (xD g a (j / 8) (j % 8) 0))) dX9_digest_89 cv_X9_206 rfl rfl rfl (by simp [Value.category]) rfl (c_mixes (d + 5) m1 (hF (vgD g a) j H) (nI (xD g a (j / 8) (j % 8) 0))) ?_
    refine rn_iinc (v := (nI (j + 1))) 95 [some (.ref 22), some (.int (nI (j + 1)))] dX9_digest_92 rfl (nI_1 _) rfl rfl ?_
    refine rn_goto 70 dX9_digest_95 (by decide) ?_
    exact ih (j + 1) m1 (by omega) (fun c hc => by rw [f1 c hc]; exact hfr c hc)

set_option maxRecDepth 100000 in
set_option maxHeartbeats 2000000 in
theorem lp_mg2 (d : Nat) {g : List Ed} {a : Nat} {hs : List Sg} {tx : List Nat} {f : Int32} {mu0 : Nat → Nat → Int32} (hs00 : mS (g, a, hs, tx, f) mu0) {H : Int64} : ∀ (k j : Nat) (mu : Nat → Nat → Int32), j + k = 6 * g.length → (∀ c, c ≠ 27 → mu c = mu0 c) → rn_R none mX9_digest (d + 6) 32 [some (.ref 22), some (.int (nI j))] [] mu (hF (vgE g a) j H) (fun r mu' _ => r = some (.long (hF (vgT tx) tx.length (hx (hF (vgD g a) 64 (hF (vgE g a) (6 * g.length) H)) f))) ∧ ∀ c, c ≠ 27 → mu' c = mu0 c) := by
  intro k
  induction k with
  | zero =>
    intro j mu hek hfr
    have hs0 : mS (g, a, hs, tx, f) mu := mS_fr hs00 (fun c c1 c2 => hfr c (by omega))
    obtain ⟨hg, ha, hh, ht, hf⟩ := id hs0
    simp only at hg ha hh ht hf
    have h16 := hg.1
    have hp := pw_le hg.1
    have ha2 := ha.2
    have m6 : (6 : Int32) * mu 23 80 = nI (6 * g.length) := by rw [hg.2.2.1]; exact pk_mul 6 _
    refine rn_iload_n 33 dX9_digest_32 rfl rfl rfl ?_
    refine rn_bipush (v := 6) 35 dX9_digest_33 (by decide) rfl ?_
    refine rn_aload_n 36 dX9_digest_35 rfl rfl rfl ?_
    refine rn_get 39 (.ref 23) dX9_digest_36 fl_X9_7 rfl rfl rfl rfl ?_
    refine rn_bipush (v := 80) 41 dX9_digest_39 (by decide) rfl ?_
    refine rn_iald 42 (mu 23 80) dX9_digest_41 rfl (vp_in_nI (n := 80) (by decide) (by decide)) rfl rfl ?_
    refine rn_imul 43 dX9_digest_42 rfl ?_
    rw [m6]
    refine rn_icmp_ge 68 46 dX9_digest_43 (by decide) rfl (fun _ => ?_) (fun c43 => absurd (nI_le (by omega) (by omega)) c43)
    obtain rfl : j = 6 * g.length := by omega
    refine rn_drop 1 [some (.ref 22), none] rfl ?_
    refine rn_iconst (v := 0) 69 dX9_digest_68 (by decide) rfl ?_
    refine rn_istore_n 70 [some (.ref 22), some (.int 0)] dX9_digest_69 rfl rfl (Nat.le_of_ble_eq_true rfl) rfl ?_
    exact lp_mg3 d hs00 (H := hF (vgE g a) (6 * g.length) H) 64 0 mu (by omega) hfr
  | succ k ih =>
    intro j mu hek hfr
    have hs0 : mS (g, a, hs, tx, f) mu := mS_fr hs00 (fun c c1 c2 => hfr c (by omega))
    obtain ⟨hg, ha, hh, ht, hf⟩ := id hs0
    simp only at hg ha hh ht hf
    have h16 := hg.1
    have hp := pw_le hg.1
    have ha2 := ha.2
    have m6 : (6 : Int32) * mu 23 80 = nI (6 * g.length) := by rw [hg.2.2.1]; exact pk_mul 6 _
    have hlt : j < 6 * g.length := by omega
    have edv : nI j / 6 = nI (j / 6) := pk_div (d := 6) (by omega) (by omega) (by omega)
    have erm : nI j - nI j / 6 * 6 = nI (j % 6) := pk_rem (d := 6) (by omega) (by omega) (by omega)
    refine rn_iload_n 33 dX9_digest_32 rfl rfl rfl ?_
    refine rn_bipush (v := 6) 35 dX9_digest_33 (by decide) rfl ?_
    refine rn_aload_n 36 dX9_digest_35 rfl rfl rfl ?_
    refine rn_get 39 (.ref 23) dX9_digest_36 fl_X9_7 rfl rfl rfl rfl ?_
    refine rn_bipush (v := 80) 41 dX9_digest_39 (by decide) rfl ?_
    refine rn_iald 42 (mu 23 80) dX9_digest_41 rfl (vp_in_nI (n := 80) (by decide) (by decide)) rfl rfl ?_
    refine rn_imul 43 dX9_digest_42 rfl ?_
    rw [m6]
    refine rn_icmp_ge 68 46 dX9_digest_43 (by decide) rfl (fun c43 => absurd c43 (nI_ge hlt (by omega))) (fun _ => ?_)
    refine rn_aload_n 47 dX9_digest_46 rfl rfl rfl ?_
    refine rn_aload_n 48 dX9_digest_47 rfl rfl rfl ?_
    refine rn_iload_n 49 dX9_digest_48 rfl rfl rfl ?_
    refine rn_bipush (v := 6) 51 dX9_digest_49 (by decide) rfl ?_
    refine rn_idiv 52 dX9_digest_51 (by decide) rfl ?_
    refine rn_iload_n 53 dX9_digest_52 rfl rfl rfl ?_
    refine rn_bipush (v := 6) 55 dX9_digest_53 (by decide) rfl ?_
    refine rn_irem 56 dX9_digest_55 (by decide) rfl ?_
    rw [erm, edv]
    refine rn_cvp mX9_edge [.int (nI (j / 6)), .int (nI (j % 6))] [.ref 22] 59 (.int (nI (edV g a (j / 6) (j % 6)))) dX9_digest_56 cv_X9_209 rfl rfl rfl (by simp [Value.category]) rfl (c_medge (d + 3) (hF (vgE g a) j H) hg ha (e := j / 6) (w := j % 6) (by omega) (by omega)) ?_
    refine rn_cvh mX9_mixes [.int (nI (edV g a (j / 6) (j % 6)))] [] 62 none mu (hx (hF (vgE g a) j H) (nI (edV g a (j / 6) (j % 6)))) dX9_digest_59 cv_X9_206 rfl rfl rfl (by simp [Value.category]) rfl (c_mixes (d + 5) mu (hF (vgE g a) j H) (nI (edV g a (j / 6) (j % 6)))) ?_
    refine rn_iinc (v := (nI (j + 1))) 65 [some (.ref 22), some (.int (nI (j + 1)))] dX9_digest_62 rfl (nI_1 _) rfl rfl ?_
    refine rn_goto 32 dX9_digest_65 (by decide) ?_
    exact ih (j + 1) mu (by omega) hfr

set_option maxRecDepth 100000 in
set_option maxHeartbeats 2000000 in
theorem lp_mg1 (d : Nat) {g : List Ed} {a : Nat} {hs : List Sg} {tx : List Nat} {f : Int32} {mu0 : Nat → Nat → Int32} (hs00 : mS (g, a, hs, tx, f) mu0) : ∀ (k e : Nat) (mu : Nat → Nat → Int32), e + k = 7 → (∀ c, c ≠ 27 → mu c = mu0 c) → rn_R none mX9_digest (d + 7) 9 [some (.ref 22), some (.int (nI e))] [] mu (hF (vgC g a hs tx) e 61) (fun r mu' _ => r = some (.long (dgV g a hs tx f)) ∧ ∀ c, c ≠ 27 → mu' c = mu0 c) := by
  intro k
  induction k with
  | zero =>
    intro e mu hek hfr
    refine rn_iload_n 10 dX9_digest_9 rfl rfl rfl ?_
    refine rn_bipush (v := 7) 12 dX9_digest_10 (by decide) rfl ?_
    refine rn_icmp_ge 30 15 dX9_digest_12 (by decide) rfl (fun _ => ?_) (fun c12 => absurd (nI_le (a := 7) (by omega) (by omega)) c12)
    obtain rfl : e = 7 := by omega
    refine rn_drop 1 [some (.ref 22), none] rfl ?_
    refine rn_iconst (v := 0) 31 dX9_digest_30 (by decide) rfl ?_
    refine rn_istore_n 32 [some (.ref 22), some (.int 0)] dX9_digest_31 rfl rfl (Nat.le_of_ble_eq_true rfl) rfl ?_
    exact lp_mg2 (d + 1) hs00 (H := hF (vgC g a hs tx) 7 61) (6 * g.length) 0 mu (by omega) hfr
  | succ k ih =>
    intro e mu hek hfr
    have hs0 : mS (g, a, hs, tx, f) mu := mS_fr hs00 (fun c c1 c2 => hfr c (by omega))
    obtain ⟨hg, ha, hh, ht, hf⟩ := id hs0
    simp only at hg ha hh ht hf
    have h16 := hg.1
    have hp := pw_le hg.1
    have ha2 := ha.2
    refine rn_iload_n 10 dX9_digest_9 rfl rfl rfl ?_
    refine rn_bipush (v := 7) 12 dX9_digest_10 (by decide) rfl ?_
    refine rn_icmp_ge 30 15 dX9_digest_12 (by decide) rfl (fun c12 => absurd c12 (nI_ge (b := 7) (by omega) (by omega))) (fun _ => ?_)
    refine rn_aload_n 16 dX9_digest_15 rfl rfl rfl ?_
    refine rn_aload_n 17 dX9_digest_16 rfl rfl rfl ?_
    refine rn_iload_n 18 dX9_digest_17 rfl rfl rfl ?_
    refine rn_callV mX9_count [.int (nI e)] [.ref 22] dX9_digest_18 cv_X9_203 rfl rfl rfl (by simp [Value.category]) (c_mcount d (hF (vgC g a hs tx) e 61) hs0 (w := e) (by omega)) (fun r1 m1 h1 q1 _ => ?_)
    obtain ⟨e1, k1, f1⟩ := q1
    rw [e1, k1]
    show rn_R _ mX9_digest _ 21 [some (.ref 22), some (.int (nI e))] [.int (nI (ctV g a hs tx e)), .ref 22] m1 (hF (vgC g a hs tx) e 61) _
    refine rn_cvh mX9_mixes [.int (nI (ctV g a hs tx e))] [] 24 none m1 (hx (hF (vgC g a hs tx) e 61) (nI (ctV g a hs tx e))) dX9_digest_21 cv_X9_206 rfl rfl rfl (by simp [Value.category]) rfl (c_mixes (d + 6) m1 (hF (vgC g a hs tx) e 61) (nI (ctV g a hs tx e))) ?_
    refine rn_iinc (v := (nI (e + 1))) 27 [some (.ref 22), some (.int (nI (e + 1)))] dX9_digest_24 rfl (nI_1 _) rfl rfl ?_
    refine rn_goto 9 dX9_digest_27 (by decide) ?_
    exact ih (e + 1) m1 (by omega) (fun c hc => by rw [f1 c hc]; exact hfr c hc)

set_option maxRecDepth 100000 in
set_option maxHeartbeats 2000000 in
theorem m_digest (d : Nat) {g : List Ed} {a : Nat} {hs : List Sg} {tx : List Nat} {f : Int32}  : MC mX9_digest (d + 7) [] (g, a, hs, tx, f) (g, a, hs, tx, f) (.long (dgV g a hs tx f)) := by
  intro mu h hs0
  obtain ⟨hg, ha, hh, ht, hf⟩ := id hs0
  simp only at hg ha hh ht hf
  refine gd_of rfl (Nat.le_of_ble_eq_true rfl) ?_
  show rn_R none mX9_digest (d + 7) 0 [some (.ref 22), none] [] mu h (fun r mu' _ => r = some (.long (dgV g a hs tx f)) ∧ mS (g, a, hs, tx, f) mu' ∧ ∀ c, c < 22 → mu' c = mu c)
  refine rn_aload_n 1 dX9_digest_0 rfl rfl rfl ?_
  refine rn_ldc2 4 dX9_digest_1 kc_X9_201 rfl ?_
  refine rn_putl 7 dX9_digest_4 fp_X9_197 rfl rfl ly_1_22 rfl ?_
  refine rn_iconst (v := 0) 8 dX9_digest_7 (by decide) rfl ?_
  refine rn_istore_n 9 [some (.ref 22), some (.int 0)] dX9_digest_8 rfl rfl (Nat.le_of_ble_eq_true rfl) rfl ?_
  refine rn_mono (lp_mg1 d hs0 7 0 mu (by omega) (fun _ _ => rfl)) (fun r m2 h2 q => ⟨q.1, mS_fr hs0 (fun c c1 c2 => q.2 c (by omega)), fun c hc => q.2 c (by omega)⟩)

theorem op_digest : OP mX8_digest mX9_digest [] := by
  rintro ⟨g, a, hs, tx, f⟩
  exact ⟨_, _, x_digest 95, m_digest 93⟩
