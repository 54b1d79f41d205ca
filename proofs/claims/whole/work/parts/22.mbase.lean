/-! THE REFERENCE: small methods -/
theorem isin_iff {v : Int32} {n : Nat} (hn : n + 1 < 2 ^ 31) : isin v (n + 1) ↔ ¬ v < 0 ∧ ¬ nI n < v := by
  constructor
  · rintro ⟨k, hk, rfl⟩
    exact ⟨nI_pos (by omega), nI_nlt (by omega) (by omega)⟩
  · rintro ⟨h1, h2⟩
    exact isin_of' hn h1 h2
theorem nisin {v : Int32} {n : Nat} (hn : n + 1 < 2 ^ 31) (h : ¬ isin v (n + 1)) : v < 0 ∨ nI n < v := by
  by_cases h1 : v < 0
  · exact Or.inl h1
  · by_cases h2 : nI n < v
    · exact Or.inr h2
    · exact absurd (isin_of' hn h1 h2) h

set_option maxRecDepth 100000 in
set_option maxHeartbeats 2000000 in
theorem c_in_t (d : Nat) (mu : Nat → Nat → Int32) (h : Int64) {v a b : Int32} (h1 : ¬ v < a) (h2 : ¬ b < v) : gd_G mX9_in d [.int v, .int a, .int b] mu h (pq (some (.int 1)) mu h) := by
  refine gd_of rfl (Nat.le_of_ble_eq_true rfl) ?_
  show rn_R none mX9_in d 0 [some (.int v), some (.int a), some (.int b)] [] mu h (pq (some (.int 1)) mu h)
  refine rn_iload_n 1 dX9_in_0 rfl rfl rfl ?_
  refine rn_iload_n 2 dX9_in_1 rfl rfl rfl ?_
  refine rn_icmp_lt 14 5 dX9_in_2 (by decide) rfl (fun c2 => absurd c2 (h1)) (fun _ => ?_)
  refine rn_iload_n 6 dX9_in_5 rfl rfl rfl ?_
  refine rn_iload_n 7 dX9_in_6 rfl rfl rfl ?_
  refine rn_icmp_gt 14 10 dX9_in_7 (by decide) rfl (fun c7 => absurd c7 (h2)) (fun _ => ?_)
  refine rn_iconst (v := 1) 11 dX9_in_10 (by decide) rfl ?_
  refine rn_goto 15 dX9_in_11 (by decide) ?_
  exact rn_zret rfl dX9_in_15 rfl (⟨rfl, rfl, rfl⟩)

set_option maxRecDepth 100000 in
set_option maxHeartbeats 2000000 in
theorem c_in_f (d : Nat) (mu : Nat → Nat → Int32) (h : Int64) {v a b : Int32} (hv : v < a ∨ b < v) : gd_G mX9_in d [.int v, .int a, .int b] mu h (pq (some (.int 0)) mu h) := by
  refine gd_of rfl (Nat.le_of_ble_eq_true rfl) ?_
  show rn_R none mX9_in d 0 [some (.int v), some (.int a), some (.int b)] [] mu h (pq (some (.int 0)) mu h)
  refine rn_iload_n 1 dX9_in_0 rfl rfl rfl ?_
  refine rn_iload_n 2 dX9_in_1 rfl rfl rfl ?_
  refine rn_icmp_lt 14 5 dX9_in_2 (by decide) rfl (fun c2 => ?_) (fun c2 => ?_)
  · skip
    refine rn_iconst (v := 0) 15 dX9_in_14 (by decide) rfl ?_
    exact rn_zret rfl dX9_in_15 rfl (⟨rfl, rfl, rfl⟩)
  · skip
    refine rn_iload_n 6 dX9_in_5 rfl rfl rfl ?_
    refine rn_iload_n 7 dX9_in_6 rfl rfl rfl ?_
    refine rn_icmp_gt 14 10 dX9_in_7 (by decide) rfl (fun _ => ?_) (fun c7 => absurd (hv.resolve_left c2) c7)
    refine rn_iconst (v := 0) 15 dX9_in_14 (by decide) rfl ?_
    exact rn_zret rfl dX9_in_15 rfl (⟨rfl, rfl, rfl⟩)

set_option maxRecDepth 100000 in
set_option maxHeartbeats 2000000 in
theorem c_mareNodes_t (d : Nat) (mu : Nat → Nat → Int32) (h : Int64) {u v : Int32} (hu : isin u 8) (hv : isin v 8) : gd_G mX9_areNodes (d + 1) [.int u, .int v] mu h (pq (some (.int 1)) mu h) := by
  refine gd_of rfl (Nat.le_of_ble_eq_true rfl) ?_
  show rn_R none mX9_areNodes (d + 1) 0 [some (.int u), some (.int v)] [] mu h (pq (some (.int 1)) mu h)
  have z1 := (isin_iff (n := 7) (by omega)).mp hu
  have z2 := (isin_iff (n := 7) (by omega)).mp hv
  refine rn_iload_n 1 dX9_areNodes_0 rfl rfl rfl ?_
  refine rn_iconst (v := 0) 2 dX9_areNodes_1 (by decide) rfl ?_
  refine rn_bipush (v := 7) 4 dX9_areNodes_2 (by decide) rfl ?_
  refine rn_csp mX9_in [.int u, .int 0, .int 7] [] 7 (.int 1) dX9_areNodes_4 cs_X9_38 rfl rfl (by simp [Value.category]) rfl (c_in_t (d) mu h (z1.1) (z1.2)) ?_
  refine rn_if_eq 24 10 dX9_areNodes_7 (by decide) rfl (fun c7 => absurd c7 (by decide)) (fun _ => ?_)
  refine rn_iload_n 11 dX9_areNodes_10 rfl rfl rfl ?_
  refine rn_iconst (v := 0) 12 dX9_areNodes_11 (by decide) rfl ?_
  refine rn_bipush (v := 7) 14 dX9_areNodes_12 (by decide) rfl ?_
  refine rn_csp mX9_in [.int v, .int 0, .int 7] [] 17 (.int 1) dX9_areNodes_14 cs_X9_38 rfl rfl (by simp [Value.category]) rfl (c_in_t (d) mu h (z2.1) (z2.2)) ?_
  refine rn_if_eq 24 20 dX9_areNodes_17 (by decide) rfl (fun c17 => absurd c17 (by decide)) (fun _ => ?_)
  refine rn_iconst (v := 1) 21 dX9_areNodes_20 (by decide) rfl ?_
  refine rn_goto 25 dX9_areNodes_21 (by decide) ?_
  exact rn_zret rfl dX9_areNodes_25 rfl (⟨rfl, rfl, rfl⟩)

set_option maxRecDepth 100000 in
set_option maxHeartbeats 2000000 in
theorem c_mareNodes_f (d : Nat) (mu : Nat → Nat → Int32) (h : Int64) {u v : Int32} (hn : ¬ (isin u 8 ∧ isin v 8)) : gd_G mX9_areNodes (d + 1) [.int u, .int v] mu h (pq (some (.int 0)) mu h) := by
  refine gd_of rfl (Nat.le_of_ble_eq_true rfl) ?_
  show rn_R none mX9_areNodes (d + 1) 0 [some (.int u), some (.int v)] [] mu h (pq (some (.int 0)) mu h)
  by_cases hu : isin u 8
  · skip
    have z1 := (isin_iff (n := 7) (by omega)).mp hu
    have hv : ¬ isin v 8 := fun q => hn ⟨hu, q⟩
    refine rn_iload_n 1 dX9_areNodes_0 rfl rfl rfl ?_
    refine rn_iconst (v := 0) 2 dX9_areNodes_1 (by decide) rfl ?_
    refine rn_bipush (v := 7) 4 dX9_areNodes_2 (by decide) rfl ?_
    refine rn_csp mX9_in [.int u, .int 0, .int 7] [] 7 (.int 1) dX9_areNodes_4 cs_X9_38 rfl rfl (by simp [Value.category]) rfl (c_in_t (d) mu h (z1.1) (z1.2)) ?_
    refine rn_if_eq 24 10 dX9_areNodes_7 (by decide) rfl (fun c7 => absurd c7 (by decide)) (fun _ => ?_)
    refine rn_iload_n 11 dX9_areNodes_10 rfl rfl rfl ?_
    refine rn_iconst (v := 0) 12 dX9_areNodes_11 (by decide) rfl ?_
    refine rn_bipush (v := 7) 14 dX9_areNodes_12 (by decide) rfl ?_
    refine rn_csp mX9_in [.int v, .int 0, .int 7] [] 17 (.int 0) dX9_areNodes_14 cs_X9_38 rfl rfl (by simp [Value.category]) rfl (c_in_f (d) mu h (nisin (n := 7) (by omega) hv)) ?_
    refine rn_if_eq 24 20 dX9_areNodes_17 (by decide) rfl (fun _ => ?_) (fun c17 => absurd (by decide) c17)
    refine rn_iconst (v := 0) 25 dX9_areNodes_24 (by decide) rfl ?_
    exact rn_zret rfl dX9_areNodes_25 rfl (⟨rfl, rfl, rfl⟩)
  · skip
    refine rn_iload_n 1 dX9_areNodes_0 rfl rfl rfl ?_
    refine rn_iconst (v := 0) 2 dX9_areNodes_1 (by decide) rfl ?_
    refine rn_bipush (v := 7) 4 dX9_areNodes_2 (by decide) rfl ?_
    refine rn_csp mX9_in [.int u, .int 0, .int 7] [] 7 (.int 0) dX9_areNodes_4 cs_X9_38 rfl rfl (by simp [Value.category]) rfl (c_in_f (d) mu h (nisin (n := 7) (by omega) hu)) ?_
    refine rn_if_eq 24 10 dX9_areNodes_7 (by decide) rfl (fun _ => ?_) (fun c7 => absurd (by decide) c7)
    refine rn_iconst (v := 0) 25 dX9_areNodes_24 (by decide) rfl ?_
    exact rn_zret rfl dX9_areNodes_25 rfl (⟨rfl, rfl, rfl⟩)

set_option maxRecDepth 100000 in
set_option maxHeartbeats 2000000 in
theorem c_of (d : Nat) (mu : Nat → Nat → Int32) (h : Int64) {e w : Nat} (he : 5 * e + w < 82) : gd_G mX9_of d [.ref 22, .int (nI e), .int (nI w)] mu h (pq (some (.int (mu 23 (5 * e + w)))) mu h) := by
  refine gd_of rfl (Nat.le_of_ble_eq_true rfl) ?_
  show rn_R none mX9_of d 0 [some (.ref 22), some (.int (nI e)), some (.int (nI w))] [] mu h (pq (some (.int (mu 23 (5 * e + w)))) mu h)
  refine rn_aload_n 1 dX9_of_0 rfl rfl rfl ?_
  refine rn_get 4 (.ref 23) dX9_of_1 fl_X9_7 rfl rfl rfl rfl ?_
  refine rn_iconst (v := 5) 5 dX9_of_4 (by decide) rfl ?_
  refine rn_iload_n 6 dX9_of_5 rfl rfl rfl ?_
  refine rn_imul 7 dX9_of_6 rfl ?_
  refine rn_iload_n 8 dX9_of_7 rfl rfl rfl ?_
  refine rn_iadd 9 dX9_of_8 rfl ?_
  have e5 : 5 * nI e + nI w = nI (5 * e + w) := by rw [show (5 : Int32) = nI 5 from rfl, pk_mul, nI_add]
  rw [e5]
  refine rn_iald 10 (mu 23 (5 * e + w)) dX9_of_9 rfl (vp_in_nI (by omega) (by omega)) (congrArg (mu 23) (nI_clamp (by omega))) rfl ?_
  exact rn_iret rfl dX9_of_10 (⟨rfl, rfl, rfl⟩)

theorem mg_eP {g : List Ed} {mu : Nat → Nat → Int32} (hg : mg g mu) {e w : Nat} (he : e < g.length) (hw : w < 5) : mu 23 (5 * e + w) = nI (eP g e w) := by
  have hp := mg_pk hg he
  rcases (show w = 0 ∨ w = 1 ∨ w = 2 ∨ w = 3 ∨ w = 4 by omega) with rfl | rfl | rfl | rfl | rfl
  · exact hp.1
  · exact hp.2.1
  · exact hp.2.2.1
  · exact hp.2.2.2.1
  · exact hp.2.2.2.2
theorem c_ofe (d : Nat) {g : List Ed} {mu : Nat → Nat → Int32} (h : Int64) (hg : mg g mu) {e w : Nat} (he : e < g.length) (hw : w < 5) : gd_G mX9_of d [.ref 22, .int (nI e), .int (nI w)] mu h (pq (some (.int (nI (eP g e w)))) mu h) := by
  have h16 := hg.1
  have := c_of d mu h (e := e) (w := w) (by omega)
  rw [mg_eP hg he hw] at this
  exact this

set_option maxRecDepth 100000 in
set_option maxHeartbeats 2000000 in
theorem c_isEdge_t (d : Nat) {g : List Ed} {mu : Nat → Nat → Int32} (h : Int64) (hg : mg g mu) {e : Nat} (he : e < g.length) : gd_G mX9_isEdge (d + 1) [.ref 22, .int (nI e)] mu h (pq (some (.int 1)) mu h) := by
  refine gd_of rfl (Nat.le_of_ble_eq_true rfl) ?_
  show rn_R none mX9_isEdge (d + 1) 0 [some (.ref 22), some (.int (nI e))] [] mu h (pq (some (.int 1)) mu h)
  have h16 := hg.1
  refine rn_iload_n 1 dX9_isEdge_0 rfl rfl rfl ?_
  refine rn_iconst (v := 0) 2 dX9_isEdge_1 (by decide) rfl ?_
  refine rn_aload_n 3 dX9_isEdge_2 rfl rfl rfl ?_
  refine rn_get 6 (.ref 23) dX9_isEdge_3 fl_X9_7 rfl rfl rfl rfl ?_
  refine rn_bipush (v := 80) 8 dX9_isEdge_6 (by decide) rfl ?_
  refine rn_iald 9 (mu 23 80) dX9_isEdge_8 rfl (vp_in_nI (n := 80) (by decide) (by decide)) rfl rfl ?_
  rw [hg.2.2.1]
  refine rn_iconst (v := 1) 10 dX9_isEdge_9 (by decide) rfl ?_
  refine rn_isub 11 dX9_isEdge_10 rfl ?_
  refine rn_csp mX9_in [.int (nI e), .int 0, .int ((nI g.length) - 1)] [] 14 (.int 1) dX9_isEdge_11 cs_X9_38 rfl rfl (by simp [Value.category]) rfl (c_in_t (d) mu h (nI_pos (by omega)) (by rw [nI_sub1 (by omega)]; exact nI_nlt (by omega) (by omega))) ?_
  exact rn_zret rfl dX9_isEdge_14 rfl (⟨rfl, rfl, rfl⟩)

set_option maxRecDepth 100000 in
set_option maxHeartbeats 2000000 in
theorem c_isEdge_f (d : Nat) {g : List Ed} {mu : Nat → Nat → Int32} (h : Int64) (hg : mg g mu) {v : Int32} (hv : ¬ isin v g.length) : gd_G mX9_isEdge (d + 1) [.ref 22, .int v] mu h (pq (some (.int 0)) mu h) := by
  refine gd_of rfl (Nat.le_of_ble_eq_true rfl) ?_
  show rn_R none mX9_isEdge (d + 1) 0 [some (.ref 22), some (.int v)] [] mu h (pq (some (.int 0)) mu h)
  have h16 := hg.1
  have z : v < 0 ∨ nI g.length - 1 < v := by
    rcases Nat.eq_zero_or_pos g.length with q | q
    · rw [q]
      by_cases z1 : v < 0
      · exact Or.inl z1
      · refine Or.inr (Int32.lt_of_lt_of_le (b := 0) (by decide) (Int32.not_lt.mp z1))
    · rw [nI_sub1 q]
      exact nisin (by omega) (by rw [Nat.sub_add_cancel q]; exact hv)
  refine rn_iload_n 1 dX9_isEdge_0 rfl rfl rfl ?_
  refine rn_iconst (v := 0) 2 dX9_isEdge_1 (by decide) rfl ?_
  refine rn_aload_n 3 dX9_isEdge_2 rfl rfl rfl ?_
  refine rn_get 6 (.ref 23) dX9_isEdge_3 fl_X9_7 rfl rfl rfl rfl ?_
  refine rn_bipush (v := 80) 8 dX9_isEdge_6 (by decide) rfl ?_
  refine rn_iald 9 (mu 23 80) dX9_isEdge_8 rfl (vp_in_nI (n := 80) (by decide) (by decide)) rfl rfl ?_
  rw [hg.2.2.1]
  refine rn_iconst (v := 1) 10 dX9_isEdge_9 (by decide) rfl ?_
  refine rn_isub 11 dX9_isEdge_10 rfl ?_
  refine rn_csp mX9_in [.int v, .int 0, .int ((nI g.length) - 1)] [] 14 (.int 0) dX9_isEdge_11 cs_X9_38 rfl rfl (by simp [Value.category]) rfl (c_in_f (d) mu h (z)) ?_
  exact rn_zret rfl dX9_isEdge_14 rfl (⟨rfl, rfl, rfl⟩)

set_option maxRecDepth 100000 in
set_option maxHeartbeats 2000000 in
theorem c_isSet_t (d : Nat) {g : List Ed} {mu : Nat → Nat → Int32} (h : Int64) (hg : mg g mu) {S : Nat} (hS : S < 2 ^ g.length) : gd_G mX9_isSet d [.ref 22, .int (nI S)] mu h (pq (some (.int 1)) mu h) := by
  refine gd_of rfl (Nat.le_of_ble_eq_true rfl) ?_
  show rn_R none mX9_isSet d 0 [some (.ref 22), some (.int (nI S))] [] mu h (pq (some (.int 1)) mu h)
  have h16 := hg.1
  have hp := pw_le hg.1
  refine rn_iload_n 1 dX9_isSet_0 rfl rfl rfl ?_
  refine rn_if_lt 20 4 dX9_isSet_1 (by decide) rfl (fun c1 => absurd c1 (nI_pos (by omega))) (fun _ => ?_)
  refine rn_iload_n 5 dX9_isSet_4 rfl rfl rfl ?_
  refine rn_aload_n 6 dX9_isSet_5 rfl rfl rfl ?_
  refine rn_get 9 (.ref 23) dX9_isSet_6 fl_X9_7 rfl rfl rfl rfl ?_
  refine rn_bipush (v := 80) 11 dX9_isSet_9 (by decide) rfl ?_
  refine rn_iald 12 (mu 23 80) dX9_isSet_11 rfl (vp_in_nI (n := 80) (by decide) (by decide)) rfl rfl ?_
  refine rn_ishr 13 dX9_isSet_12 rfl ?_
  refine rn_if_ne 20 16 dX9_isSet_13 (by decide) rfl (fun c13 => absurd (by rw [hg.2.2.1, nb_shr (by omega) (by omega), Nat.div_eq_of_lt hS]; rfl) c13) (fun _ => ?_)
  refine rn_iconst (v := 1) 17 dX9_isSet_16 (by decide) rfl ?_
  refine rn_goto 21 dX9_isSet_17 (by decide) ?_
  exact rn_zret rfl dX9_isSet_21 rfl (⟨rfl, rfl, rfl⟩)

set_option maxRecDepth 100000 in
set_option maxHeartbeats 2000000 in
theorem c_isSet_f (d : Nat) {g : List Ed} {mu : Nat → Nat → Int32} (h : Int64) (hg : mg g mu) {v : Int32} (hv : ¬ isin v (2 ^ g.length)) : gd_G mX9_isSet d [.ref 22, .int v] mu h (pq (some (.int 0)) mu h) := by
  refine gd_of rfl (Nat.le_of_ble_eq_true rfl) ?_
  show rn_R none mX9_isSet d 0 [some (.ref 22), some (.int v)] [] mu h (pq (some (.int 0)) mu h)
  have h16 := hg.1
  have hp := pw_le hg.1
  refine rn_iload_n 1 dX9_isSet_0 rfl rfl rfl ?_
  refine rn_if_lt 20 4 dX9_isSet_1 (by decide) rfl (fun c1 => ?_) (fun c1 => ?_)
  · skip
    refine rn_iconst (v := 0) 21 dX9_isSet_20 (by decide) rfl ?_
    exact rn_zret rfl dX9_isSet_21 rfl (⟨rfl, rfl, rfl⟩)
  · skip
    refine rn_iload_n 5 dX9_isSet_4 rfl rfl rfl ?_
    refine rn_aload_n 6 dX9_isSet_5 rfl rfl rfl ?_
    refine rn_get 9 (.ref 23) dX9_isSet_6 fl_X9_7 rfl rfl rfl rfl ?_
    refine rn_bipush (v := 80) 11 dX9_isSet_9 (by decide) rfl ?_
    refine rn_iald 12 (mu 23 80) dX9_isSet_11 rfl (vp_in_nI (n := 80) (by decide) (by decide)) rfl rfl ?_
    refine rn_ishr 13 dX9_isSet_12 rfl ?_
    refine rn_if_ne 20 16 dX9_isSet_13 (by decide) rfl (fun _ => ?_) (fun c13 => absurd c13 (fun q => by obtain ⟨j, hj, rfl⟩ := nI_of c1; rw [hg.2.2.1, nb_shr hj (by omega)] at q; have q2 := (nI_eq (b := 0) (Nat.lt_of_le_of_lt (Nat.div_le_self _ _) hj) (by omega)).mp q; exact hv ⟨j, (Nat.div_eq_zero_iff_lt (pw_pos _)).mp q2, rfl⟩))
    refine rn_iconst (v := 0) 21 dX9_isSet_20 (by decide) rfl ?_
    exact rn_zret rfl dX9_isSet_21 rfl (⟨rfl, rfl, rfl⟩)

set_option maxRecDepth 100000 in
set_option maxHeartbeats 2000000 in
theorem c_mhas (d : Nat) (mu : Nat → Nat → Int32) (h : Int64) {S e : Nat} (hS : S < 2 ^ 31) (he : e < 32) : gd_G mX9_has d [.int (nI S), .int (nI e)] mu h (pq (some (.int (if S.testBit e then 1 else 0))) mu h) := by
  refine gd_of rfl (Nat.le_of_ble_eq_true rfl) ?_
  show rn_R none mX9_has d 0 [some (.int (nI S)), some (.int (nI e))] [] mu h (pq (some (.int (if S.testBit e then 1 else 0))) mu h)
  have hbit := nb_bit hS he
  cases hb : S.testBit e with
  | true =>
    rw [hb] at hbit
    refine rn_iload_n 1 dX9_has_0 rfl rfl rfl ?_
    refine rn_iload_n 2 dX9_has_1 rfl rfl rfl ?_
    refine rn_ishr 3 dX9_has_2 rfl ?_
    refine rn_iconst (v := 1) 4 dX9_has_3 (by decide) rfl ?_
    refine rn_iand 5 dX9_has_4 rfl ?_
    rw [hbit]
    refine rn_iconst (v := 1) 6 dX9_has_5 (by decide) rfl ?_
    refine rn_icmp_ne 13 9 dX9_has_6 (by decide) rfl (fun c6 => absurd (rfl) c6) (fun _ => ?_)
    refine rn_iconst (v := 1) 10 dX9_has_9 (by decide) rfl ?_
    refine rn_goto 14 dX9_has_10 (by decide) ?_
    exact rn_zret rfl dX9_has_14 rfl (⟨rfl, rfl, rfl⟩)
  | false =>
    rw [hb] at hbit
    refine rn_iload_n 1 dX9_has_0 rfl rfl rfl ?_
    refine rn_iload_n 2 dX9_has_1 rfl rfl rfl ?_
    refine rn_ishr 3 dX9_has_2 rfl ?_
    refine rn_iconst (v := 1) 4 dX9_has_3 (by decide) rfl ?_
    refine rn_iand 5 dX9_has_4 rfl ?_
    rw [hbit]
    refine rn_iconst (v := 1) 6 dX9_has_5 (by decide) rfl ?_
    refine rn_icmp_ne 13 9 dX9_has_6 (by decide) rfl (fun _ => ?_) (fun c6 => absurd c6 (by decide))
    refine rn_iconst (v := 0) 14 dX9_has_13 (by decide) rfl ?_
    exact rn_zret rfl dX9_has_14 rfl (⟨rfl, rfl, rfl⟩)

set_option maxRecDepth 100000 in
set_option maxHeartbeats 2000000 in
theorem lp_costOf (d : Nat) {g : List Ed} {mu : Nat → Nat → Int32} (h : Int64) (hg : mg g mu) {S : Nat} (hS : S < 2 ^ 31) : ∀ (k e : Nat), e + k = g.length → rn_R none mX9_costOf (d + 2) 4 [some (.ref 22), some (.int (nI S)), some (.int (nI (cS g S e))), some (.int (nI e))] [] mu h (pq (some (.int (nI (cS g S g.length)))) mu h) := by
  intro k
  induction k with
  | zero =>
    intro e hek
    refine rn_iload_n 5 dX9_costOf_4 rfl rfl rfl ?_
    refine rn_aload_n 6 dX9_costOf_5 rfl rfl rfl ?_
    refine rn_get 9 (.ref 23) dX9_costOf_6 fl_X9_7 rfl rfl rfl rfl ?_
    refine rn_bipush (v := 80) 11 dX9_costOf_9 (by decide) rfl ?_
    refine rn_iald 12 (mu 23 80) dX9_costOf_11 rfl (vp_in_nI (n := 80) (by decide) (by decide)) rfl rfl ?_
    refine rn_icmp_ge 42 15 dX9_costOf_12 (by decide) rfl (fun _ => ?_) (fun c12 => absurd (by rw [hg.2.2.1]; exact nI_le (by omega) (by have := hg.1; omega)) c12)
    refine rn_iload_n 43 dX9_costOf_42 rfl rfl rfl ?_
    exact rn_iret rfl dX9_costOf_43 (⟨by rw [show e = g.length by omega], rfl, rfl⟩)
  | succ k ih =>
    intro e hek
    have hlt : e < g.length := by omega
    have h16 := hg.1
    have hm := c_mhas (d + 1) mu h (S := S) (e := e) hS (by omega)
    refine rn_iload_n 5 dX9_costOf_4 rfl rfl rfl ?_
    refine rn_aload_n 6 dX9_costOf_5 rfl rfl rfl ?_
    refine rn_get 9 (.ref 23) dX9_costOf_6 fl_X9_7 rfl rfl rfl rfl ?_
    refine rn_bipush (v := 80) 11 dX9_costOf_9 (by decide) rfl ?_
    refine rn_iald 12 (mu 23 80) dX9_costOf_11 rfl (vp_in_nI (n := 80) (by decide) (by decide)) rfl rfl ?_
    refine rn_icmp_ge 42 15 dX9_costOf_12 (by decide) rfl (fun c12 => absurd c12 (by rw [hg.2.2.1]; exact nI_ge hlt (by omega))) (fun _ => ?_)
    refine rn_iload_n 16 dX9_costOf_15 rfl rfl rfl ?_
    refine rn_iload_n 17 dX9_costOf_16 rfl rfl rfl ?_
    refine rn_iload_n 18 dX9_costOf_17 rfl rfl rfl ?_
    cases hb : S.testBit e with
    | true =>
      rw [hb] at hm
      refine rn_csp mX9_has [.int (nI S), .int (nI e)] [.int (nI (cS g S e))] 21 (.int (if true = true then 1 else 0)) dX9_costOf_18 cs_X9_42 rfl rfl (by simp [Value.category]) rfl (hm) ?_
      refine rn_if_eq 33 24 dX9_costOf_21 (by decide) rfl (fun c21 => absurd c21 (by decide)) (fun _ => ?_)
      refine rn_aload_n 25 dX9_costOf_24 rfl rfl rfl ?_
      refine rn_iload_n 26 dX9_costOf_25 rfl rfl rfl ?_
      refine rn_iconst (v := 4) 27 dX9_costOf_26 (by decide) rfl ?_
      refine rn_cvp mX9_of [.int (nI e), .int 4] [.int (nI (cS g S e))] 30 (.int (nI (eP g e 4))) dX9_costOf_27 cv_X9_46 rfl rfl rfl (by simp [Value.category]) rfl (c_ofe (d + 1) h hg (w := 4) hlt (by omega)) ?_
      refine rn_goto 34 dX9_costOf_30 (by decide) ?_
      refine rn_iadd 35 dX9_costOf_34 rfl ?_
      refine rn_istore_n 36 [some (.ref 22), some (.int (nI S)), some (.int ((nI (cS g S e)) + (nI (eP g e 4)))), some (.int (nI e))] dX9_costOf_35 rfl rfl (Nat.le_of_ble_eq_true rfl) rfl ?_
      refine rn_iinc (v := (nI (e + 1))) 39 [some (.ref 22), some (.int (nI S)), some (.int ((nI (cS g S e)) + (nI (eP g e 4)))), some (.int (nI (e + 1)))] dX9_costOf_36 rfl (nI_1 _) rfl rfl ?_
      refine rn_goto 4 dX9_costOf_39 (by decide) ?_
      have e1 : nI (cS g S e) + nI (eP g e 4) = nI (cS g S (e + 1)) := by rw [nI_add]; simp [cS, hb, eP]
      rw [e1]
      exact ih (e + 1) (by omega)
    | false =>
      rw [hb] at hm
      refine rn_csp mX9_has [.int (nI S), .int (nI e)] [.int (nI (cS g S e))] 21 (.int (if false = true then 1 else 0)) dX9_costOf_18 cs_X9_42 rfl rfl (by simp [Value.category]) rfl (hm) ?_
      refine rn_if_eq 33 24 dX9_costOf_21 (by decide) rfl (fun _ => ?_) (fun c21 => absurd (rfl) c21)
      refine rn_iconst (v := 0) 34 dX9_costOf_33 (by decide) rfl ?_
      refine rn_iadd 35 dX9_costOf_34 rfl ?_
      refine rn_istore_n 36 [some (.ref 22), some (.int (nI S)), some (.int ((nI (cS g S e)) + 0)), some (.int (nI e))] dX9_costOf_35 rfl rfl (Nat.le_of_ble_eq_true rfl) rfl ?_
      refine rn_iinc (v := (nI (e + 1))) 39 [some (.ref 22), some (.int (nI S)), some (.int ((nI (cS g S e)) + 0)), some (.int (nI (e + 1)))] dX9_costOf_36 rfl (nI_1 _) rfl rfl ?_
      refine rn_goto 4 dX9_costOf_39 (by decide) ?_
      have e1 : nI (cS g S e) + 0 = nI (cS g S (e + 1)) := by simp [cS, hb]
      rw [e1]
      exact ih (e + 1) (by omega)

set_option maxRecDepth 100000 in
set_option maxHeartbeats 2000000 in
theorem c_costOf (d : Nat) {g : List Ed} {mu : Nat → Nat → Int32} (h : Int64) (hg : mg g mu) {S : Nat} (hS : S < 2 ^ 31) : gd_G mX9_costOf (d + 2) [.ref 22, .int (nI S)] mu h (pq (some (.int (nI (cS g S g.length)))) mu h) := by
  refine gd_of rfl (Nat.le_of_ble_eq_true rfl) ?_
  show rn_R none mX9_costOf (d + 2) 0 [some (.ref 22), some (.int (nI S)), none, none] [] mu h (pq (some (.int (nI (cS g S g.length)))) mu h)
  refine rn_iconst (v := 0) 1 dX9_costOf_0 (by decide) rfl ?_
  refine rn_istore_n 2 [some (.ref 22), some (.int (nI S)), some (.int 0), none] dX9_costOf_1 rfl rfl (Nat.le_of_ble_eq_true rfl) rfl ?_
  refine rn_iconst (v := 0) 3 dX9_costOf_2 (by decide) rfl ?_
  refine rn_istore_n 4 [some (.ref 22), some (.int (nI S)), some (.int 0), some (.int 0)] dX9_costOf_3 rfl rfl (Nat.le_of_ble_eq_true rfl) rfl ?_
  exact lp_costOf d h hg hS g.length 0 (by omega)
