/-! THE GRAPH, further: packing, parts, values, lengths under an attack -/
/-- an edge's part by its number -/
def eP (g : List Ed) (i w : Nat) : Nat := if w = 0 then eF g i else if w = 1 then eT g i else if w = 2 then eL g i else if w = 3 then eY g i else eC g i
/-- a value that setEdge takes -/
def okV (what v : Int32) : Prop := (what = 2 ∧ isin v 100) ∨ (what = 3 ∧ ∃ k, 1 ≤ k ∧ k ≤ 100 ∧ v = nI k) ∨ (what = 4 ∧ ∃ k, 1 ≤ k ∧ k ≤ 9 ∧ v = nI k)
/-- an edge's length under an attack -/
def eW (g : List Ed) (S i : Nat) : Nat := if S.testBit i then (if eY g i = 100 then 9999 else eL g i + eY g i) else eL g i
def fw (g : List Ed) (S : Nat) (f : Nat → Int32) (k : Nat) : Nat → Int32 := fun j => if j < k then nI (eW g S j) else f j
theorem mu_rs (mu : Nat → Nat → Int32) (q : Nat) (f : Nat → Int32) (j : Nat) (v : Int32) : mu_s (mu_r mu q f) q j v = mu_r mu q (upd f j v) := by
  funext a
  unfold mu_s mu_r
  by_cases ha : a = q
  · simp [ha]
  · simp [ha]
theorem mu_r_id (mu : Nat → Nat → Int32) (q : Nat) : mu_r mu q (mu q) = mu := by
  funext a
  unfold mu_r
  by_cases ha : a = q
  · simp [ha]
  · simp [ha]
theorem fw_0 (g : List Ed) (S : Nat) (f : Nat → Int32) : fw g S f 0 = f := by funext j; simp [fw]
theorem fw_1 (g : List Ed) (S : Nat) (f : Nat → Int32) (k : Nat) : upd (fw g S f k) k (nI (eW g S k)) = fw g S f (k + 1) := by
  funext j
  unfold upd fw
  by_cases hj : j = k
  · simp [hj]
  · have : (j < k + 1) = (j < k) := propext ⟨fun h => by omega, fun h => by omega⟩
    simp [hj, this]

set_option maxRecDepth 100000 in
set_option maxHeartbeats 2000000 in
theorem c_pack (d : Nat) (mu : Nat → Nat → Int32) (h : Int64) {a b l y c : Nat} (ha : a < 8) (hb : b < 8) (hl : l < 128) (hy : y < 128) (hc : c < 16) : gd_G mX2_pack d [.int (nI a), .int (nI b), .int (nI l), .int (nI y), .int (nI c)] mu h (pq (some (.int (pkv a b l y c))) mu h) := by
  refine gd_of rfl (Nat.le_of_ble_eq_true rfl) ?_
  show rn_R none mX2_pack d 0 [some (.int (nI a)), some (.int (nI b)), some (.int (nI l)), some (.int (nI y)), some (.int (nI c))] [] mu h (pq (some (.int (pkv a b l y c))) mu h)
  refine rn_iload_n 1 dX2_pack_0 rfl rfl rfl ?_
  refine rn_iload_n 2 dX2_pack_1 rfl rfl rfl ?_
  refine rn_iconst (v := 3) 3 dX2_pack_2 (by decide) rfl ?_
  refine rn_ishl 4 dX2_pack_3 rfl ?_
  refine rn_ior 5 dX2_pack_4 rfl ?_
  refine rn_iload_n 6 dX2_pack_5 rfl rfl rfl ?_
  refine rn_bipush (v := 6) 8 dX2_pack_6 (by decide) rfl ?_
  refine rn_ishl 9 dX2_pack_8 rfl ?_
  refine rn_ior 10 dX2_pack_9 rfl ?_
  refine rn_iload_n 11 dX2_pack_10 rfl rfl rfl ?_
  refine rn_bipush (v := 13) 13 dX2_pack_11 (by decide) rfl ?_
  refine rn_ishl 14 dX2_pack_13 rfl ?_
  refine rn_ior 15 dX2_pack_14 rfl ?_
  refine rn_iload 17 dX2_pack_15 rfl rfl ?_
  refine rn_bipush (v := 20) 19 dX2_pack_17 (by decide) rfl ?_
  refine rn_ishl 20 dX2_pack_19 rfl ?_
  refine rn_ior 21 dX2_pack_20 rfl ?_
  exact rn_iret rfl dX2_pack_21 (⟨by rw [pkv_of ha hb hl hy hc], rfl, rfl⟩)

set_option maxRecDepth 100000 in
set_option maxHeartbeats 2000000 in
theorem c_part0 (d : Nat) {g : List Ed} {mu : Nat → Nat → Int32} (h : Int64) (hg : xg g mu) {e : Nat} (he : e < g.length) : gd_G mX2_part (d + 1) [.ref 1, .int (nI e), .int 0] mu h (pq (some (.int (nI (eF g e)))) mu h) := by
  refine gd_of rfl (Nat.le_of_ble_eq_true rfl) ?_
  show rn_R none mX2_part (d + 1) 0 [some (.ref 1), some (.int (nI e)), some (.int 0)] [] mu h (pq (some (.int (nI (eF g e)))) mu h)
  refine rn_aload_n 1 dX2_part_0 rfl rfl rfl ?_
  refine rn_iload_n 2 dX2_part_1 rfl rfl rfl ?_
  refine rn_cvp mX2_has [.int (nI e)] [] 5 (.int 1) dX2_part_2 cv_X2_26 rfl rfl rfl (by simp [Value.category]) rfl (c_has_t d h hg he) ?_
  refine rn_if_eq 17 8 dX2_part_5 (by decide) rfl (fun c5 => absurd c5 (by decide)) (fun _ => ?_)
  refine rn_iload_n 9 dX2_part_8 rfl rfl rfl ?_
  refine rn_if_lt 17 12 dX2_part_9 (by decide) rfl (fun c9 => absurd c9 (by decide)) (fun _ => ?_)
  refine rn_iload_n 13 dX2_part_12 rfl rfl rfl ?_
  refine rn_iconst (v := 4) 14 dX2_part_13 (by decide) rfl ?_
  refine rn_icmp_le 19 17 dX2_part_14 (by decide) rfl (fun _ => ?_) (fun c14 => absurd (by decide) c14)
  refine rn_aload_n 20 dX2_part_19 rfl rfl rfl ?_
  refine rn_get 23 (.ref 2) dX2_part_20 fl_X2_9 rfl rfl rfl rfl ?_
  refine rn_iload_n 24 dX2_part_23 rfl rfl rfl ?_
  refine rn_iald 25 (mu 2 e) dX2_part_24 rfl (vp_in_nI (by have := hg.1; omega) (by omega)) (by rw [nI_clamp (by have := hg.1; omega)]) rfl ?_
  refine rn_gets 28 dX2_part_25 ly_z0 zs_X2_30 rfl ?_
  refine rn_iload_n 29 dX2_part_28 rfl rfl rfl ?_
  refine rn_ti 30 (0) dX2_part_29 ly_z0 (vp_in_nI (n := 0) (by decide) (by decide)) (by decide) rfl ?_
  refine rn_ishr 31 dX2_part_30 rfl ?_
  refine rn_gets 34 dX2_part_31 ly_z1 zs_X2_33 rfl ?_
  refine rn_iload_n 35 dX2_part_34 rfl rfl rfl ?_
  refine rn_ti 36 (7) dX2_part_35 ly_z1 (vp_in_nI (n := 0) (by decide) (by decide)) (by decide) rfl ?_
  refine rn_iand 37 dX2_part_36 rfl ?_
  exact rn_iret rfl dX2_part_37 (⟨by rw [sb_shr0, (xg_pk hg he).1], rfl, rfl⟩)

set_option maxRecDepth 100000 in
set_option maxHeartbeats 2000000 in
theorem c_part1 (d : Nat) {g : List Ed} {mu : Nat → Nat → Int32} (h : Int64) (hg : xg g mu) {e : Nat} (he : e < g.length) : gd_G mX2_part (d + 1) [.ref 1, .int (nI e), .int 1] mu h (pq (some (.int (nI (eT g e)))) mu h) := by
  refine gd_of rfl (Nat.le_of_ble_eq_true rfl) ?_
  show rn_R none mX2_part (d + 1) 0 [some (.ref 1), some (.int (nI e)), some (.int 1)] [] mu h (pq (some (.int (nI (eT g e)))) mu h)
  refine rn_aload_n 1 dX2_part_0 rfl rfl rfl ?_
  refine rn_iload_n 2 dX2_part_1 rfl rfl rfl ?_
  refine rn_cvp mX2_has [.int (nI e)] [] 5 (.int 1) dX2_part_2 cv_X2_26 rfl rfl rfl (by simp [Value.category]) rfl (c_has_t d h hg he) ?_
  refine rn_if_eq 17 8 dX2_part_5 (by decide) rfl (fun c5 => absurd c5 (by decide)) (fun _ => ?_)
  refine rn_iload_n 9 dX2_part_8 rfl rfl rfl ?_
  refine rn_if_lt 17 12 dX2_part_9 (by decide) rfl (fun c9 => absurd c9 (by decide)) (fun _ => ?_)
  refine rn_iload_n 13 dX2_part_12 rfl rfl rfl ?_
  refine rn_iconst (v := 4) 14 dX2_part_13 (by decide) rfl ?_
  refine rn_icmp_le 19 17 dX2_part_14 (by decide) rfl (fun _ => ?_) (fun c14 => absurd (by decide) c14)
  refine rn_aload_n 20 dX2_part_19 rfl rfl rfl ?_
  refine rn_get 23 (.ref 2) dX2_part_20 fl_X2_9 rfl rfl rfl rfl ?_
  refine rn_iload_n 24 dX2_part_23 rfl rfl rfl ?_
  refine rn_iald 25 (mu 2 e) dX2_part_24 rfl (vp_in_nI (by have := hg.1; omega) (by omega)) (by rw [nI_clamp (by have := hg.1; omega)]) rfl ?_
  refine rn_gets 28 dX2_part_25 ly_z0 zs_X2_30 rfl ?_
  refine rn_iload_n 29 dX2_part_28 rfl rfl rfl ?_
  refine rn_ti 30 (3) dX2_part_29 ly_z0 (vp_in_nI (n := 1) (by decide) (by decide)) (by decide) rfl ?_
  refine rn_ishr 31 dX2_part_30 rfl ?_
  refine rn_gets 34 dX2_part_31 ly_z1 zs_X2_33 rfl ?_
  refine rn_iload_n 35 dX2_part_34 rfl rfl rfl ?_
  refine rn_ti 36 (7) dX2_part_35 ly_z1 (vp_in_nI (n := 1) (by decide) (by decide)) (by decide) rfl ?_
  refine rn_iand 37 dX2_part_36 rfl ?_
  exact rn_iret rfl dX2_part_37 (⟨by rw [(xg_pk hg he).2.1], rfl, rfl⟩)

set_option maxRecDepth 100000 in
set_option maxHeartbeats 2000000 in
theorem c_part2 (d : Nat) {g : List Ed} {mu : Nat → Nat → Int32} (h : Int64) (hg : xg g mu) {e : Nat} (he : e < g.length) : gd_G mX2_part (d + 1) [.ref 1, .int (nI e), .int 2] mu h (pq (some (.int (nI (eL g e)))) mu h) := by
  refine gd_of rfl (Nat.le_of_ble_eq_true rfl) ?_
  show rn_R none mX2_part (d + 1) 0 [some (.ref 1), some (.int (nI e)), some (.int 2)] [] mu h (pq (some (.int (nI (eL g e)))) mu h)
  refine rn_aload_n 1 dX2_part_0 rfl rfl rfl ?_
  refine rn_iload_n 2 dX2_part_1 rfl rfl rfl ?_
  refine rn_cvp mX2_has [.int (nI e)] [] 5 (.int 1) dX2_part_2 cv_X2_26 rfl rfl rfl (by simp [Value.category]) rfl (c_has_t d h hg he) ?_
  refine rn_if_eq 17 8 dX2_part_5 (by decide) rfl (fun c5 => absurd c5 (by decide)) (fun _ => ?_)
  refine rn_iload_n 9 dX2_part_8 rfl rfl rfl ?_
  refine rn_if_lt 17 12 dX2_part_9 (by decide) rfl (fun c9 => absurd c9 (by decide)) (fun _ => ?_)
  refine rn_iload_n 13 dX2_part_12 rfl rfl rfl ?_
  refine rn_iconst (v := 4) 14 dX2_part_13 (by decide) rfl ?_
  refine rn_icmp_le 19 17 dX2_part_14 (by decide) rfl (fun _ => ?_) (fun c14 => absurd (by decide) c14)
  refine rn_aload_n 20 dX2_part_19 rfl rfl rfl ?_
  refine rn_get 23 (.ref 2) dX2_part_20 fl_X2_9 rfl rfl rfl rfl ?_
  refine rn_iload_n 24 dX2_part_23 rfl rfl rfl ?_
  refine rn_iald 25 (mu 2 e) dX2_part_24 rfl (vp_in_nI (by have := hg.1; omega) (by omega)) (by rw [nI_clamp (by have := hg.1; omega)]) rfl ?_
  refine rn_gets 28 dX2_part_25 ly_z0 zs_X2_30 rfl ?_
  refine rn_iload_n 29 dX2_part_28 rfl rfl rfl ?_
  refine rn_ti 30 (6) dX2_part_29 ly_z0 (vp_in_nI (n := 2) (by decide) (by decide)) (by decide) rfl ?_
  refine rn_ishr 31 dX2_part_30 rfl ?_
  refine rn_gets 34 dX2_part_31 ly_z1 zs_X2_33 rfl ?_
  refine rn_iload_n 35 dX2_part_34 rfl rfl rfl ?_
  refine rn_ti 36 (127) dX2_part_35 ly_z1 (vp_in_nI (n := 2) (by decide) (by decide)) (by decide) rfl ?_
  refine rn_iand 37 dX2_part_36 rfl ?_
  exact rn_iret rfl dX2_part_37 (⟨by rw [(xg_pk hg he).2.2.1], rfl, rfl⟩)

set_option maxRecDepth 100000 in
set_option maxHeartbeats 2000000 in
theorem c_part3 (d : Nat) {g : List Ed} {mu : Nat → Nat → Int32} (h : Int64) (hg : xg g mu) {e : Nat} (he : e < g.length) : gd_G mX2_part (d + 1) [.ref 1, .int (nI e), .int 3] mu h (pq (some (.int (nI (eY g e)))) mu h) := by
  refine gd_of rfl (Nat.le_of_ble_eq_true rfl) ?_
  show rn_R none mX2_part (d + 1) 0 [some (.ref 1), some (.int (nI e)), some (.int 3)] [] mu h (pq (some (.int (nI (eY g e)))) mu h)
  refine rn_aload_n 1 dX2_part_0 rfl rfl rfl ?_
  refine rn_iload_n 2 dX2_part_1 rfl rfl rfl ?_
  refine rn_cvp mX2_has [.int (nI e)] [] 5 (.int 1) dX2_part_2 cv_X2_26 rfl rfl rfl (by simp [Value.category]) rfl (c_has_t d h hg he) ?_
  refine rn_if_eq 17 8 dX2_part_5 (by decide) rfl (fun c5 => absurd c5 (by decide)) (fun _ => ?_)
  refine rn_iload_n 9 dX2_part_8 rfl rfl rfl ?_
  refine rn_if_lt 17 12 dX2_part_9 (by decide) rfl (fun c9 => absurd c9 (by decide)) (fun _ => ?_)
  refine rn_iload_n 13 dX2_part_12 rfl rfl rfl ?_
  refine rn_iconst (v := 4) 14 dX2_part_13 (by decide) rfl ?_
  refine rn_icmp_le 19 17 dX2_part_14 (by decide) rfl (fun _ => ?_) (fun c14 => absurd (by decide) c14)
  refine rn_aload_n 20 dX2_part_19 rfl rfl rfl ?_
  refine rn_get 23 (.ref 2) dX2_part_20 fl_X2_9 rfl rfl rfl rfl ?_
  refine rn_iload_n 24 dX2_part_23 rfl rfl rfl ?_
  refine rn_iald 25 (mu 2 e) dX2_part_24 rfl (vp_in_nI (by have := hg.1; omega) (by omega)) (by rw [nI_clamp (by have := hg.1; omega)]) rfl ?_
  refine rn_gets 28 dX2_part_25 ly_z0 zs_X2_30 rfl ?_
  refine rn_iload_n 29 dX2_part_28 rfl rfl rfl ?_
  refine rn_ti 30 (13) dX2_part_29 ly_z0 (vp_in_nI (n := 3) (by decide) (by decide)) (by decide) rfl ?_
  refine rn_ishr 31 dX2_part_30 rfl ?_
  refine rn_gets 34 dX2_part_31 ly_z1 zs_X2_33 rfl ?_
  refine rn_iload_n 35 dX2_part_34 rfl rfl rfl ?_
  refine rn_ti 36 (127) dX2_part_35 ly_z1 (vp_in_nI (n := 3) (by decide) (by decide)) (by decide) rfl ?_
  refine rn_iand 37 dX2_part_36 rfl ?_
  exact rn_iret rfl dX2_part_37 (⟨by rw [(xg_pk hg he).2.2.2.1], rfl, rfl⟩)

set_option maxRecDepth 100000 in
set_option maxHeartbeats 2000000 in
theorem c_part4 (d : Nat) {g : List Ed} {mu : Nat → Nat → Int32} (h : Int64) (hg : xg g mu) {e : Nat} (he : e < g.length) : gd_G mX2_part (d + 1) [.ref 1, .int (nI e), .int 4] mu h (pq (some (.int (nI (eC g e)))) mu h) := by
  refine gd_of rfl (Nat.le_of_ble_eq_true rfl) ?_
  show rn_R none mX2_part (d + 1) 0 [some (.ref 1), some (.int (nI e)), some (.int 4)] [] mu h (pq (some (.int (nI (eC g e)))) mu h)
  refine rn_aload_n 1 dX2_part_0 rfl rfl rfl ?_
  refine rn_iload_n 2 dX2_part_1 rfl rfl rfl ?_
  refine rn_cvp mX2_has [.int (nI e)] [] 5 (.int 1) dX2_part_2 cv_X2_26 rfl rfl rfl (by simp [Value.category]) rfl (c_has_t d h hg he) ?_
  refine rn_if_eq 17 8 dX2_part_5 (by decide) rfl (fun c5 => absurd c5 (by decide)) (fun _ => ?_)
  refine rn_iload_n 9 dX2_part_8 rfl rfl rfl ?_
  refine rn_if_lt 17 12 dX2_part_9 (by decide) rfl (fun c9 => absurd c9 (by decide)) (fun _ => ?_)
  refine rn_iload_n 13 dX2_part_12 rfl rfl rfl ?_
  refine rn_iconst (v := 4) 14 dX2_part_13 (by decide) rfl ?_
  refine rn_icmp_le 19 17 dX2_part_14 (by decide) rfl (fun _ => ?_) (fun c14 => absurd (by decide) c14)
  refine rn_aload_n 20 dX2_part_19 rfl rfl rfl ?_
  refine rn_get 23 (.ref 2) dX2_part_20 fl_X2_9 rfl rfl rfl rfl ?_
  refine rn_iload_n 24 dX2_part_23 rfl rfl rfl ?_
  refine rn_iald 25 (mu 2 e) dX2_part_24 rfl (vp_in_nI (by have := hg.1; omega) (by omega)) (by rw [nI_clamp (by have := hg.1; omega)]) rfl ?_
  refine rn_gets 28 dX2_part_25 ly_z0 zs_X2_30 rfl ?_
  refine rn_iload_n 29 dX2_part_28 rfl rfl rfl ?_
  refine rn_ti 30 (20) dX2_part_29 ly_z0 (vp_in_nI (n := 4) (by decide) (by decide)) (by decide) rfl ?_
  refine rn_ishr 31 dX2_part_30 rfl ?_
  refine rn_gets 34 dX2_part_31 ly_z1 zs_X2_33 rfl ?_
  refine rn_iload_n 35 dX2_part_34 rfl rfl rfl ?_
  refine rn_ti 36 (15) dX2_part_35 ly_z1 (vp_in_nI (n := 4) (by decide) (by decide)) (by decide) rfl ?_
  refine rn_iand 37 dX2_part_36 rfl ?_
  exact rn_iret rfl dX2_part_37 (⟨by rw [(xg_pk hg he).2.2.2.2], rfl, rfl⟩)

theorem c_part (d : Nat) {g : List Ed} {mu : Nat → Nat → Int32} (h : Int64) (hg : xg g mu) {e w : Nat} (he : e < g.length) (hw : w < 5) : gd_G mX2_part (d + 1) [.ref 1, .int (nI e), .int (nI w)] mu h (pq (some (.int (nI (eP g e w)))) mu h) := by
  rcases (show w = 0 ∨ w = 1 ∨ w = 2 ∨ w = 3 ∨ w = 4 by omega) with rfl | rfl | rfl | rfl | rfl
  · exact c_part0 d h hg he
  · exact c_part1 d h hg he
  · exact c_part2 d h hg he
  · exact c_part3 d h hg he
  · exact c_part4 d h hg he

set_option maxRecDepth 100000 in
set_option maxHeartbeats 2000000 in
theorem c_isValue2_t (d : Nat) (mu : Nat → Nat → Int32) (h : Int64) {k : Nat} (h1 : 0 ≤ k) (h2 : k ≤ 99) : gd_G mX2_isValue d [.int 2, .int (nI k)] mu h (pq (some (.int 1)) mu h) := by
  refine gd_of rfl (Nat.le_of_ble_eq_true rfl) ?_
  show rn_R none mX2_isValue d 0 [some (.int 2), some (.int (nI k))] [] mu h (pq (some (.int 1)) mu h)
  refine rn_iload_n 1 dX2_isValue_0 rfl rfl rfl ?_
  refine rn_tableIn 28 dX2_isValue_1 (by decide) (by decide) rfl (by decide) ?_
  refine rn_iload_n 29 dX2_isValue_28 rfl rfl rfl ?_
  refine rn_if_lt 42 32 dX2_isValue_29 (by decide) rfl (fun c29 => absurd c29 (nI_pos (by omega))) (fun _ => ?_)
  refine rn_iload_n 33 dX2_isValue_32 rfl rfl rfl ?_
  refine rn_bipush (v := 99) 35 dX2_isValue_33 (by decide) rfl ?_
  refine rn_icmp_gt 42 38 dX2_isValue_35 (by decide) rfl (fun c35 => absurd c35 (nI_nlt (b := k) (a := 99) (by omega) (by omega))) (fun _ => ?_)
  refine rn_iconst (v := 1) 39 dX2_isValue_38 (by decide) rfl ?_
  refine rn_goto 43 dX2_isValue_39 (by decide) ?_
  exact rn_zret rfl dX2_isValue_43 rfl (⟨rfl, rfl, rfl⟩)

set_option maxRecDepth 100000 in
set_option maxHeartbeats 2000000 in
theorem c_isValue2_f (d : Nat) (mu : Nat → Nat → Int32) (h : Int64) {v : Int32} (hv : ¬ isin v 100) : gd_G mX2_isValue d [.int 2, .int v] mu h (pq (some (.int 0)) mu h) := by
  refine gd_of rfl (Nat.le_of_ble_eq_true rfl) ?_
  show rn_R none mX2_isValue d 0 [some (.int 2), some (.int v)] [] mu h (pq (some (.int 0)) mu h)
  refine rn_iload_n 1 dX2_isValue_0 rfl rfl rfl ?_
  refine rn_tableIn 28 dX2_isValue_1 (by decide) (by decide) rfl (by decide) ?_
  refine rn_iload_n 29 dX2_isValue_28 rfl rfl rfl ?_
  refine rn_if_lt 42 32 dX2_isValue_29 (by decide) rfl (fun c29 => ?_) (fun c29 => ?_)
  · skip
    refine rn_iconst (v := 0) 43 dX2_isValue_42 (by decide) rfl ?_
    exact rn_zret rfl dX2_isValue_43 rfl (⟨rfl, rfl, rfl⟩)
  · skip
    refine rn_iload_n 33 dX2_isValue_32 rfl rfl rfl ?_
    refine rn_bipush (v := 99) 35 dX2_isValue_33 (by decide) rfl ?_
    refine rn_icmp_gt 42 38 dX2_isValue_35 (by decide) rfl (fun _ => ?_) (fun c35 => absurd (Classical.byContradiction fun q => hv (isin_of' (n := 99) (by omega) c29 q)) c35)
    refine rn_iconst (v := 0) 43 dX2_isValue_42 (by decide) rfl ?_
    exact rn_zret rfl dX2_isValue_43 rfl (⟨rfl, rfl, rfl⟩)

theorem iv_of {v : Int32} {n : Nat} (hn : n + 1 < 2 ^ 31) (h1 : ¬ v < 1) (h2 : ¬ nI n < v) : ∃ k, 1 ≤ k ∧ k ≤ n ∧ v = nI k := by
  have h0 : ¬ v < 0 := fun q => h1 (Int32.lt_trans q (by decide))
  obtain ⟨k, hk, rfl⟩ := isin_of' hn h0 h2
  refine ⟨k, ?_, by omega, rfl⟩
  rcases Nat.eq_zero_or_pos k with rfl | q
  · exact absurd (by decide : nI 0 < 1) h1
  · exact q

set_option maxRecDepth 100000 in
set_option maxHeartbeats 2000000 in
theorem c_isValue3_t (d : Nat) (mu : Nat → Nat → Int32) (h : Int64) {k : Nat} (h1 : 1 ≤ k) (h2 : k ≤ 100) : gd_G mX2_isValue d [.int 3, .int (nI k)] mu h (pq (some (.int 1)) mu h) := by
  refine gd_of rfl (Nat.le_of_ble_eq_true rfl) ?_
  show rn_R none mX2_isValue d 0 [some (.int 3), some (.int (nI k))] [] mu h (pq (some (.int 1)) mu h)
  refine rn_iload_n 1 dX2_isValue_0 rfl rfl rfl ?_
  refine rn_tableIn 44 dX2_isValue_1 (by decide) (by decide) rfl (by decide) ?_
  refine rn_iload_n 45 dX2_isValue_44 rfl rfl rfl ?_
  refine rn_iconst (v := 1) 46 dX2_isValue_45 (by decide) rfl ?_
  refine rn_icmp_lt 59 49 dX2_isValue_46 (by decide) rfl (fun c46 => absurd c46 (nI_nlt (b := 1) (by omega) (by omega))) (fun _ => ?_)
  refine rn_iload_n 50 dX2_isValue_49 rfl rfl rfl ?_
  refine rn_bipush (v := 100) 52 dX2_isValue_50 (by decide) rfl ?_
  refine rn_icmp_gt 59 55 dX2_isValue_52 (by decide) rfl (fun c52 => absurd c52 (nI_nlt (b := k) (a := 100) (by omega) (by omega))) (fun _ => ?_)
  refine rn_iconst (v := 1) 56 dX2_isValue_55 (by decide) rfl ?_
  refine rn_goto 60 dX2_isValue_56 (by decide) ?_
  exact rn_zret rfl dX2_isValue_60 rfl (⟨rfl, rfl, rfl⟩)

set_option maxRecDepth 100000 in
set_option maxHeartbeats 2000000 in
theorem c_isValue3_f (d : Nat) (mu : Nat → Nat → Int32) (h : Int64) {v : Int32} (hv : ¬ ∃ k, 1 ≤ k ∧ k ≤ 100 ∧ v = nI k) : gd_G mX2_isValue d [.int 3, .int v] mu h (pq (some (.int 0)) mu h) := by
  refine gd_of rfl (Nat.le_of_ble_eq_true rfl) ?_
  show rn_R none mX2_isValue d 0 [some (.int 3), some (.int v)] [] mu h (pq (some (.int 0)) mu h)
  refine rn_iload_n 1 dX2_isValue_0 rfl rfl rfl ?_
  refine rn_tableIn 44 dX2_isValue_1 (by decide) (by decide) rfl (by decide) ?_
  refine rn_iload_n 45 dX2_isValue_44 rfl rfl rfl ?_
  refine rn_iconst (v := 1) 46 dX2_isValue_45 (by decide) rfl ?_
  refine rn_icmp_lt 59 49 dX2_isValue_46 (by decide) rfl (fun c46 => ?_) (fun c46 => ?_)
  · skip
    refine rn_iconst (v := 0) 60 dX2_isValue_59 (by decide) rfl ?_
    exact rn_zret rfl dX2_isValue_60 rfl (⟨rfl, rfl, rfl⟩)
  · skip
    refine rn_iload_n 50 dX2_isValue_49 rfl rfl rfl ?_
    refine rn_bipush (v := 100) 52 dX2_isValue_50 (by decide) rfl ?_
    refine rn_icmp_gt 59 55 dX2_isValue_52 (by decide) rfl (fun _ => ?_) (fun c52 => absurd (Classical.byContradiction fun q => hv (iv_of (by omega) c46 q)) c52)
    refine rn_iconst (v := 0) 60 dX2_isValue_59 (by decide) rfl ?_
    exact rn_zret rfl dX2_isValue_60 rfl (⟨rfl, rfl, rfl⟩)

set_option maxRecDepth 100000 in
set_option maxHeartbeats 2000000 in
theorem c_isValue4_t (d : Nat) (mu : Nat → Nat → Int32) (h : Int64) {k : Nat} (h1 : 1 ≤ k) (h2 : k ≤ 9) : gd_G mX2_isValue d [.int 4, .int (nI k)] mu h (pq (some (.int 1)) mu h) := by
  refine gd_of rfl (Nat.le_of_ble_eq_true rfl) ?_
  show rn_R none mX2_isValue d 0 [some (.int 4), some (.int (nI k))] [] mu h (pq (some (.int 1)) mu h)
  refine rn_iload_n 1 dX2_isValue_0 rfl rfl rfl ?_
  refine rn_tableIn 61 dX2_isValue_1 (by decide) (by decide) rfl (by decide) ?_
  refine rn_iload_n 62 dX2_isValue_61 rfl rfl rfl ?_
  refine rn_iconst (v := 1) 63 dX2_isValue_62 (by decide) rfl ?_
  refine rn_icmp_lt 76 66 dX2_isValue_63 (by decide) rfl (fun c63 => absurd c63 (nI_nlt (b := 1) (by omega) (by omega))) (fun _ => ?_)
  refine rn_iload_n 67 dX2_isValue_66 rfl rfl rfl ?_
  refine rn_bipush (v := 9) 69 dX2_isValue_67 (by decide) rfl ?_
  refine rn_icmp_gt 76 72 dX2_isValue_69 (by decide) rfl (fun c69 => absurd c69 (nI_nlt (b := k) (a := 9) (by omega) (by omega))) (fun _ => ?_)
  refine rn_iconst (v := 1) 73 dX2_isValue_72 (by decide) rfl ?_
  refine rn_goto 77 dX2_isValue_73 (by decide) ?_
  exact rn_zret rfl dX2_isValue_77 rfl (⟨rfl, rfl, rfl⟩)

set_option maxRecDepth 100000 in
set_option maxHeartbeats 2000000 in
theorem c_isValue4_f (d : Nat) (mu : Nat → Nat → Int32) (h : Int64) {v : Int32} (hv : ¬ ∃ k, 1 ≤ k ∧ k ≤ 9 ∧ v = nI k) : gd_G mX2_isValue d [.int 4, .int v] mu h (pq (some (.int 0)) mu h) := by
  refine gd_of rfl (Nat.le_of_ble_eq_true rfl) ?_
  show rn_R none mX2_isValue d 0 [some (.int 4), some (.int v)] [] mu h (pq (some (.int 0)) mu h)
  refine rn_iload_n 1 dX2_isValue_0 rfl rfl rfl ?_
  refine rn_tableIn 61 dX2_isValue_1 (by decide) (by decide) rfl (by decide) ?_
  refine rn_iload_n 62 dX2_isValue_61 rfl rfl rfl ?_
  refine rn_iconst (v := 1) 63 dX2_isValue_62 (by decide) rfl ?_
  refine rn_icmp_lt 76 66 dX2_isValue_63 (by decide) rfl (fun c63 => ?_) (fun c63 => ?_)
  · skip
    refine rn_iconst (v := 0) 77 dX2_isValue_76 (by decide) rfl ?_
    exact rn_zret rfl dX2_isValue_77 rfl (⟨rfl, rfl, rfl⟩)
  · skip
    refine rn_iload_n 67 dX2_isValue_66 rfl rfl rfl ?_
    refine rn_bipush (v := 9) 69 dX2_isValue_67 (by decide) rfl ?_
    refine rn_icmp_gt 76 72 dX2_isValue_69 (by decide) rfl (fun _ => ?_) (fun c69 => absurd (Classical.byContradiction fun q => hv (iv_of (by omega) c63 q)) c69)
    refine rn_iconst (v := 0) 77 dX2_isValue_76 (by decide) rfl ?_
    exact rn_zret rfl dX2_isValue_77 rfl (⟨rfl, rfl, rfl⟩)

set_option maxRecDepth 100000 in
set_option maxHeartbeats 2000000 in
theorem c_isValueo (d : Nat) (mu : Nat → Nat → Int32) (h : Int64) {a v : Int32} (h2 : ¬ a = 2) (h3 : ¬ a = 3) (h4 : ¬ a = 4) : gd_G mX2_isValue d [.int a, .int v] mu h (pq (some (.int 0)) mu h) := by
  refine gd_of rfl (Nat.le_of_ble_eq_true rfl) ?_
  show rn_R none mX2_isValue d 0 [some (.int a), some (.int v)] [] mu h (pq (some (.int 0)) mu h)
  refine rn_iload_n 1 dX2_isValue_0 rfl rfl rfl ?_
  refine rn_tableOut 78 dX2_isValue_1 (by have := lv_neT h2 (by decide : (2 : Int32).toInt = 2); have := lv_neT h3 (by decide : (3 : Int32).toInt = 3); have := lv_neT h4 (by decide : (4 : Int32).toInt = 4); omega) (by decide) ?_
  refine rn_iconst (v := 0) 79 dX2_isValue_78 (by decide) rfl ?_
  exact rn_zret rfl dX2_isValue_79 rfl (⟨rfl, rfl, rfl⟩)

theorem c_isValue_t (d : Nat) (mu : Nat → Nat → Int32) (h : Int64) {a v : Int32} (hv : okV a v) : gd_G mX2_isValue d [.int a, .int v] mu h (pq (some (.int 1)) mu h) := by
  rcases hv with ⟨rfl, k, h1, rfl⟩ | ⟨rfl, k, h1, h2, rfl⟩ | ⟨rfl, k, h1, h2, rfl⟩
  · exact c_isValue2_t d mu h (Nat.zero_le k) (by omega)
  · exact c_isValue3_t d mu h h1 h2
  · exact c_isValue4_t d mu h h1 h2
theorem c_isValue_f (d : Nat) (mu : Nat → Nat → Int32) (h : Int64) {a v : Int32} (hv : ¬ okV a v) : gd_G mX2_isValue d [.int a, .int v] mu h (pq (some (.int 0)) mu h) := by
  by_cases h2 : a = 2
  · subst h2; exact c_isValue2_f d mu h (fun q => hv (Or.inl ⟨rfl, q⟩))
  by_cases h3 : a = 3
  · subst h3; exact c_isValue3_f d mu h (fun q => hv (Or.inr (Or.inl ⟨rfl, q⟩)))
  by_cases h4 : a = 4
  · subst h4; exact c_isValue4_f d mu h (fun q => hv (Or.inr (Or.inr ⟨rfl, q⟩)))
  exact c_isValueo d mu h h2 h3 h4
