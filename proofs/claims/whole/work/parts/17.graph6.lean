/-! THE GRAPH, changed: setPart; copies; the history -/
def pkx (x : Ed) : Int32 := pkv x.1 x.2.1 x.2.2.1 x.2.2.2.1 x.2.2.2.2
/-- an edge with a part set -/
def eS (x : Ed) (w v : Nat) : Ed := if w = 2 then (x.1, x.2.1, v, x.2.2.2.1, x.2.2.2.2) else if w = 3 then (x.1, x.2.1, x.2.2.1, v, x.2.2.2.2) else (x.1, x.2.1, x.2.2.1, x.2.2.2.1, v)
theorem sp_2 {a b l y c v : Nat} (ha : a < 8) (hb : b < 8) (hl : l < 128) (hy : y < 128) (hc : c < 16) (hv : v < 128) : (pkv a b l y c &&& (((127 : Int32) <<< ((6 : Int32) &&& 31)) ^^^ (-1))) ||| (nI v <<< ((6 : Int32) &&& 31)) = pkv a b v y c := by
  have s1 : (127 : Int32) <<< ((6 : Int32) &&& 31) = nI (2 ^ 6 * (2 ^ 7 - 1)) := by decide
  have s2 : nI v <<< ((6 : Int32) &&& 31) = nI (v * 2 ^ 6) := nb_shl (e := 6) (by omega) (by omega)
  have z := st_bits (lo := a + 8 * b) (u := l) (v := v) (hi := y + 128 * c) (s := 6) (m := 7) (by omega) (by omega) (by omega)
  unfold pkv
  rw [s1, s2, nb_andn, nb_or, Nat.mul_comm v]
  rw [show a + 8 * b + 64 * l + 8192 * y + 1048576 * c = 2 ^ 6 * (2 ^ 7 * (y + 128 * c) + l) + (a + 8 * b) by omega, z]
  congr 1
  omega
theorem sp_3 {a b l y c v : Nat} (ha : a < 8) (hb : b < 8) (hl : l < 128) (hy : y < 128) (hc : c < 16) (hv : v < 128) : (pkv a b l y c &&& (((127 : Int32) <<< ((13 : Int32) &&& 31)) ^^^ (-1))) ||| (nI v <<< ((13 : Int32) &&& 31)) = pkv a b l v c := by
  have s1 : (127 : Int32) <<< ((13 : Int32) &&& 31) = nI (2 ^ 13 * (2 ^ 7 - 1)) := by decide
  have s2 : nI v <<< ((13 : Int32) &&& 31) = nI (v * 2 ^ 13) := nb_shl (e := 13) (by omega) (by omega)
  have z := st_bits (lo := a + 8 * b + 64 * l) (u := y) (v := v) (hi := c) (s := 13) (m := 7) (by omega) (by omega) (by omega)
  unfold pkv
  rw [s1, s2, nb_andn, nb_or, Nat.mul_comm v]
  rw [show a + 8 * b + 64 * l + 8192 * y + 1048576 * c = 2 ^ 13 * (2 ^ 7 * c + y) + (a + 8 * b + 64 * l) by omega, z]
  congr 1
  omega
theorem sp_4 {a b l y c v : Nat} (ha : a < 8) (hb : b < 8) (hl : l < 128) (hy : y < 128) (hc : c < 16) (hv : v < 16) : (pkv a b l y c &&& (((15 : Int32) <<< ((20 : Int32) &&& 31)) ^^^ (-1))) ||| (nI v <<< ((20 : Int32) &&& 31)) = pkv a b l y v := by
  have s1 : (15 : Int32) <<< ((20 : Int32) &&& 31) = nI (2 ^ 20 * (2 ^ 4 - 1)) := by decide
  have s2 : nI v <<< ((20 : Int32) &&& 31) = nI (v * 2 ^ 20) := nb_shl (e := 20) (by omega) (by omega)
  have z := st_bits (lo := a + 8 * b + 64 * l + 8192 * y) (u := c) (v := v) (hi := 0) (s := 20) (m := 4) (by omega) (by omega) (by omega)
  unfold pkv
  rw [s1, s2, nb_andn, nb_or, Nat.mul_comm v]
  rw [show a + 8 * b + 64 * l + 8192 * y + 1048576 * c = 2 ^ 20 * (2 ^ 4 * 0 + c) + (a + 8 * b + 64 * l + 8192 * y) by omega, z]
  congr 1
  omega
theorem xg_set {g : List Ed} {mu : Nat → Nat → Int32} (hg : xg g mu) {e : Nat} (he : e < g.length) {x : Ed} (hx : e_ok x) : xg (g.set e x) (mu_s mu 2 e (pkx x)) := by
  refine ⟨by rw [List.length_set]; exact hg.1, fun y hy => ?_, by rw [List.length_set]; exact hg.2.2.1, fun i y hy => ?_⟩
  · rcases List.mem_or_eq_of_mem_set hy with q | q
    · exact hg.2.1 y q
    · rw [q]; exact hx
  · show pk_ok y (upd (mu 2) e (pkx x) i)
    by_cases hi : i = e
    · subst hi
      rw [List.getElem?_set_self he] at hy
      cases hy
      rw [pk_us]
      rfl
    · rw [List.getElem?_set_ne (Ne.symm hi)] at hy
      rw [pk_un hi]
      exact hg.2.2.2 i y hy

set_option maxRecDepth 100000 in
set_option maxHeartbeats 2000000 in
theorem c_setPart2 (d : Nat) {g : List Ed} {mu : Nat → Nat → Int32} (h : Int64) (hg : xg g mu) {e v : Nat} {x : Ed} (hx : g[e]? = some x) (h1 : 0 ≤ v) (h2 : v ≤ 99) : gd_G mX2_setPart (d + 1) [.ref 1, .int (nI e), .int 2, .int (nI v)] mu h (pq none (mu_s mu 2 e (pkx (eS x 2 v))) h) := by
  have he : e < g.length := (List.getElem?_eq_some_iff.mp hx).1
  have h16 := hg.1
  obtain ⟨k1, k2, k3, k4, k5, k6⟩ := hg.2.1 x (List.mem_of_getElem? hx)
  refine gd_of rfl (Nat.le_of_ble_eq_true rfl) ?_
  show rn_R none mX2_setPart (d + 1) 0 [some (.ref 1), some (.int (nI e)), some (.int 2), some (.int (nI v))] [] mu h (pq none (mu_s mu 2 e (pkx (eS x 2 v))) h)
  refine rn_aload_n 1 dX2_setPart_0 rfl rfl rfl ?_
  refine rn_iload_n 2 dX2_setPart_1 rfl rfl rfl ?_
  refine rn_cvp mX2_has [.int (nI e)] [] 5 (.int 1) dX2_setPart_2 cv_X2_26 rfl rfl rfl (by simp [Value.category]) rfl (c_has_t d h hg he) ?_
  refine rn_if_eq 50 8 dX2_setPart_5 (by decide) rfl (fun c5 => absurd c5 (by decide)) (fun _ => ?_)
  refine rn_iload_n 9 dX2_setPart_8 rfl rfl rfl ?_
  refine rn_iload_n 10 dX2_setPart_9 rfl rfl rfl ?_
  refine rn_csp mX2_isValue [.int 2, .int (nI v)] [] 13 (.int 1) dX2_setPart_10 cs_X2_36 rfl rfl (by simp [Value.category]) rfl (c_isValue2_t d mu h h1 h2) ?_
  refine rn_if_eq 50 16 dX2_setPart_13 (by decide) rfl (fun c13 => absurd c13 (by decide)) (fun _ => ?_)
  refine rn_aload_n 17 dX2_setPart_16 rfl rfl rfl ?_
  refine rn_get 20 (.ref 2) dX2_setPart_17 fl_X2_9 rfl rfl rfl rfl ?_
  refine rn_iload_n 21 dX2_setPart_20 rfl rfl rfl ?_
  refine rn_aload_n 22 dX2_setPart_21 rfl rfl rfl ?_
  refine rn_get 25 (.ref 2) dX2_setPart_22 fl_X2_9 rfl rfl rfl rfl ?_
  refine rn_iload_n 26 dX2_setPart_25 rfl rfl rfl ?_
  refine rn_iald 27 (pkx x) dX2_setPart_26 rfl (vp_in_nI (by omega) (by omega)) (by rw [nI_clamp (by omega)]; exact hg.2.2.2 e x hx) rfl ?_
  refine rn_gets 30 dX2_setPart_27 ly_z1 zs_X2_33 rfl ?_
  refine rn_iload_n 31 dX2_setPart_30 rfl rfl rfl ?_
  refine rn_ti 32 (127) dX2_setPart_31 ly_z1 (vp_in_nI (n := 2) (by decide) (by decide)) (by decide) rfl ?_
  refine rn_gets 35 dX2_setPart_32 ly_z0 zs_X2_30 rfl ?_
  refine rn_iload_n 36 dX2_setPart_35 rfl rfl rfl ?_
  refine rn_ti 37 (6) dX2_setPart_36 ly_z0 (vp_in_nI (n := 2) (by decide) (by decide)) (by decide) rfl ?_
  refine rn_ishl 38 dX2_setPart_37 rfl ?_
  refine rn_iconst (v := (-1)) 39 dX2_setPart_38 (by decide) rfl ?_
  refine rn_ixor 40 dX2_setPart_39 rfl ?_
  refine rn_iand 41 dX2_setPart_40 rfl ?_
  refine rn_iload_n 42 dX2_setPart_41 rfl rfl rfl ?_
  refine rn_gets 45 dX2_setPart_42 ly_z0 zs_X2_30 rfl ?_
  refine rn_iload_n 46 dX2_setPart_45 rfl rfl rfl ?_
  refine rn_ti 47 (6) dX2_setPart_46 ly_z0 (vp_in_nI (n := 2) (by decide) (by decide)) (by decide) rfl ?_
  refine rn_ishl 48 dX2_setPart_47 rfl ?_
  refine rn_ior 49 dX2_setPart_48 rfl ?_
  have ez : ((pkx x) &&& (((127 : Int32) <<< ((6 : Int32) &&& 31)) ^^^ (-1))) ||| ((nI v) <<< ((6 : Int32) &&& 31)) = pkx (eS x 2 v) := sp_2 (a := x.1) (b := x.2.1) (l := x.2.2.1) (y := x.2.2.2.1) (c := x.2.2.2.2) (v := v) k1 k2 (by omega) (by omega) (by omega) (by omega)
  rw [ez]
  refine rn_iast 50 dX2_setPart_49 rfl (vp_in_nI (by omega) (by omega)) rfl ?_
  rw [nI_clamp (by omega)]
  exact rn_vret rfl dX2_setPart_50 (⟨rfl, rfl, rfl⟩)

set_option maxRecDepth 100000 in
set_option maxHeartbeats 2000000 in
theorem c_setPart3 (d : Nat) {g : List Ed} {mu : Nat → Nat → Int32} (h : Int64) (hg : xg g mu) {e v : Nat} {x : Ed} (hx : g[e]? = some x) (h1 : 1 ≤ v) (h2 : v ≤ 100) : gd_G mX2_setPart (d + 1) [.ref 1, .int (nI e), .int 3, .int (nI v)] mu h (pq none (mu_s mu 2 e (pkx (eS x 3 v))) h) := by
  have he : e < g.length := (List.getElem?_eq_some_iff.mp hx).1
  have h16 := hg.1
  obtain ⟨k1, k2, k3, k4, k5, k6⟩ := hg.2.1 x (List.mem_of_getElem? hx)
  refine gd_of rfl (Nat.le_of_ble_eq_true rfl) ?_
  show rn_R none mX2_setPart (d + 1) 0 [some (.ref 1), some (.int (nI e)), some (.int 3), some (.int (nI v))] [] mu h (pq none (mu_s mu 2 e (pkx (eS x 3 v))) h)
  refine rn_aload_n 1 dX2_setPart_0 rfl rfl rfl ?_
  refine rn_iload_n 2 dX2_setPart_1 rfl rfl rfl ?_
  refine rn_cvp mX2_has [.int (nI e)] [] 5 (.int 1) dX2_setPart_2 cv_X2_26 rfl rfl rfl (by simp [Value.category]) rfl (c_has_t d h hg he) ?_
  refine rn_if_eq 50 8 dX2_setPart_5 (by decide) rfl (fun c5 => absurd c5 (by decide)) (fun _ => ?_)
  refine rn_iload_n 9 dX2_setPart_8 rfl rfl rfl ?_
  refine rn_iload_n 10 dX2_setPart_9 rfl rfl rfl ?_
  refine rn_csp mX2_isValue [.int 3, .int (nI v)] [] 13 (.int 1) dX2_setPart_10 cs_X2_36 rfl rfl (by simp [Value.category]) rfl (c_isValue3_t d mu h h1 h2) ?_
  refine rn_if_eq 50 16 dX2_setPart_13 (by decide) rfl (fun c13 => absurd c13 (by decide)) (fun _ => ?_)
  refine rn_aload_n 17 dX2_setPart_16 rfl rfl rfl ?_
  refine rn_get 20 (.ref 2) dX2_setPart_17 fl_X2_9 rfl rfl rfl rfl ?_
  refine rn_iload_n 21 dX2_setPart_20 rfl rfl rfl ?_
  refine rn_aload_n 22 dX2_setPart_21 rfl rfl rfl ?_
  refine rn_get 25 (.ref 2) dX2_setPart_22 fl_X2_9 rfl rfl rfl rfl ?_
  refine rn_iload_n 26 dX2_setPart_25 rfl rfl rfl ?_
  refine rn_iald 27 (pkx x) dX2_setPart_26 rfl (vp_in_nI (by omega) (by omega)) (by rw [nI_clamp (by omega)]; exact hg.2.2.2 e x hx) rfl ?_
  refine rn_gets 30 dX2_setPart_27 ly_z1 zs_X2_33 rfl ?_
  refine rn_iload_n 31 dX2_setPart_30 rfl rfl rfl ?_
  refine rn_ti 32 (127) dX2_setPart_31 ly_z1 (vp_in_nI (n := 3) (by decide) (by decide)) (by decide) rfl ?_
  refine rn_gets 35 dX2_setPart_32 ly_z0 zs_X2_30 rfl ?_
  refine rn_iload_n 36 dX2_setPart_35 rfl rfl rfl ?_
  refine rn_ti 37 (13) dX2_setPart_36 ly_z0 (vp_in_nI (n := 3) (by decide) (by decide)) (by decide) rfl ?_
  refine rn_ishl 38 dX2_setPart_37 rfl ?_
  refine rn_iconst (v := (-1)) 39 dX2_setPart_38 (by decide) rfl ?_
  refine rn_ixor 40 dX2_setPart_39 rfl ?_
  refine rn_iand 41 dX2_setPart_40 rfl ?_
  refine rn_iload_n 42 dX2_setPart_41 rfl rfl rfl ?_
  refine rn_gets 45 dX2_setPart_42 ly_z0 zs_X2_30 rfl ?_
  refine rn_iload_n 46 dX2_setPart_45 rfl rfl rfl ?_
  refine rn_ti 47 (13) dX2_setPart_46 ly_z0 (vp_in_nI (n := 3) (by decide) (by decide)) (by decide) rfl ?_
  refine rn_ishl 48 dX2_setPart_47 rfl ?_
  refine rn_ior 49 dX2_setPart_48 rfl ?_
  have ez : ((pkx x) &&& (((127 : Int32) <<< ((13 : Int32) &&& 31)) ^^^ (-1))) ||| ((nI v) <<< ((13 : Int32) &&& 31)) = pkx (eS x 3 v) := sp_3 (a := x.1) (b := x.2.1) (l := x.2.2.1) (y := x.2.2.2.1) (c := x.2.2.2.2) (v := v) k1 k2 (by omega) (by omega) (by omega) (by omega)
  rw [ez]
  refine rn_iast 50 dX2_setPart_49 rfl (vp_in_nI (by omega) (by omega)) rfl ?_
  rw [nI_clamp (by omega)]
  exact rn_vret rfl dX2_setPart_50 (⟨rfl, rfl, rfl⟩)

set_option maxRecDepth 100000 in
set_option maxHeartbeats 2000000 in
theorem c_setPart4 (d : Nat) {g : List Ed} {mu : Nat → Nat → Int32} (h : Int64) (hg : xg g mu) {e v : Nat} {x : Ed} (hx : g[e]? = some x) (h1 : 1 ≤ v) (h2 : v ≤ 9) : gd_G mX2_setPart (d + 1) [.ref 1, .int (nI e), .int 4, .int (nI v)] mu h (pq none (mu_s mu 2 e (pkx (eS x 4 v))) h) := by
  have he : e < g.length := (List.getElem?_eq_some_iff.mp hx).1
  have h16 := hg.1
  obtain ⟨k1, k2, k3, k4, k5, k6⟩ := hg.2.1 x (List.mem_of_getElem? hx)
  refine gd_of rfl (Nat.le_of_ble_eq_true rfl) ?_
  show rn_R none mX2_setPart (d + 1) 0 [some (.ref 1), some (.int (nI e)), some (.int 4), some (.int (nI v))] [] mu h (pq none (mu_s mu 2 e (pkx (eS x 4 v))) h)
  refine rn_aload_n 1 dX2_setPart_0 rfl rfl rfl ?_
  refine rn_iload_n 2 dX2_setPart_1 rfl rfl rfl ?_
  refine rn_cvp mX2_has [.int (nI e)] [] 5 (.int 1) dX2_setPart_2 cv_X2_26 rfl rfl rfl (by simp [Value.category]) rfl (c_has_t d h hg he) ?_
  refine rn_if_eq 50 8 dX2_setPart_5 (by decide) rfl (fun c5 => absurd c5 (by decide)) (fun _ => ?_)
  refine rn_iload_n 9 dX2_setPart_8 rfl rfl rfl ?_
  refine rn_iload_n 10 dX2_setPart_9 rfl rfl rfl ?_
  refine rn_csp mX2_isValue [.int 4, .int (nI v)] [] 13 (.int 1) dX2_setPart_10 cs_X2_36 rfl rfl (by simp [Value.category]) rfl (c_isValue4_t d mu h h1 h2) ?_
  refine rn_if_eq 50 16 dX2_setPart_13 (by decide) rfl (fun c13 => absurd c13 (by decide)) (fun _ => ?_)
  refine rn_aload_n 17 dX2_setPart_16 rfl rfl rfl ?_
  refine rn_get 20 (.ref 2) dX2_setPart_17 fl_X2_9 rfl rfl rfl rfl ?_
  refine rn_iload_n 21 dX2_setPart_20 rfl rfl rfl ?_
  refine rn_aload_n 22 dX2_setPart_21 rfl rfl rfl ?_
  refine rn_get 25 (.ref 2) dX2_setPart_22 fl_X2_9 rfl rfl rfl rfl ?_
  refine rn_iload_n 26 dX2_setPart_25 rfl rfl rfl ?_
  refine rn_iald 27 (pkx x) dX2_setPart_26 rfl (vp_in_nI (by omega) (by omega)) (by rw [nI_clamp (by omega)]; exact hg.2.2.2 e x hx) rfl ?_
  refine rn_gets 30 dX2_setPart_27 ly_z1 zs_X2_33 rfl ?_
  refine rn_iload_n 31 dX2_setPart_30 rfl rfl rfl ?_
  refine rn_ti 32 (15) dX2_setPart_31 ly_z1 (vp_in_nI (n := 4) (by decide) (by decide)) (by decide) rfl ?_
  refine rn_gets 35 dX2_setPart_32 ly_z0 zs_X2_30 rfl ?_
  refine rn_iload_n 36 dX2_setPart_35 rfl rfl rfl ?_
  refine rn_ti 37 (20) dX2_setPart_36 ly_z0 (vp_in_nI (n := 4) (by decide) (by decide)) (by decide) rfl ?_
  refine rn_ishl 38 dX2_setPart_37 rfl ?_
  refine rn_iconst (v := (-1)) 39 dX2_setPart_38 (by decide) rfl ?_
  refine rn_ixor 40 dX2_setPart_39 rfl ?_
  refine rn_iand 41 dX2_setPart_40 rfl ?_
  refine rn_iload_n 42 dX2_setPart_41 rfl rfl rfl ?_
  refine rn_gets 45 dX2_setPart_42 ly_z0 zs_X2_30 rfl ?_
  refine rn_iload_n 46 dX2_setPart_45 rfl rfl rfl ?_
  refine rn_ti 47 (20) dX2_setPart_46 ly_z0 (vp_in_nI (n := 4) (by decide) (by decide)) (by decide) rfl ?_
  refine rn_ishl 48 dX2_setPart_47 rfl ?_
  refine rn_ior 49 dX2_setPart_48 rfl ?_
  have ez : ((pkx x) &&& (((15 : Int32) <<< ((20 : Int32) &&& 31)) ^^^ (-1))) ||| ((nI v) <<< ((20 : Int32) &&& 31)) = pkx (eS x 4 v) := sp_4 (a := x.1) (b := x.2.1) (l := x.2.2.1) (y := x.2.2.2.1) (c := x.2.2.2.2) (v := v) k1 k2 (by omega) (by omega) (by omega) (by omega)
  rw [ez]
  refine rn_iast 50 dX2_setPart_49 rfl (vp_in_nI (by omega) (by omega)) rfl ?_
  rw [nI_clamp (by omega)]
  exact rn_vret rfl dX2_setPart_50 (⟨rfl, rfl, rfl⟩)

def cpT (mu : Nat → Nat → Int32) (r : Nat) : Nat → Nat → Int32 := mu_r mu 4 (upd (upd (va_cpy (mu 2) (mu 4) 0 (18 * r) 16) (18 * r + 16) (mu 1 1)) (18 * r + 17) (mu 1 2))
def cpF (mu : Nat → Nat → Int32) (r : Nat) : Nat → Nat → Int32 := mu_s (mu_s (mu_r mu 2 (va_cpy (mu 4) (mu 2) (18 * r) 0 16)) 1 1 (mu 4 (18 * r + 16))) 1 2 (mu 4 (18 * r + 17))

set_option maxRecDepth 100000 in
set_option maxHeartbeats 2000000 in
theorem c_copyTo (d : Nat) (mu : Nat → Nat → Int32) (h : Int64) {r : Nat} (hr : r < 12) : gd_G mX2_copyTo (d + 1) [.ref 1, .ref 4, .int (nI (18 * r))] mu h (pq none (cpT mu r) h) := by
  refine gd_of rfl (Nat.le_of_ble_eq_true rfl) ?_
  show rn_R none mX2_copyTo (d + 1) 0 [some (.ref 1), some (.ref 4), some (.int (nI (18 * r)))] [] mu h (pq none (cpT mu r) h)
  refine rn_iload_n 1 dX2_copyTo_0 rfl rfl rfl ?_
  refine rn_if_lt 47 4 dX2_copyTo_1 (by decide) rfl (fun c1 => absurd c1 (nI_pos (by omega))) (fun _ => ?_)
  refine rn_iload_n 5 dX2_copyTo_4 rfl rfl rfl ?_
  refine rn_aload_n 6 dX2_copyTo_5 rfl rfl rfl ?_
  refine rn_alen (ty := .int) 7 216 dX2_copyTo_6 rfl (by decide) (by decide) rfl ?_
  refine rn_bipush (v := 18) 9 dX2_copyTo_7 (by decide) rfl ?_
  refine rn_isub 10 dX2_copyTo_9 rfl ?_
  refine rn_icmp_gt 47 13 dX2_copyTo_10 (by decide) rfl (fun c10 => absurd c10 (nI_nlt (a := 198) (b := 18 * r) (by omega) (by omega))) (fun _ => ?_)
  refine rn_aload_n 14 dX2_copyTo_13 rfl rfl rfl ?_
  refine rn_get 17 (.ref 2) dX2_copyTo_14 fl_X2_9 rfl rfl rfl rfl ?_
  refine rn_iconst (v := 0) 18 dX2_copyTo_17 (by decide) rfl ?_
  refine rn_aload_n 19 dX2_copyTo_18 rfl rfl rfl ?_
  refine rn_iload_n 20 dX2_copyTo_19 rfl rfl rfl ?_
  refine rn_bipush (v := 16) 22 dX2_copyTo_20 (by decide) rfl ?_
  refine rn_copyi 25 dX2_copyTo_22 ly_copy_X2_57 rfl rfl (by decide) (nI_pos (by omega)) (by decide) (by show 0 + 16 ≤ 16; omega) (by rw [nI_clamp (by omega)]; show 18 * r + 16 ≤ 216; omega) (by decide) rfl ?_
  rw [show (0 : Int32).toNatClampNeg = 0 from rfl, nI_clamp (n := 18 * r) (by omega), show (16 : Int32).toNatClampNeg = 16 from rfl]
  refine rn_aload_n 26 dX2_copyTo_25 rfl rfl rfl ?_
  refine rn_iload_n 27 dX2_copyTo_26 rfl rfl rfl ?_
  refine rn_bipush (v := 16) 29 dX2_copyTo_27 (by decide) rfl ?_
  refine rn_iadd 30 dX2_copyTo_29 rfl ?_
  refine rn_aload_n 31 dX2_copyTo_30 rfl rfl rfl ?_
  refine rn_get 34 (.int (mu 1 1)) dX2_copyTo_31 fl_X2_15 rfl rfl rfl rfl ?_
  have e16 : nI (18 * r) + 16 = nI (18 * r + 16) := by rw [show (16 : Int32) = nI 16 from rfl, nI_add]
  rw [e16]
  refine rn_iast 35 dX2_copyTo_34 rfl (vp_in_nI (by omega) (by omega)) rfl ?_
  rw [nI_clamp (n := 18 * r + 16) (by omega), mu_rs]
  refine rn_aload_n 36 dX2_copyTo_35 rfl rfl rfl ?_
  refine rn_iload_n 37 dX2_copyTo_36 rfl rfl rfl ?_
  refine rn_bipush (v := 16) 39 dX2_copyTo_37 (by decide) rfl ?_
  refine rn_iadd 40 dX2_copyTo_39 rfl ?_
  refine rn_iconst (v := 1) 41 dX2_copyTo_40 (by decide) rfl ?_
  refine rn_iadd 42 dX2_copyTo_41 rfl ?_
  refine rn_aload_n 43 dX2_copyTo_42 rfl rfl rfl ?_
  refine rn_get 46 (.int (mu 1 2)) dX2_copyTo_43 fl_X2_19 rfl rfl rfl rfl ?_
  have e17 : (nI (18 * r) + 16) + 1 = nI (18 * r + 17) := by rw [show (16 : Int32) = nI 16 from rfl, nI_add]; exact nI_1 _
  rw [e17]
  refine rn_iast 47 dX2_copyTo_46 rfl (vp_in_nI (by omega) (by omega)) rfl ?_
  rw [nI_clamp (n := 18 * r + 17) (by omega), mu_rs]
  exact rn_vret rfl dX2_copyTo_47 (⟨rfl, rfl, rfl⟩)

set_option maxRecDepth 100000 in
set_option maxHeartbeats 2000000 in
theorem c_copyFrom (d : Nat) (mu : Nat → Nat → Int32) (h : Int64) {r : Nat} (hr : r < 12) : gd_G mX2_copyFrom (d + 1) [.ref 1, .ref 4, .int (nI (18 * r))] mu h (pq none (cpF mu r) h) := by
  refine gd_of rfl (Nat.le_of_ble_eq_true rfl) ?_
  show rn_R none mX2_copyFrom (d + 1) 0 [some (.ref 1), some (.ref 4), some (.int (nI (18 * r)))] [] mu h (pq none (cpF mu r) h)
  refine rn_iload_n 1 dX2_copyFrom_0 rfl rfl rfl ?_
  refine rn_if_lt 47 4 dX2_copyFrom_1 (by decide) rfl (fun c1 => absurd c1 (nI_pos (by omega))) (fun _ => ?_)
  refine rn_iload_n 5 dX2_copyFrom_4 rfl rfl rfl ?_
  refine rn_aload_n 6 dX2_copyFrom_5 rfl rfl rfl ?_
  refine rn_alen (ty := .int) 7 216 dX2_copyFrom_6 rfl (by decide) (by decide) rfl ?_
  refine rn_bipush (v := 18) 9 dX2_copyFrom_7 (by decide) rfl ?_
  refine rn_isub 10 dX2_copyFrom_9 rfl ?_
  refine rn_icmp_gt 47 13 dX2_copyFrom_10 (by decide) rfl (fun c10 => absurd c10 (nI_nlt (a := 198) (b := 18 * r) (by omega) (by omega))) (fun _ => ?_)
  refine rn_aload_n 14 dX2_copyFrom_13 rfl rfl rfl ?_
  refine rn_iload_n 15 dX2_copyFrom_14 rfl rfl rfl ?_
  refine rn_aload_n 16 dX2_copyFrom_15 rfl rfl rfl ?_
  refine rn_get 19 (.ref 2) dX2_copyFrom_16 fl_X2_9 rfl rfl rfl rfl ?_
  refine rn_iconst (v := 0) 20 dX2_copyFrom_19 (by decide) rfl ?_
  refine rn_bipush (v := 16) 22 dX2_copyFrom_20 (by decide) rfl ?_
  refine rn_copyi 25 dX2_copyFrom_22 ly_copy_X2_57 rfl rfl (nI_pos (by omega)) (by decide) (by decide) (by rw [nI_clamp (by omega)]; show 18 * r + 16 ≤ 216; omega) (by show 0 + 16 ≤ 16; omega) (by decide) rfl ?_
  rw [show (0 : Int32).toNatClampNeg = 0 from rfl, nI_clamp (n := 18 * r) (by omega), show (16 : Int32).toNatClampNeg = 16 from rfl]
  refine rn_aload_n 26 dX2_copyFrom_25 rfl rfl rfl ?_
  refine rn_aload_n 27 dX2_copyFrom_26 rfl rfl rfl ?_
  refine rn_iload_n 28 dX2_copyFrom_27 rfl rfl rfl ?_
  refine rn_bipush (v := 16) 30 dX2_copyFrom_28 (by decide) rfl ?_
  refine rn_iadd 31 dX2_copyFrom_30 rfl ?_
  have e16 : nI (18 * r) + 16 = nI (18 * r + 16) := by rw [show (16 : Int32) = nI 16 from rfl, nI_add]
  rw [e16]
  refine rn_iald 32 (mu 4 (18 * r + 16)) dX2_copyFrom_31 rfl (vp_in_nI (by omega) (by omega)) (congrArg (mu 4) (nI_clamp (n := 18 * r + 16) (by omega))) rfl ?_
  refine rn_put 35 dX2_copyFrom_32 fp_X2_15 rfl rfl rfl rfl rfl ?_
  refine rn_aload_n 36 dX2_copyFrom_35 rfl rfl rfl ?_
  refine rn_aload_n 37 dX2_copyFrom_36 rfl rfl rfl ?_
  refine rn_iload_n 38 dX2_copyFrom_37 rfl rfl rfl ?_
  refine rn_bipush (v := 16) 40 dX2_copyFrom_38 (by decide) rfl ?_
  refine rn_iadd 41 dX2_copyFrom_40 rfl ?_
  refine rn_iconst (v := 1) 42 dX2_copyFrom_41 (by decide) rfl ?_
  refine rn_iadd 43 dX2_copyFrom_42 rfl ?_
  have e17 : (nI (18 * r) + 16) + 1 = nI (18 * r + 17) := by rw [show (16 : Int32) = nI 16 from rfl, nI_add]; exact nI_1 _
  rw [e17]
  refine rn_iald 44 (mu 4 (18 * r + 17)) dX2_copyFrom_43 rfl (vp_in_nI (by omega) (by omega)) (congrArg (mu 4) (nI_clamp (n := 18 * r + 17) (by omega))) rfl ?_
  refine rn_put 47 dX2_copyFrom_44 fp_X2_19 rfl rfl rfl rfl rfl ?_
  exact rn_vret rfl dX2_copyFrom_47 (⟨rfl, rfl, rfl⟩)
