/-! THE GRAPH: what the cells of class and reference hold -/
abbrev Ed : Type := Nat × Nat × Nat × Nat × Nat
def e_ok (x : Ed) : Prop := x.1 < 8 ∧ x.2.1 < 8 ∧ x.2.2.1 < 100 ∧ (1 ≤ x.2.2.2.1 ∧ x.2.2.2.1 ≤ 100) ∧ 1 ≤ x.2.2.2.2 ∧ x.2.2.2.2 ≤ 9
/-- an edge in one int -/
def pk_ok (x : Ed) (c : Int32) : Prop := c = pkv x.1 x.2.1 x.2.2.1 x.2.2.2.1 x.2.2.2.2
/-- the class's edges -/
def xg (g : List Ed) (mu : Nat → Nat → Int32) : Prop := g.length ≤ 16 ∧ (∀ x ∈ g, e_ok x) ∧ mu 1 1 = nI g.length ∧ ∀ (i : Nat) (x : Ed), g[i]? = some x → pk_ok x (mu 2 i)
/-- its present attack -/
def xa (g : List Ed) (a : Nat) (mu : Nat → Nat → Int32) : Prop := mu 1 2 = nI a ∧ a < 2 ^ g.length
/-- the reference's edges, its present attack -/
def mg (g : List Ed) (mu : Nat → Nat → Int32) : Prop := g.length ≤ 16 ∧ (∀ x ∈ g, e_ok x) ∧ mu 23 80 = nI g.length ∧ ∀ (i : Nat) (x : Ed), g[i]? = some x → mu 23 (5 * i) = nI x.1 ∧ mu 23 (5 * i + 1) = nI x.2.1 ∧ mu 23 (5 * i + 2) = nI x.2.2.1 ∧ mu 23 (5 * i + 3) = nI x.2.2.2.1 ∧ mu 23 (5 * i + 4) = nI x.2.2.2.2
def ma (g : List Ed) (a : Nat) (mu : Nat → Nat → Int32) : Prop := mu 23 81 = nI a ∧ a < 2 ^ g.length
theorem xg_of {g : List Ed} {mu mu' : Nat → Nat → Int32} (h : xg g mu) (h1 : mu' 1 1 = mu 1 1) (h2 : mu' 2 = mu 2) : xg g mu' := ⟨h.1, h.2.1, by rw [h1]; exact h.2.2.1, fun i x hx => by rw [h2]; exact h.2.2.2 i x hx⟩
theorem mg_of {g : List Ed} {mu mu' : Nat → Nat → Int32} (h : mg g mu) (h1 : mu' 23 = mu 23) : mg g mu' := ⟨h.1, h.2.1, by rw [h1]; exact h.2.2.1, fun i x hx => by rw [h1]; exact h.2.2.2 i x hx⟩
theorem g_at {g : List Ed} {i : Nat} (h : i < g.length) : ∃ x, g[i]? = some x := ⟨g[i], List.getElem?_eq_getElem h⟩
theorem cl_n {n : Nat} (h : n < 2 ^ 31) : (nI n).toNatClampNeg = n := nI_clamp h
/-- an edge's parts, by its number -/
def eF (g : List Ed) (i : Nat) : Nat := (g.getD i (0, 0, 0, 0, 0)).1
def eT (g : List Ed) (i : Nat) : Nat := (g.getD i (0, 0, 0, 0, 0)).2.1
def eL (g : List Ed) (i : Nat) : Nat := (g.getD i (0, 0, 0, 0, 0)).2.2.1
def eY (g : List Ed) (i : Nat) : Nat := (g.getD i (0, 0, 0, 0, 0)).2.2.2.1
def eC (g : List Ed) (i : Nat) : Nat := (g.getD i (0, 0, 0, 0, 0)).2.2.2.2
theorem gD {g : List Ed} {i : Nat} {x : Ed} (h : g[i]? = some x) : g.getD i (0, 0, 0, 0, 0) = x := by rw [List.getD_eq_getElem?_getD, h]; rfl
theorem xg_pk {g : List Ed} {mu : Nat → Nat → Int32} (h : xg g mu) {i : Nat} (hi : i < g.length) : mu 2 i &&& 7 = nI (eF g i) ∧ (mu 2 i >>> (3 &&& 31)) &&& 7 = nI (eT g i) ∧ (mu 2 i >>> (6 &&& 31)) &&& 127 = nI (eL g i) ∧ (mu 2 i >>> (13 &&& 31)) &&& 127 = nI (eY g i) ∧ (mu 2 i >>> (20 &&& 31)) &&& 15 = nI (eC g i) := by
  obtain ⟨x, hx⟩ := g_at hi
  have := h.2.2.2 i x hx
  obtain ⟨k1, k2, k3, k4, k5, k6⟩ := h.2.1 x (List.mem_of_getElem? hx)
  unfold eF eT eL eY eC
  rw [gD hx, this]
  exact pkv_5 k1 k2 (by omega) (by omega) (by omega)
theorem mg_pk {g : List Ed} {mu : Nat → Nat → Int32} (h : mg g mu) {i : Nat} (hi : i < g.length) : mu 23 (5 * i) = nI (eF g i) ∧ mu 23 (5 * i + 1) = nI (eT g i) ∧ mu 23 (5 * i + 2) = nI (eL g i) ∧ mu 23 (5 * i + 3) = nI (eY g i) ∧ mu 23 (5 * i + 4) = nI (eC g i) := by
  obtain ⟨x, hx⟩ := g_at hi
  have := h.2.2.2 i x hx
  unfold eF eT eL eY eC
  rw [gD hx]
  exact this
theorem e_at {g : List Ed} (h : ∀ x ∈ g, e_ok x) {i : Nat} (hi : i < g.length) : eF g i < 8 ∧ eT g i < 8 ∧ eL g i < 100 ∧ (1 ≤ eY g i ∧ eY g i ≤ 100) ∧ 1 ≤ eC g i ∧ eC g i ≤ 9 := by
  obtain ⟨x, hx⟩ := g_at hi
  unfold eF eT eL eY eC
  rw [gD hx]
  exact h x (List.mem_of_getElem? hx)

set_option maxRecDepth 100000 in
set_option maxHeartbeats 2000000 in
theorem c_has_t (d : Nat) {g : List Ed} {mu : Nat → Nat → Int32} (h : Int64) (hg : xg g mu) {e : Nat} (he : e < g.length) : gd_G mX2_has d [.ref 1, .int (nI e)] mu h (pq (some (.int 1)) mu h) := by
  refine gd_of rfl (Nat.le_of_ble_eq_true rfl) ?_
  show rn_R none mX2_has d 0 [some (.ref 1), some (.int (nI e))] [] mu h (pq (some (.int 1)) mu h)
  refine rn_iload_n 1 dX2_has_0 rfl rfl rfl ?_
  refine rn_if_lt 16 4 dX2_has_1 (by decide) rfl (fun c1 => absurd c1 (nI_pos (by have := hg.1; omega))) (fun _ => ?_)
  refine rn_iload_n 5 dX2_has_4 rfl rfl rfl ?_
  refine rn_aload_n 6 dX2_has_5 rfl rfl rfl ?_
  refine rn_get 9 (.int (mu 1 1)) dX2_has_6 fl_X2_15 rfl rfl rfl rfl ?_
  refine rn_icmp_ge 16 12 dX2_has_9 (by decide) rfl (fun c9 => absurd c9 (by rw [hg.2.2.1]; exact nI_ge he (by have := hg.1; omega))) (fun _ => ?_)
  refine rn_iconst (v := 1) 13 dX2_has_12 (by decide) rfl ?_
  refine rn_goto 17 dX2_has_13 (by decide) ?_
  exact rn_zret rfl dX2_has_17 rfl (⟨rfl, rfl, rfl⟩)

set_option maxRecDepth 100000 in
set_option maxHeartbeats 2000000 in
theorem c_has_f (d : Nat) {g : List Ed} {mu : Nat → Nat → Int32} (h : Int64) (hg : xg g mu) {v : Int32} (hv : ¬ isin v g.length) : gd_G mX2_has d [.ref 1, .int v] mu h (pq (some (.int 0)) mu h) := by
  refine gd_of rfl (Nat.le_of_ble_eq_true rfl) ?_
  show rn_R none mX2_has d 0 [some (.ref 1), some (.int v)] [] mu h (pq (some (.int 0)) mu h)
  refine rn_iload_n 1 dX2_has_0 rfl rfl rfl ?_
  refine rn_if_lt 16 4 dX2_has_1 (by decide) rfl (fun c1 => ?_) (fun c1 => ?_)
  · skip
    refine rn_iconst (v := 0) 17 dX2_has_16 (by decide) rfl ?_
    exact rn_zret rfl dX2_has_17 rfl (⟨rfl, rfl, rfl⟩)
  · skip
    refine rn_iload_n 5 dX2_has_4 rfl rfl rfl ?_
    refine rn_aload_n 6 dX2_has_5 rfl rfl rfl ?_
    refine rn_get 9 (.int (mu 1 1)) dX2_has_6 fl_X2_15 rfl rfl rfl rfl ?_
    refine rn_icmp_ge 16 12 dX2_has_9 (by decide) rfl (fun _ => ?_) (fun c9 => absurd (Classical.byContradiction fun q => hv (isin_of (by have := hg.1; omega) c1 (by rw [← hg.2.2.1]; exact q))) c9)
    refine rn_iconst (v := 0) 17 dX2_has_16 (by decide) rfl ?_
    exact rn_zret rfl dX2_has_17 rfl (⟨rfl, rfl, rfl⟩)

set_option maxRecDepth 100000 in
set_option maxHeartbeats 2000000 in
theorem c_from (d : Nat) {g : List Ed} {mu : Nat → Nat → Int32} (h : Int64) (hg : xg g mu) {e : Nat} (he : e < g.length) : gd_G mX2_from (d + 1) [.ref 1, .int (nI e)] mu h (pq (some (.int (nI (eF g e)))) mu h) := by
  refine gd_of rfl (Nat.le_of_ble_eq_true rfl) ?_
  show rn_R none mX2_from (d + 1) 0 [some (.ref 1), some (.int (nI e))] [] mu h (pq (some (.int (nI (eF g e)))) mu h)
  refine rn_aload_n 1 dX2_from_0 rfl rfl rfl ?_
  refine rn_iload_n 2 dX2_from_1 rfl rfl rfl ?_
  refine rn_cvp mX2_has [.int (nI e)] [] 5 (.int 1) dX2_from_2 cv_X2_26 rfl rfl rfl (by simp [Value.category]) rfl (c_has_t d h hg he) ?_
  refine rn_if_eq 20 8 dX2_from_5 (by decide) rfl (fun c5 => absurd c5 (by decide)) (fun _ => ?_)
  refine rn_aload_n 9 dX2_from_8 rfl rfl rfl ?_
  refine rn_get 12 (.ref 2) dX2_from_9 fl_X2_9 rfl rfl rfl rfl ?_
  refine rn_iload_n 13 dX2_from_12 rfl rfl rfl ?_
  refine rn_iald 14 (mu 2 e) dX2_from_13 rfl (vp_in_nI (by have := hg.1; omega) (by omega)) (by rw [nI_clamp (by have := hg.1; omega)]) rfl ?_
  refine rn_bipush (v := 7) 16 dX2_from_14 (by decide) rfl ?_
  refine rn_iand 17 dX2_from_16 rfl ?_
  refine rn_goto 21 dX2_from_17 (by decide) ?_
  exact rn_iret rfl dX2_from_21 (⟨by rw [(xg_pk hg he).1], rfl, rfl⟩)

set_option maxRecDepth 100000 in
set_option maxHeartbeats 2000000 in
theorem c_to (d : Nat) {g : List Ed} {mu : Nat → Nat → Int32} (h : Int64) (hg : xg g mu) {e : Nat} (he : e < g.length) : gd_G mX2_to (d + 1) [.ref 1, .int (nI e)] mu h (pq (some (.int (nI (eT g e)))) mu h) := by
  refine gd_of rfl (Nat.le_of_ble_eq_true rfl) ?_
  show rn_R none mX2_to (d + 1) 0 [some (.ref 1), some (.int (nI e))] [] mu h (pq (some (.int (nI (eT g e)))) mu h)
  refine rn_aload_n 1 dX2_to_0 rfl rfl rfl ?_
  refine rn_iload_n 2 dX2_to_1 rfl rfl rfl ?_
  refine rn_cvp mX2_has [.int (nI e)] [] 5 (.int 1) dX2_to_2 cv_X2_26 rfl rfl rfl (by simp [Value.category]) rfl (c_has_t d h hg he) ?_
  refine rn_if_eq 22 8 dX2_to_5 (by decide) rfl (fun c5 => absurd c5 (by decide)) (fun _ => ?_)
  refine rn_aload_n 9 dX2_to_8 rfl rfl rfl ?_
  refine rn_get 12 (.ref 2) dX2_to_9 fl_X2_9 rfl rfl rfl rfl ?_
  refine rn_iload_n 13 dX2_to_12 rfl rfl rfl ?_
  refine rn_iald 14 (mu 2 e) dX2_to_13 rfl (vp_in_nI (by have := hg.1; omega) (by omega)) (by rw [nI_clamp (by have := hg.1; omega)]) rfl ?_
  refine rn_iconst (v := 3) 15 dX2_to_14 (by decide) rfl ?_
  refine rn_ishr 16 dX2_to_15 rfl ?_
  refine rn_bipush (v := 7) 18 dX2_to_16 (by decide) rfl ?_
  refine rn_iand 19 dX2_to_18 rfl ?_
  refine rn_goto 23 dX2_to_19 (by decide) ?_
  exact rn_iret rfl dX2_to_23 (⟨by rw [(xg_pk hg he).2.1], rfl, rfl⟩)

set_option maxRecDepth 100000 in
set_option maxHeartbeats 2000000 in
theorem c_cost (d : Nat) {g : List Ed} {mu : Nat → Nat → Int32} (h : Int64) (hg : xg g mu) {e : Nat} (he : e < g.length) : gd_G mX2_cost (d + 1) [.ref 1, .int (nI e)] mu h (pq (some (.int (nI (eC g e)))) mu h) := by
  refine gd_of rfl (Nat.le_of_ble_eq_true rfl) ?_
  show rn_R none mX2_cost (d + 1) 0 [some (.ref 1), some (.int (nI e))] [] mu h (pq (some (.int (nI (eC g e)))) mu h)
  refine rn_aload_n 1 dX2_cost_0 rfl rfl rfl ?_
  refine rn_iload_n 2 dX2_cost_1 rfl rfl rfl ?_
  refine rn_cvp mX2_has [.int (nI e)] [] 5 (.int 1) dX2_cost_2 cv_X2_26 rfl rfl rfl (by simp [Value.category]) rfl (c_has_t d h hg he) ?_
  refine rn_if_eq 23 8 dX2_cost_5 (by decide) rfl (fun c5 => absurd c5 (by decide)) (fun _ => ?_)
  refine rn_aload_n 9 dX2_cost_8 rfl rfl rfl ?_
  refine rn_get 12 (.ref 2) dX2_cost_9 fl_X2_9 rfl rfl rfl rfl ?_
  refine rn_iload_n 13 dX2_cost_12 rfl rfl rfl ?_
  refine rn_iald 14 (mu 2 e) dX2_cost_13 rfl (vp_in_nI (by have := hg.1; omega) (by omega)) (by rw [nI_clamp (by have := hg.1; omega)]) rfl ?_
  refine rn_bipush (v := 20) 16 dX2_cost_14 (by decide) rfl ?_
  refine rn_ishr 17 dX2_cost_16 rfl ?_
  refine rn_bipush (v := 15) 19 dX2_cost_17 (by decide) rfl ?_
  refine rn_iand 20 dX2_cost_19 rfl ?_
  refine rn_goto 24 dX2_cost_20 (by decide) ?_
  exact rn_iret rfl dX2_cost_24 (⟨by rw [(xg_pk hg he).2.2.2.2], rfl, rfl⟩)

set_option maxRecDepth 100000 in
set_option maxHeartbeats 2000000 in
theorem c_plainLength (d : Nat) {g : List Ed} {mu : Nat → Nat → Int32} (h : Int64) (hg : xg g mu) {e : Nat} (he : e < g.length) : gd_G mX2_plainLength (d + 1) [.ref 1, .int (nI e)] mu h (pq (some (.int (nI (eL g e)))) mu h) := by
  refine gd_of rfl (Nat.le_of_ble_eq_true rfl) ?_
  show rn_R none mX2_plainLength (d + 1) 0 [some (.ref 1), some (.int (nI e))] [] mu h (pq (some (.int (nI (eL g e)))) mu h)
  refine rn_aload_n 1 dX2_plainLength_0 rfl rfl rfl ?_
  refine rn_iload_n 2 dX2_plainLength_1 rfl rfl rfl ?_
  refine rn_cvp mX2_has [.int (nI e)] [] 5 (.int 1) dX2_plainLength_2 cv_X2_26 rfl rfl rfl (by simp [Value.category]) rfl (c_has_t d h hg he) ?_
  refine rn_if_eq 23 8 dX2_plainLength_5 (by decide) rfl (fun c5 => absurd c5 (by decide)) (fun _ => ?_)
  refine rn_aload_n 9 dX2_plainLength_8 rfl rfl rfl ?_
  refine rn_get 12 (.ref 2) dX2_plainLength_9 fl_X2_9 rfl rfl rfl rfl ?_
  refine rn_iload_n 13 dX2_plainLength_12 rfl rfl rfl ?_
  refine rn_iald 14 (mu 2 e) dX2_plainLength_13 rfl (vp_in_nI (by have := hg.1; omega) (by omega)) (by rw [nI_clamp (by have := hg.1; omega)]) rfl ?_
  refine rn_bipush (v := 6) 16 dX2_plainLength_14 (by decide) rfl ?_
  refine rn_ishr 17 dX2_plainLength_16 rfl ?_
  refine rn_bipush (v := 127) 19 dX2_plainLength_17 (by decide) rfl ?_
  refine rn_iand 20 dX2_plainLength_19 rfl ?_
  refine rn_goto 24 dX2_plainLength_20 (by decide) ?_
  exact rn_iret rfl dX2_plainLength_24 (⟨by rw [(xg_pk hg he).2.2.1], rfl, rfl⟩)
