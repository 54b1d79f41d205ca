/-! THE REFERENCE's CALLS: the graph -/
theorem mS_kept {g : List Ed} {a : Nat} {hs : List Sg} {tx : List Nat} {f : Int32} {mu mu' : Nat → Nat → Int32} (h : mS (g, a, hs, tx, f) mu) (hh : mh (hk hs (g, a)) mu') (fr : ∀ c, c ≠ 22 → c ≠ 24 → mu' c = mu c) (fr2 : ∀ j, j ≠ 2 → mu' 22 j = mu 22 j) : mS (g, a, hk hs (g, a), tx, f) mu' := by
  obtain ⟨h1, h2, h3, h4, h5⟩ := h
  simp only at h1 h2 h3 h4 h5
  have e3 := fr 23 (by omega) (by omega)
  exact ⟨mg_of h1 e3, ⟨by rw [e3]; exact h2.1, h2.2⟩, hh, mt_of h4 (fr2 5 (by omega)) (fr 25 (by omega) (by omega)), by rw [fr2 3 (by omega)]; exact h5⟩
theorem mS_g {g g' : List Ed} {a a' : Nat} {hs : List Sg} {tx : List Nat} {f : Int32} {mu mu' : Nat → Nat → Int32} (h : mS (g, a, hs, tx, f) mu) (hg' : mg g' mu') (ha' : ma g' a' mu') (fr : ∀ c, c ≠ 23 → mu' c = mu c) : mS (g', a', hs, tx, f) mu' := by
  obtain ⟨h1, h2, h3, h4, h5⟩ := h
  simp only at h1 h2 h3 h4 h5
  have e2 := fr 22 (by omega)
  exact ⟨hg', ha', mh_of h3 (by rw [e2]) (fr 24 (by omega)), mt_of h4 (by rw [e2]) (fr 25 (by omega)), by rw [e2]; exact h5⟩
theorem mt_app {tx : List Nat} {mu mu' : Nat → Nat → Int32} (ht : mt tx mu) (hn : tx.length < 110) {b : Nat} (hb : b < 128) (h5 : mu' 22 5 = nI (tx.length + 1)) (h6 : mu' 25 = upd (mu 25) tx.length (nI b)) : mt (tx ++ [b]) mu' := by
  refine ⟨by simp; omega, by simpa using h5, fun c hc => ?_, fun i c hc => ?_⟩
  · rcases List.mem_append.mp hc with q | q
    · exact ht.2.2.1 c q
    · rw [List.mem_singleton.mp q]; exact hb
  · rw [h6]
    by_cases hi : i < tx.length
    · rw [List.getElem?_append_left hi] at hc
      rw [pk_un (by omega)]
      exact ht.2.2.2 i c hc
    · have hl := (List.getElem?_eq_some_iff.mp hc).1
      simp at hl
      have he : i = tx.length := by omega
      subst he
      rw [List.getElem?_append_right (Nat.le_refl _), Nat.sub_self] at hc
      cases hc
      rw [pk_us]
/-- five places of the row -/
def l5 (f : Nat → Int32) (n : Nat) (v1 v2 v3 v4 v5 : Int32) : Nat → Int32 := upd (upd (upd (upd (upd f (5 * n) v1) (5 * n + 1) v2) (5 * n + 2) v3) (5 * n + 3) v4) (5 * n + 4) v5
theorem l5_out {f : Nat → Int32} {n j : Nat} {v1 v2 v3 v4 v5 : Int32} (h : j < 5 * n ∨ 5 * n + 5 ≤ j) : l5 f n v1 v2 v3 v4 v5 j = f j := by
  unfold l5
  rw [pk_un (by omega), pk_un (by omega), pk_un (by omega), pk_un (by omega), pk_un (by omega)]
theorem l5_in (f : Nat → Int32) (n : Nat) (v1 v2 v3 v4 v5 : Int32) : l5 f n v1 v2 v3 v4 v5 (5 * n) = v1 ∧ l5 f n v1 v2 v3 v4 v5 (5 * n + 1) = v2 ∧ l5 f n v1 v2 v3 v4 v5 (5 * n + 2) = v3 ∧ l5 f n v1 v2 v3 v4 v5 (5 * n + 3) = v4 ∧ l5 f n v1 v2 v3 v4 v5 (5 * n + 4) = v5 := by
  refine ⟨?_, ?_, ?_, ?_, ?_⟩ <;> unfold l5 <;> simp [upd]
theorem mg_app {g : List Ed} {mu mu' : Nat → Nat → Int32} (hg : mg g mu) (hn : g.length < 16) {x : Ed} (hx : e_ok x) (h3 : mu' 23 = upd (l5 (mu 23) g.length (nI x.1) (nI x.2.1) (nI x.2.2.1) (nI x.2.2.2.1) (nI x.2.2.2.2)) 80 (nI (g.length + 1))) : mg (g ++ [x]) mu' := by
  refine ⟨by simp; omega, fun y hy => ?_, by rw [h3, pk_us]; simp, fun i y hy => ?_⟩
  · rcases List.mem_append.mp hy with q | q
    · exact hg.2.1 y q
    · rw [List.mem_singleton.mp q]; exact hx
  · rw [h3]
    by_cases hi : i < g.length
    · rw [List.getElem?_append_left hi] at hy
      rw [pk_un (by omega), pk_un (by omega), pk_un (by omega), pk_un (by omega), pk_un (by omega), l5_out (by omega), l5_out (by omega), l5_out (by omega), l5_out (by omega), l5_out (by omega)]
      exact hg.2.2.2 i y hy
    · have hl := (List.getElem?_eq_some_iff.mp hy).1
      simp at hl
      have he : i = g.length := by omega
      subst he
      rw [List.getElem?_append_right (Nat.le_refl _), Nat.sub_self] at hy
      cases hy
      rw [pk_un (by omega), pk_un (by omega), pk_un (by omega), pk_un (by omega), pk_un (by omega)]
      exact l5_in _ _ _ _ _ _ _

set_option maxRecDepth 100000 in
set_option maxHeartbeats 2000000 in
theorem c_mv2_t (d : Nat) (mu : Nat → Nat → Int32) (h : Int64) {k : Nat} (h1 : 0 ≤ k) (h2 : k ≤ 99) : gd_G mX9_isValue (d + 1) [.int 2, .int (nI k)] mu h (pq (some (.int 1)) mu h) := by
  refine gd_of rfl (Nat.le_of_ble_eq_true rfl) ?_
  show rn_R none mX9_isValue (d + 1) 0 [some (.int 2), some (.int (nI k))] [] mu h (pq (some (.int 1)) mu h)
  refine rn_iload_n 1 dX9_isValue_0 rfl rfl rfl ?_
  refine rn_iconst (v := 2) 2 dX9_isValue_1 (by decide) rfl ?_
  refine rn_icmp_ne 15 5 dX9_isValue_2 (by decide) rfl (fun c2 => absurd (rfl) c2) (fun _ => ?_)
  refine rn_iload_n 6 dX9_isValue_5 rfl rfl rfl ?_
  refine rn_iconst (v := 0) 7 dX9_isValue_6 (by decide) rfl ?_
  refine rn_bipush (v := 99) 9 dX9_isValue_7 (by decide) rfl ?_
  refine rn_csp mX9_in [.int (nI k), .int 0, .int 99] [] 12 (.int 1) dX9_isValue_9 cs_X9_38 rfl rfl (by simp [Value.category]) rfl (c_in_t (d) mu h (nI_pos (by omega)) (nI_nlt (a := 99) (by omega) (by omega))) ?_
  refine rn_goto 50 dX9_isValue_12 (by decide) ?_
  exact rn_zret rfl dX9_isValue_50 rfl (⟨rfl, rfl, rfl⟩)

set_option maxRecDepth 100000 in
set_option maxHeartbeats 2000000 in
theorem c_mv2_f (d : Nat) (mu : Nat → Nat → Int32) (h : Int64) {v : Int32} (hv : ¬ isin v 100) : gd_G mX9_isValue (d + 1) [.int 2, .int v] mu h (pq (some (.int 0)) mu h) := by
  refine gd_of rfl (Nat.le_of_ble_eq_true rfl) ?_
  show rn_R none mX9_isValue (d + 1) 0 [some (.int 2), some (.int v)] [] mu h (pq (some (.int 0)) mu h)
  refine rn_iload_n 1 dX9_isValue_0 rfl rfl rfl ?_
  refine rn_iconst (v := 2) 2 dX9_isValue_1 (by decide) rfl ?_
  refine rn_icmp_ne 15 5 dX9_isValue_2 (by decide) rfl (fun c2 => absurd (rfl) c2) (fun _ => ?_)
  refine rn_iload_n 6 dX9_isValue_5 rfl rfl rfl ?_
  refine rn_iconst (v := 0) 7 dX9_isValue_6 (by decide) rfl ?_
  refine rn_bipush (v := 99) 9 dX9_isValue_7 (by decide) rfl ?_
  refine rn_csp mX9_in [.int v, .int 0, .int 99] [] 12 (.int 0) dX9_isValue_9 cs_X9_38 rfl rfl (by simp [Value.category]) rfl (c_in_f (d) mu h (nisin (n := 99) (by omega) hv)) ?_
  refine rn_goto 50 dX9_isValue_12 (by decide) ?_
  exact rn_zret rfl dX9_isValue_50 rfl (⟨rfl, rfl, rfl⟩)

set_option maxRecDepth 100000 in
set_option maxHeartbeats 2000000 in
theorem c_mv3_t (d : Nat) (mu : Nat → Nat → Int32) (h : Int64) {k : Nat} (h1 : 1 ≤ k) (h2 : k ≤ 100) : gd_G mX9_isValue (d + 1) [.int 3, .int (nI k)] mu h (pq (some (.int 1)) mu h) := by
  refine gd_of rfl (Nat.le_of_ble_eq_true rfl) ?_
  show rn_R none mX9_isValue (d + 1) 0 [some (.int 3), some (.int (nI k))] [] mu h (pq (some (.int 1)) mu h)
  refine rn_iload_n 1 dX9_isValue_0 rfl rfl rfl ?_
  refine rn_iconst (v := 2) 2 dX9_isValue_1 (by decide) rfl ?_
  refine rn_icmp_ne 15 5 dX9_isValue_2 (by decide) rfl (fun _ => ?_) (fun c2 => absurd c2 (by decide))
  refine rn_iload_n 16 dX9_isValue_15 rfl rfl rfl ?_
  refine rn_iconst (v := 3) 17 dX9_isValue_16 (by decide) rfl ?_
  refine rn_icmp_ne 30 20 dX9_isValue_17 (by decide) rfl (fun c17 => absurd (rfl) c17) (fun _ => ?_)
  refine rn_iload_n 21 dX9_isValue_20 rfl rfl rfl ?_
  refine rn_iconst (v := 1) 22 dX9_isValue_21 (by decide) rfl ?_
  refine rn_bipush (v := 100) 24 dX9_isValue_22 (by decide) rfl ?_
  refine rn_csp mX9_in [.int (nI k), .int 1, .int 100] [] 27 (.int 1) dX9_isValue_24 cs_X9_38 rfl rfl (by simp [Value.category]) rfl (c_in_t (d) mu h (nI_nlt (b := 1) (by omega) (by omega)) (nI_nlt (a := 100) (by omega) (by omega))) ?_
  refine rn_goto 50 dX9_isValue_27 (by decide) ?_
  exact rn_zret rfl dX9_isValue_50 rfl (⟨rfl, rfl, rfl⟩)

set_option maxRecDepth 100000 in
set_option maxHeartbeats 2000000 in
theorem c_mv3_f (d : Nat) (mu : Nat → Nat → Int32) (h : Int64) {v : Int32} (hv : ¬ ∃ k, 1 ≤ k ∧ k ≤ 100 ∧ v = nI k) : gd_G mX9_isValue (d + 1) [.int 3, .int v] mu h (pq (some (.int 0)) mu h) := by
  refine gd_of rfl (Nat.le_of_ble_eq_true rfl) ?_
  show rn_R none mX9_isValue (d + 1) 0 [some (.int 3), some (.int v)] [] mu h (pq (some (.int 0)) mu h)
  refine rn_iload_n 1 dX9_isValue_0 rfl rfl rfl ?_
  refine rn_iconst (v := 2) 2 dX9_isValue_1 (by decide) rfl ?_
  refine rn_icmp_ne 15 5 dX9_isValue_2 (by decide) rfl (fun _ => ?_) (fun c2 => absurd c2 (by decide))
  refine rn_iload_n 16 dX9_isValue_15 rfl rfl rfl ?_
  refine rn_iconst (v := 3) 17 dX9_isValue_16 (by decide) rfl ?_
  refine rn_icmp_ne 30 20 dX9_isValue_17 (by decide) rfl (fun c17 => absurd (rfl) c17) (fun _ => ?_)
  refine rn_iload_n 21 dX9_isValue_20 rfl rfl rfl ?_
  refine rn_iconst (v := 1) 22 dX9_isValue_21 (by decide) rfl ?_
  refine rn_bipush (v := 100) 24 dX9_isValue_22 (by decide) rfl ?_
  refine rn_csp mX9_in [.int v, .int 1, .int 100] [] 27 (.int 0) dX9_isValue_24 cs_X9_38 rfl rfl (by simp [Value.category]) rfl (c_in_f (d) mu h (by by_cases z1 : v < 1; exact Or.inl z1; exact Or.inr (Classical.byContradiction fun q => hv (iv_of (by omega) z1 q)))) ?_
  refine rn_goto 50 dX9_isValue_27 (by decide) ?_
  exact rn_zret rfl dX9_isValue_50 rfl (⟨rfl, rfl, rfl⟩)

set_option maxRecDepth 100000 in
set_option maxHeartbeats 2000000 in
theorem c_mv4_t (d : Nat) (mu : Nat → Nat → Int32) (h : Int64) {k : Nat} (h1 : 1 ≤ k) (h2 : k ≤ 9) : gd_G mX9_isValue (d + 1) [.int 4, .int (nI k)] mu h (pq (some (.int 1)) mu h) := by
  refine gd_of rfl (Nat.le_of_ble_eq_true rfl) ?_
  show rn_R none mX9_isValue (d + 1) 0 [some (.int 4), some (.int (nI k))] [] mu h (pq (some (.int 1)) mu h)
  refine rn_iload_n 1 dX9_isValue_0 rfl rfl rfl ?_
  refine rn_iconst (v := 2) 2 dX9_isValue_1 (by decide) rfl ?_
  refine rn_icmp_ne 15 5 dX9_isValue_2 (by decide) rfl (fun _ => ?_) (fun c2 => absurd c2 (by decide))
  refine rn_iload_n 16 dX9_isValue_15 rfl rfl rfl ?_
  refine rn_iconst (v := 3) 17 dX9_isValue_16 (by decide) rfl ?_
  refine rn_icmp_ne 30 20 dX9_isValue_17 (by decide) rfl (fun _ => ?_) (fun c17 => absurd c17 (by decide))
  refine rn_iload_n 31 dX9_isValue_30 rfl rfl rfl ?_
  refine rn_iconst (v := 4) 32 dX9_isValue_31 (by decide) rfl ?_
  refine rn_icmp_ne 49 35 dX9_isValue_32 (by decide) rfl (fun c32 => absurd (rfl) c32) (fun _ => ?_)
  refine rn_iload_n 36 dX9_isValue_35 rfl rfl rfl ?_
  refine rn_iconst (v := 1) 37 dX9_isValue_36 (by decide) rfl ?_
  refine rn_bipush (v := 9) 39 dX9_isValue_37 (by decide) rfl ?_
  refine rn_csp mX9_in [.int (nI k), .int 1, .int 9] [] 42 (.int 1) dX9_isValue_39 cs_X9_38 rfl rfl (by simp [Value.category]) rfl (c_in_t (d) mu h (nI_nlt (b := 1) (by omega) (by omega)) (nI_nlt (a := 9) (by omega) (by omega))) ?_
  refine rn_if_eq 49 45 dX9_isValue_42 (by decide) rfl (fun c42 => absurd c42 (by decide)) (fun _ => ?_)
  refine rn_iconst (v := 1) 46 dX9_isValue_45 (by decide) rfl ?_
  refine rn_goto 50 dX9_isValue_46 (by decide) ?_
  exact rn_zret rfl dX9_isValue_50 rfl (⟨rfl, rfl, rfl⟩)

set_option maxRecDepth 100000 in
set_option maxHeartbeats 2000000 in
theorem c_mv4_f (d : Nat) (mu : Nat → Nat → Int32) (h : Int64) {v : Int32} (hv : ¬ ∃ k, 1 ≤ k ∧ k ≤ 9 ∧ v = nI k) : gd_G mX9_isValue (d + 1) [.int 4, .int v] mu h (pq (some (.int 0)) mu h) := by
  refine gd_of rfl (Nat.le_of_ble_eq_true rfl) ?_
  show rn_R none mX9_isValue (d + 1) 0 [some (.int 4), some (.int v)] [] mu h (pq (some (.int 0)) mu h)
  refine rn_iload_n 1 dX9_isValue_0 rfl rfl rfl ?_
  refine rn_iconst (v := 2) 2 dX9_isValue_1 (by decide) rfl ?_
  refine rn_icmp_ne 15 5 dX9_isValue_2 (by decide) rfl (fun _ => ?_) (fun c2 => absurd c2 (by decide))
  refine rn_iload_n 16 dX9_isValue_15 rfl rfl rfl ?_
  refine rn_iconst (v := 3) 17 dX9_isValue_16 (by decide) rfl ?_
  refine rn_icmp_ne 30 20 dX9_isValue_17 (by decide) rfl (fun _ => ?_) (fun c17 => absurd c17 (by decide))
  refine rn_iload_n 31 dX9_isValue_30 rfl rfl rfl ?_
  refine rn_iconst (v := 4) 32 dX9_isValue_31 (by decide) rfl ?_
  refine rn_icmp_ne 49 35 dX9_isValue_32 (by decide) rfl (fun c32 => absurd (rfl) c32) (fun _ => ?_)
  refine rn_iload_n 36 dX9_isValue_35 rfl rfl rfl ?_
  refine rn_iconst (v := 1) 37 dX9_isValue_36 (by decide) rfl ?_
  refine rn_bipush (v := 9) 39 dX9_isValue_37 (by decide) rfl ?_
  refine rn_csp mX9_in [.int v, .int 1, .int 9] [] 42 (.int 0) dX9_isValue_39 cs_X9_38 rfl rfl (by simp [Value.category]) rfl (c_in_f (d) mu h (by by_cases z1 : v < 1; exact Or.inl z1; exact Or.inr (Classical.byContradiction fun q => hv (iv_of (by omega) z1 q)))) ?_
  refine rn_if_eq 49 45 dX9_isValue_42 (by decide) rfl (fun _ => ?_) (fun c42 => absurd (by decide) c42)
  refine rn_iconst (v := 0) 50 dX9_isValue_49 (by decide) rfl ?_
  exact rn_zret rfl dX9_isValue_50 rfl (⟨rfl, rfl, rfl⟩)

set_option maxRecDepth 100000 in
set_option maxHeartbeats 2000000 in
theorem c_mvo (d : Nat) (mu : Nat → Nat → Int32) (h : Int64) {a v : Int32} (h2 : ¬ a = 2) (h3 : ¬ a = 3) (h4 : ¬ a = 4) : gd_G mX9_isValue (d + 1) [.int a, .int v] mu h (pq (some (.int 0)) mu h) := by
  refine gd_of rfl (Nat.le_of_ble_eq_true rfl) ?_
  show rn_R none mX9_isValue (d + 1) 0 [some (.int a), some (.int v)] [] mu h (pq (some (.int 0)) mu h)
  refine rn_iload_n 1 dX9_isValue_0 rfl rfl rfl ?_
  refine rn_iconst (v := 2) 2 dX9_isValue_1 (by decide) rfl ?_
  refine rn_icmp_ne 15 5 dX9_isValue_2 (by decide) rfl (fun _ => ?_) (fun c2 => absurd c2 (h2))
  refine rn_iload_n 16 dX9_isValue_15 rfl rfl rfl ?_
  refine rn_iconst (v := 3) 17 dX9_isValue_16 (by decide) rfl ?_
  refine rn_icmp_ne 30 20 dX9_isValue_17 (by decide) rfl (fun _ => ?_) (fun c17 => absurd c17 (h3))
  refine rn_iload_n 31 dX9_isValue_30 rfl rfl rfl ?_
  refine rn_iconst (v := 4) 32 dX9_isValue_31 (by decide) rfl ?_
  refine rn_icmp_ne 49 35 dX9_isValue_32 (by decide) rfl (fun _ => ?_) (fun c32 => absurd c32 (h4))
  refine rn_iconst (v := 0) 50 dX9_isValue_49 (by decide) rfl ?_
  exact rn_zret rfl dX9_isValue_50 rfl (⟨rfl, rfl, rfl⟩)

theorem c_mv_t (d : Nat) (mu : Nat → Nat → Int32) (h : Int64) {a v : Int32} (hv : okV a v) : gd_G mX9_isValue (d + 1) [.int a, .int v] mu h (pq (some (.int 1)) mu h) := by
  rcases hv with ⟨rfl, k, h1, rfl⟩ | ⟨rfl, k, h1, h2, rfl⟩ | ⟨rfl, k, h1, h2, rfl⟩
  · exact c_mv2_t d mu h (Nat.zero_le k) (by omega)
  · exact c_mv3_t d mu h h1 h2
  · exact c_mv4_t d mu h h1 h2
theorem c_mv_f (d : Nat) (mu : Nat → Nat → Int32) (h : Int64) {a v : Int32} (hv : ¬ okV a v) : gd_G mX9_isValue (d + 1) [.int a, .int v] mu h (pq (some (.int 0)) mu h) := by
  by_cases h2 : a = 2
  · subst h2; exact c_mv2_f d mu h (fun q => hv (Or.inl ⟨rfl, q⟩))
  by_cases h3 : a = 3
  · subst h3; exact c_mv3_f d mu h (fun q => hv (Or.inr (Or.inl ⟨rfl, q⟩)))
  by_cases h4 : a = 4
  · subst h4; exact c_mv4_f d mu h (fun q => hv (Or.inr (Or.inr ⟨rfl, q⟩)))
  exact c_mvo d mu h h2 h3 h4

set_option maxRecDepth 100000 in
set_option maxHeartbeats 2000000 in
theorem c_lays (d : Nat) (mu : Nat → Nat → Int32) (h : Int64) {n : Nat} (hn : n < 16) (v1 v2 v3 v4 v5 : Int32) : gd_G mX9_lays d [.ref 22, .int (nI n), .int v1, .int v2, .int v3, .int v4, .int v5] mu h (pq none (mu_r mu 23 (l5 (mu 23) n v1 v2 v3 v4 v5)) h) := by
  refine gd_of rfl (Nat.le_of_ble_eq_true rfl) ?_
  have e0 : rn_R none mX9_lays d 0 [some (.ref 22), some (.int (nI n)), some (.int v1), some (.int v2), some (.int v3), some (.int v4), some (.int v5)] [] (mu_r mu 23 (mu 23)) h (pq none (mu_r mu 23 (l5 (mu 23) n v1 v2 v3 v4 v5)) h) := by
    have e5 : 5 * nI n = nI (5 * n) := by rw [show (5 : Int32) = nI 5 from rfl, pk_mul]
    refine rn_aload_n 1 dX9_lays_0 rfl rfl rfl ?_
    refine rn_get 4 (.ref 23) dX9_lays_1 fl_X9_7 rfl rfl rfl rfl ?_
    refine rn_iconst (v := 5) 5 dX9_lays_4 (by decide) rfl ?_
    refine rn_iload_n 6 dX9_lays_5 rfl rfl rfl ?_
    refine rn_imul 7 dX9_lays_6 rfl ?_
    refine rn_iload_n 8 dX9_lays_7 rfl rfl rfl ?_
    rw [e5]
    refine rn_iast 9 dX9_lays_8 rfl (vp_in_nI (by omega) (by omega)) rfl ?_
    rw [nI_clamp (n := 5 * n) (by omega), mu_rs]
    refine rn_aload_n 10 dX9_lays_9 rfl rfl rfl ?_
    refine rn_get 13 (.ref 23) dX9_lays_10 fl_X9_7 rfl rfl rfl rfl ?_
    refine rn_iconst (v := 5) 14 dX9_lays_13 (by decide) rfl ?_
    refine rn_iload_n 15 dX9_lays_14 rfl rfl rfl ?_
    refine rn_imul 16 dX9_lays_15 rfl ?_
    refine rn_iconst (v := 1) 17 dX9_lays_16 (by decide) rfl ?_
    refine rn_iadd 18 dX9_lays_17 rfl ?_
    refine rn_iload_n 19 dX9_lays_18 rfl rfl rfl ?_
    rw [e5, show nI (5 * n) + 1 = nI (5 * n + 1) from nI_add _ 1]
    refine rn_iast 20 dX9_lays_19 rfl (vp_in_nI (by omega) (by omega)) rfl ?_
    rw [nI_clamp (n := 5 * n + 1) (by omega), mu_rs]
    refine rn_aload_n 21 dX9_lays_20 rfl rfl rfl ?_
    refine rn_get 24 (.ref 23) dX9_lays_21 fl_X9_7 rfl rfl rfl rfl ?_
    refine rn_iconst (v := 5) 25 dX9_lays_24 (by decide) rfl ?_
    refine rn_iload_n 26 dX9_lays_25 rfl rfl rfl ?_
    refine rn_imul 27 dX9_lays_26 rfl ?_
    refine rn_iconst (v := 2) 28 dX9_lays_27 (by decide) rfl ?_
    refine rn_iadd 29 dX9_lays_28 rfl ?_
    refine rn_iload 31 dX9_lays_29 rfl rfl ?_
    rw [e5, show nI (5 * n) + 2 = nI (5 * n + 2) from nI_add _ 2]
    refine rn_iast 32 dX9_lays_31 rfl (vp_in_nI (by omega) (by omega)) rfl ?_
    rw [nI_clamp (n := 5 * n + 2) (by omega), mu_rs]
    refine rn_aload_n 33 dX9_lays_32 rfl rfl rfl ?_
    refine rn_get 36 (.ref 23) dX9_lays_33 fl_X9_7 rfl rfl rfl rfl ?_
    refine rn_iconst (v := 5) 37 dX9_lays_36 (by decide) rfl ?_
    refine rn_iload_n 38 dX9_lays_37 rfl rfl rfl ?_
    refine rn_imul 39 dX9_lays_38 rfl ?_
    refine rn_iconst (v := 3) 40 dX9_lays_39 (by decide) rfl ?_
    refine rn_iadd 41 dX9_lays_40 rfl ?_
    refine rn_iload 43 dX9_lays_41 rfl rfl ?_
    rw [e5, show nI (5 * n) + 3 = nI (5 * n + 3) from nI_add _ 3]
    refine rn_iast 44 dX9_lays_43 rfl (vp_in_nI (by omega) (by omega)) rfl ?_
    rw [nI_clamp (n := 5 * n + 3) (by omega), mu_rs]
    refine rn_aload_n 45 dX9_lays_44 rfl rfl rfl ?_
    refine rn_get 48 (.ref 23) dX9_lays_45 fl_X9_7 rfl rfl rfl rfl ?_
    refine rn_iconst (v := 5) 49 dX9_lays_48 (by decide) rfl ?_
    refine rn_iload_n 50 dX9_lays_49 rfl rfl rfl ?_
    refine rn_imul 51 dX9_lays_50 rfl ?_
    refine rn_iconst (v := 4) 52 dX9_lays_51 (by decide) rfl ?_
    refine rn_iadd 53 dX9_lays_52 rfl ?_
    refine rn_iload 55 dX9_lays_53 rfl rfl ?_
    rw [e5, show nI (5 * n) + 4 = nI (5 * n + 4) from nI_add _ 4]
    refine rn_iast 56 dX9_lays_55 rfl (vp_in_nI (by omega) (by omega)) rfl ?_
    rw [nI_clamp (n := 5 * n + 4) (by omega), mu_rs]
    exact rn_vret rfl dX9_lays_56 (⟨rfl, rfl, rfl⟩)
  rw [mu_r_id] at e0
  exact e0

set_option maxRecDepth 100000 in
set_option maxHeartbeats 2000000 in
theorem m_finding (d : Nat) {g : List Ed} {a : Nat} {hs : List Sg} {tx : List Nat} {f : Int32}  : MC mX9_finding d [] (g, a, hs, tx, f) (g, a, hs, tx, f) (.int f) := by
  intro mu h hs0
  obtain ⟨hg, ha, hh, ht, hf⟩ := id hs0
  simp only at hg ha hh ht hf
  refine gd_of rfl (Nat.le_of_ble_eq_true rfl) ?_
  show rn_R none mX9_finding d 0 [some (.ref 22)] [] mu h (fun r mu' _ => r = some (.int f) ∧ mS (g, a, hs, tx, f) mu' ∧ ∀ c, c < 22 → mu' c = mu c)
  refine rn_aload_n 1 dX9_finding_0 rfl rfl rfl ?_
  refine rn_get 4 (.int (mu 22 3)) dX9_finding_1 fl_X9_16 rfl rfl rfl rfl ?_
  exact rn_iret rfl dX9_finding_4 (⟨by rw [hf], hs0, fun _ _ => rfl⟩)

set_option maxRecDepth 100000 in
set_option maxHeartbeats 2000000 in
theorem m_clearText (d : Nat) {g : List Ed} {a : Nat} {hs : List Sg} {tx : List Nat} {f : Int32}  : MC mX9_clearText d [] (g, a, hs, tx, f) (g, a, hs, [], f) (.int (nI tx.length)) := by
  intro mu h hs0
  obtain ⟨hg, ha, hh, ht, hf⟩ := id hs0
  simp only at hg ha hh ht hf
  refine gd_of rfl (Nat.le_of_ble_eq_true rfl) ?_
  show rn_R none mX9_clearText d 0 [some (.ref 22), none] [] mu h (fun r mu' _ => r = some (.int (nI tx.length)) ∧ mS (g, a, hs, [], f) mu' ∧ ∀ c, c < 22 → mu' c = mu c)
  refine rn_aload_n 1 dX9_clearText_0 rfl rfl rfl ?_
  refine rn_get 4 (.int (mu 22 5)) dX9_clearText_1 fl_X9_70 rfl rfl rfl rfl ?_
  refine rn_istore_n 5 [some (.ref 22), some (.int (mu 22 5))] dX9_clearText_4 rfl rfl (Nat.le_of_ble_eq_true rfl) rfl ?_
  refine rn_aload_n 6 dX9_clearText_5 rfl rfl rfl ?_
  refine rn_iconst (v := 0) 7 dX9_clearText_6 (by decide) rfl ?_
  refine rn_put 10 dX9_clearText_7 fp_X9_70 rfl rfl rfl rfl rfl ?_
  refine rn_iload_n 11 dX9_clearText_10 rfl rfl rfl ?_
  exact rn_iret rfl dX9_clearText_11 (⟨by rw [ht.2.1], ⟨hg, ha, mh_of hh rfl rfl, ⟨by simp, rfl, by simp, by simp⟩, hf⟩, fun c hc => by simp [mu_s, show c ≠ 22 by omega]⟩)

set_option maxRecDepth 100000 in
set_option maxHeartbeats 2000000 in
theorem m_type_b (d : Nat) {g : List Ed} {a : Nat} {hs : List Sg} {tx : List Nat} {f : Int32} {v : Int32} (hv : ¬ isin v 128) : MC mX9_type (d + 1) [.int v] (g, a, hs, tx, f) (g, a, hs, tx, f) (.int (-2)) := by
  intro mu h hs0
  obtain ⟨hg, ha, hh, ht, hf⟩ := id hs0
  simp only at hg ha hh ht hf
  refine gd_of rfl (Nat.le_of_ble_eq_true rfl) ?_
  show rn_R none mX9_type (d + 1) 0 [some (.ref 22), some (.int v)] [] mu h (fun r mu' _ => r = some (.int (-2)) ∧ mS (g, a, hs, tx, f) mu' ∧ ∀ c, c < 22 → mu' c = mu c)
  refine rn_iload_n 1 dX9_type_0 rfl rfl rfl ?_
  refine rn_iconst (v := 0) 2 dX9_type_1 (by decide) rfl ?_
  refine rn_bipush (v := 127) 4 dX9_type_2 (by decide) rfl ?_
  refine rn_csp mX9_in [.int v, .int 0, .int 127] [] 7 (.int 0) dX9_type_4 cs_X9_38 rfl rfl (by simp [Value.category]) rfl (c_in_f (d) mu h (nisin (n := 127) (by omega) hv)) ?_
  refine rn_if_ne 13 10 dX9_type_7 (by decide) rfl (fun c7 => absurd (rfl) c7) (fun _ => ?_)
  refine rn_bipush (v := (-2)) 12 dX9_type_10 (by decide) rfl ?_
  exact rn_iret rfl dX9_type_12 (⟨rfl, hs0, fun _ _ => rfl⟩)

set_option maxRecDepth 100000 in
set_option maxHeartbeats 2000000 in
theorem m_type_f (d : Nat) {g : List Ed} {a : Nat} {hs : List Sg} {tx : List Nat} {f : Int32} {b : Nat} (hb : b < 128) (hn : tx.length = 110) : MC mX9_type (d + 1) [.int (nI b)] (g, a, hs, tx, f) (g, a, hs, tx, f) (.int (-4)) := by
  intro mu h hs0
  obtain ⟨hg, ha, hh, ht, hf⟩ := id hs0
  simp only at hg ha hh ht hf
  refine gd_of rfl (Nat.le_of_ble_eq_true rfl) ?_
  show rn_R none mX9_type (d + 1) 0 [some (.ref 22), some (.int (nI b))] [] mu h (fun r mu' _ => r = some (.int (-4)) ∧ mS (g, a, hs, tx, f) mu' ∧ ∀ c, c < 22 → mu' c = mu c)
  refine rn_iload_n 1 dX9_type_0 rfl rfl rfl ?_
  refine rn_iconst (v := 0) 2 dX9_type_1 (by decide) rfl ?_
  refine rn_bipush (v := 127) 4 dX9_type_2 (by decide) rfl ?_
  refine rn_csp mX9_in [.int (nI b), .int 0, .int 127] [] 7 (.int 1) dX9_type_4 cs_X9_38 rfl rfl (by simp [Value.category]) rfl (c_in_t (d) mu h (nI_pos (by omega)) (nI_nlt (a := 127) (by omega) (by omega))) ?_
  refine rn_if_ne 13 10 dX9_type_7 (by decide) rfl (fun _ => ?_) (fun c7 => absurd c7 (by decide))
  refine rn_aload_n 14 dX9_type_13 rfl rfl rfl ?_
  refine rn_get 17 (.int (mu 22 5)) dX9_type_14 fl_X9_70 rfl rfl rfl rfl ?_
  refine rn_bipush (v := 110) 19 dX9_type_17 (by decide) rfl ?_
  refine rn_icmp_ne 25 22 dX9_type_19 (by decide) rfl (fun c19 => absurd (by rw [ht.2.1, hn]; rfl) c19) (fun _ => ?_)
  refine rn_bipush (v := (-4)) 24 dX9_type_22 (by decide) rfl ?_
  exact rn_iret rfl dX9_type_24 (⟨rfl, hs0, fun _ _ => rfl⟩)

set_option maxRecDepth 100000 in
set_option maxHeartbeats 2000000 in
theorem m_type_t (d : Nat) {g : List Ed} {a : Nat} {hs : List Sg} {tx : List Nat} {f : Int32} {b : Nat} (hb : b < 128) (hn : tx.length < 110) : MC mX9_type (d + 1) [.int (nI b)] (g, a, hs, tx, f) (g, a, hs, tx ++ [b], f) (.int (nI (tx.length + 1))) := by
  intro mu h hs0
  obtain ⟨hg, ha, hh, ht, hf⟩ := id hs0
  simp only at hg ha hh ht hf
  refine gd_of rfl (Nat.le_of_ble_eq_true rfl) ?_
  show rn_R none mX9_type (d + 1) 0 [some (.ref 22), some (.int (nI b))] [] mu h (fun r mu' _ => r = some (.int (nI (tx.length + 1))) ∧ mS (g, a, hs, tx ++ [b], f) mu' ∧ ∀ c, c < 22 → mu' c = mu c)
  refine rn_iload_n 1 dX9_type_0 rfl rfl rfl ?_
  refine rn_iconst (v := 0) 2 dX9_type_1 (by decide) rfl ?_
  refine rn_bipush (v := 127) 4 dX9_type_2 (by decide) rfl ?_
  refine rn_csp mX9_in [.int (nI b), .int 0, .int 127] [] 7 (.int 1) dX9_type_4 cs_X9_38 rfl rfl (by simp [Value.category]) rfl (c_in_t (d) mu h (nI_pos (by omega)) (nI_nlt (a := 127) (by omega) (by omega))) ?_
  refine rn_if_ne 13 10 dX9_type_7 (by decide) rfl (fun _ => ?_) (fun c7 => absurd c7 (by decide))
  refine rn_aload_n 14 dX9_type_13 rfl rfl rfl ?_
  refine rn_get 17 (.int (mu 22 5)) dX9_type_14 fl_X9_70 rfl rfl rfl rfl ?_
  refine rn_bipush (v := 110) 19 dX9_type_17 (by decide) rfl ?_
  refine rn_icmp_ne 25 22 dX9_type_19 (by decide) rfl (fun _ => ?_) (fun c19 => absurd c19 (by rw [ht.2.1]; exact fun q => absurd ((nI_eq (b := 110) (by omega) (by omega)).mp q) (by omega)))
  refine rn_aload_n 26 dX9_type_25 rfl rfl rfl ?_
  refine rn_get 29 (.ref 25) dX9_type_26 fl_X9_20 rfl rfl rfl rfl ?_
  refine rn_aload_n 30 dX9_type_29 rfl rfl rfl ?_
  refine rn_get 33 (.int (mu 22 5)) dX9_type_30 fl_X9_70 rfl rfl rfl rfl ?_
  refine rn_iload_n 34 dX9_type_33 rfl rfl rfl ?_
  refine rn_iast 35 dX9_type_34 rfl (by rw [ht.2.1]; exact vp_in_nI (by omega) (by omega)) rfl ?_
  rw [show (mu 22 5).toNatClampNeg = tx.length by rw [ht.2.1]; exact nI_clamp (by omega)]
  refine rn_aload_n 36 dX9_type_35 rfl rfl rfl ?_
  refine rn_dup 37 dX9_type_36 rfl rfl ?_
  refine rn_get 40 (.int (mu 22 5)) dX9_type_37 fl_X9_70 rfl rfl rfl rfl ?_
  refine rn_iconst (v := 1) 41 dX9_type_40 (by decide) rfl ?_
  refine rn_iadd 42 dX9_type_41 rfl ?_
  rw [show mu 22 5 + 1 = nI (tx.length + 1) by rw [ht.2.1, nI_1]]
  refine rn_put 45 dX9_type_42 fp_X9_70 rfl rfl rfl rfl rfl ?_
  refine rn_aload_n 46 dX9_type_45 rfl rfl rfl ?_
  refine rn_get 49 (.int (nI (tx.length + 1))) dX9_type_46 fl_X9_70 rfl rfl rfl rfl ?_
  exact rn_iret rfl dX9_type_49 (⟨rfl, ⟨hg, ha, mh_of hh rfl rfl, mt_app ht hn hb rfl rfl, hf⟩, fun c hc => by simp [mu_s, show c ≠ 22 by omega, show c ≠ 25 by omega]⟩)
