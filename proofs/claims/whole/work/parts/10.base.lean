/-! BASE: the answer that changes nothing; numbers -/
def pq (v : Option Value) (mu : Nat → Nat → Int32) (h : Int64) : rn_Q := fun r mu' h' => r = v ∧ mu' = mu ∧ h' = h
def isin (v : Int32) (n : Nat) : Prop := ∃ a, a < n ∧ v = nI a
theorem isin_of {v : Int32} {n : Nat} (hn : n < 2 ^ 31) (h0 : ¬ v < 0) (h1 : ¬ nI n ≤ v) : isin v n := by
  rcases pk_ix v hn with h | h | ⟨j, h, e⟩
  · exact absurd h h0
  · exact absurd h h1
  · exact ⟨j, h, e⟩
theorem isin_of' {v : Int32} {n : Nat} (hn : n + 1 < 2 ^ 31) (h0 : ¬ v < 0) (h1 : ¬ nI n < v) : isin v (n + 1) := by
  refine isin_of hn h0 (fun h => h1 ?_)
  have h2 : nI n < nI (n + 1) := nI_lt (Nat.lt_succ_self n) hn
  exact Int32.lt_of_lt_of_le h2 h
theorem rn_cvp {X : Option (Nat × (Nat → Int32))} {y : ym_T} {d pc : Nat} {L : List (Option Value)} {mu : Nat → Nat → Int32} {h : Int64} {Q : rn_Q} (y1 : ym_T) (As S : List Value) {S0 : List Value} {i ci n idx : Nat} {fs : List ly_F} (n' : Nat) (v : Value) (hd : decode y.2.1 pc = .ok (.invokevirtual idx, 3)) (hc : cv_ok y.1.cls idx y1 ci n) (hi : ly_L[i]? = some (.inr (ci, fs))) (hS0 : S0 = As.reverse ++ .ref i :: S) (hn : As.length = n) (hcat : (S.map fun v => v.category).sum ≤ 8) (hp : pc + 3 = n') (hG : gd_G y1 d (.ref i :: As) mu h (pq (some v) mu h)) (k : rn_R X y (d + 1) n' L (v :: S) mu h Q) : rn_R X y (d + 1) pc L S0 mu h Q := by
  subst hp
  refine rn_callV y1 As S hd hc hi hS0 hn hcat hG (fun r mu' h' q _ => ?_)
  obtain ⟨q1, q2, q3⟩ := q
  subst q1; subst q2; subst q3
  exact k
theorem rn_csp {X : Option (Nat × (Nat → Int32))} {y : ym_T} {d pc : Nat} {L : List (Option Value)} {mu : Nat → Nat → Int32} {h : Int64} {Q : rn_Q} (y1 : ym_T) (As S : List Value) {S0 : List Value} {n idx : Nat} (n' : Nat) (v : Value) (hd : decode y.2.1 pc = .ok (.invokestatic idx, 3)) (hc : cs_ok y.1.cls idx y1 n) (hS0 : S0 = As.reverse ++ S) (hn : As.length = n) (hcat : (S.map fun v => v.category).sum ≤ 8) (hp : pc + 3 = n') (hG : gd_G y1 d As mu h (pq (some v) mu h)) (k : rn_R X y (d + 1) n' L (v :: S) mu h Q) : rn_R X y (d + 1) pc L S0 mu h Q := by
  subst hp
  refine rn_callS y1 As S hd hc hS0 hn hcat hG (fun r mu' h' q _ => ?_)
  obtain ⟨q1, q2, q3⟩ := q
  subst q1; subst q2; subst q3
  exact k
/-- a call that ends in a known memory -/
theorem rn_cvm {X : Option (Nat × (Nat → Int32))} {y : ym_T} {d pc : Nat} {L : List (Option Value)} {mu : Nat → Nat → Int32} {h : Int64} {Q : rn_Q} (y1 : ym_T) (As S : List Value) {S0 : List Value} {i ci n idx : Nat} {fs : List ly_F} (n' : Nat) (v : Option Value) (mu1 : Nat → Nat → Int32) (hd : decode y.2.1 pc = .ok (.invokevirtual idx, 3)) (hc : cv_ok y.1.cls idx y1 ci n) (hi : ly_L[i]? = some (.inr (ci, fs))) (hS0 : S0 = As.reverse ++ .ref i :: S) (hn : As.length = n) (hcat : (S.map fun v => v.category).sum ≤ 8) (hp : pc + 3 = n') (hG : gd_G y1 d (.ref i :: As) mu h (pq v mu1 h)) (k : rn_R X y (d + 1) n' L (v.toList ++ S) mu1 h Q) : rn_R X y (d + 1) pc L S0 mu h Q := by
  subst hp
  refine rn_callV y1 As S hd hc hi hS0 hn hcat hG (fun r mu' h' q _ => ?_)
  obtain ⟨q1, q2, q3⟩ := q
  subst q1; subst q2; subst q3
  exact k
theorem lc_sn {ad : Nat → Nat} {ls : Array Slot} {L : List (Option Value)} (hl : lc_h ad ls L) (i : Nat) : lc_h ad ls (L.set i none) := by
  obtain ⟨h1, h2, h3⟩ := hl
  refine ⟨by rw [List.length_set]; exact h1, h2, fun q hq => ?_⟩
  obtain ⟨k, x⟩ := q
  obtain ⟨w, hw, rfl⟩ := lc_p_mem.mp hq
  by_cases hk : i = k
  · subst hk
    rw [List.getElem?_set] at hw
    simp at hw
  · rw [List.getElem?_set_ne hk] at hw
    exact h3 _ (lc_p_mem.mpr ⟨w, hw, rfl⟩)
/-- a local is forgotten -/
theorem rn_drop {X : Option (Nat × (Nat → Int32))} {y : ym_T} {d pc : Nat} {L : List (Option Value)} {S : List Value} {mu : Nat → Nat → Int32} {h : Int64} {Q : rn_Q} (i : Nat) (L' : List (Option Value)) (hL : L.set i none = L') (k : rn_R X y d pc L' S mu h Q) : rn_R X y d pc L S mu h Q := by
  subst hL
  intro p l e R s m args below meth c cells slots dC dI ad ca A Qt E F H locs ls hst hl hlen
  exact k p l e R s m args below meth c cells slots dC dI ad ca A Qt E F H locs ls hst (lc_sn hl i) (by rw [List.length_set]; exact hlen)
theorem ly_1_22 : ly_1 22 18 := by
  intro i2 ci2 fs2 j2 hi hj
  have key : ∀ i, i < 31 → ∀ j, j < 20 → (match (ly_L[i]? : Option ly_E) with | some (Sum.inr o) => (o.2[j]? == some (some none)) | _ => false) = true → i = 22 ∧ j = 18 := by decide +kernel
  have hl : i2 < ly_L.length := (List.getElem?_eq_some_iff.mp hi).1
  have hl2 : i2 < 31 := hl
  have len : ∀ i, i < 31 → (match (ly_L[i]? : Option ly_E) with | some (Sum.inr o) => decide (o.2.length < 20) | _ => true) = true := by decide +kernel
  have h3 := len i2 hl2
  rw [hi] at h3
  have h4 : j2 < fs2.length := (List.getElem?_eq_some_iff.mp hj).1
  have h5 : fs2.length < 20 := by simpa using h3
  refine key i2 hl2 j2 (by omega) ?_
  rw [hi]
  simp [hj]

set_option maxRecDepth 100000 in
set_option maxHeartbeats 2000000 in
theorem c_isWithin_t (d : Nat) (mu : Nat → Nat → Int32) (h : Int64) (k M : Nat) (hk : k ≤ M) (hM : M < 2 ^ 31) : gd_G mX8_isWithin d [.int (nI k), .int (nI M)] mu h (pq (some (.int 1)) mu h) := by
  refine gd_of rfl (Nat.le_of_ble_eq_true rfl) ?_
  show rn_R none mX8_isWithin d 0 [some (.int (nI k)), some (.int (nI M))] [] mu h (pq (some (.int 1)) mu h)
  refine rn_iload_n 1 dX8_isWithin_0 rfl rfl rfl ?_
  refine rn_if_lt 13 4 dX8_isWithin_1 (by decide) rfl (fun c1 => absurd c1 (nI_pos (by omega))) (fun _ => ?_)
  refine rn_iload_n 5 dX8_isWithin_4 rfl rfl rfl ?_
  refine rn_iload_n 6 dX8_isWithin_5 rfl rfl rfl ?_
  refine rn_icmp_gt 13 9 dX8_isWithin_6 (by decide) rfl (fun c6 => absurd c6 (nI_nlt (by omega) (by omega))) (fun _ => ?_)
  refine rn_iconst (v := 1) 10 dX8_isWithin_9 (by decide) rfl ?_
  refine rn_goto 14 dX8_isWithin_10 (by decide) ?_
  exact rn_zret rfl dX8_isWithin_14 rfl (⟨rfl, rfl, rfl⟩)

set_option maxRecDepth 100000 in
set_option maxHeartbeats 2000000 in
theorem c_isWithin_f (d : Nat) (mu : Nat → Nat → Int32) (h : Int64) (v : Int32) (M : Nat) (hv : ¬ isin v (M + 1)) (hM : M + 1 < 2 ^ 31) : gd_G mX8_isWithin d [.int v, .int (nI M)] mu h (pq (some (.int 0)) mu h) := by
  refine gd_of rfl (Nat.le_of_ble_eq_true rfl) ?_
  show rn_R none mX8_isWithin d 0 [some (.int v), some (.int (nI M))] [] mu h (pq (some (.int 0)) mu h)
  refine rn_iload_n 1 dX8_isWithin_0 rfl rfl rfl ?_
  refine rn_if_lt 13 4 dX8_isWithin_1 (by decide) rfl (fun c1 => ?_) (fun c1 => ?_)
  · skip
    refine rn_iconst (v := 0) 14 dX8_isWithin_13 (by decide) rfl ?_
    exact rn_zret rfl dX8_isWithin_14 rfl (⟨rfl, rfl, rfl⟩)
  · skip
    refine rn_iload_n 5 dX8_isWithin_4 rfl rfl rfl ?_
    refine rn_iload_n 6 dX8_isWithin_5 rfl rfl rfl ?_
    refine rn_icmp_gt 13 9 dX8_isWithin_6 (by decide) rfl (fun _ => ?_) (fun c6 => absurd (Classical.byContradiction fun q => hv (isin_of' hM c1 q)) c6)
    refine rn_iconst (v := 0) 14 dX8_isWithin_13 (by decide) rfl ?_
    exact rn_zret rfl dX8_isWithin_14 rfl (⟨rfl, rfl, rfl⟩)
