/-! BOTH SIDES: distance, respond, worth -/
theorem xS_fr {s : Sx} {mu mu' : Nat → Nat → Int32} (h : xS s mu) (fr : ∀ c, c < 7 → mu' c = mu c) : xS s mu' := by
  obtain ⟨h1, h2, h3, h4, h5⟩ := h
  have e1 := fr 1 (by omega)
  have e3 := fr 3 (by omega)
  obtain ⟨o, o1, o2, o3, o4, o5⟩ := h3
  exact ⟨xg_of h1 (by rw [e1]) (fr 2 (by omega)), ⟨by rw [e1]; exact h2.1, h2.2⟩, ⟨o, o1, o2, by rw [e3]; exact o3, by rw [e3]; exact o4, fun i x hx => by rw [fr 4 (by omega)]; exact o5 i x hx⟩, xt_of h4 (by rw [fr 5 (by omega)]) (fr 6 (by omega)), by rw [fr 0 (by omega)]; exact h5⟩
theorem xg_fr {g : List Ed} {mu mu' : Nat → Nat → Int32} (h : xg g mu) (fr : ∀ c, (c < 9 ∨ 13 < c) → mu' c = mu c) : xg g mu' := xg_of h (by rw [fr 1 (by omega)]) (fr 2 (by omega))
theorem mS_fr {s : Sx} {mu mu' : Nat → Nat → Int32} (h : mS s mu) (fr : ∀ c, 22 ≤ c → c < 26 → mu' c = mu c) : mS s mu' := by
  obtain ⟨h1, h2, h3, h4, h5⟩ := h
  have e22 := fr 22 (by omega) (by omega)
  have e23 := fr 23 (by omega) (by omega)
  have e24 := fr 24 (by omega) (by omega)
  have e25 := fr 25 (by omega) (by omega)
  unfold ma at h2
  unfold mh at h3
  unfold mt at h4
  refine ⟨mg_of h1 e23, ?_, ?_, ?_, by rw [e22]; exact h5⟩
  · unfold ma; rw [e23]; exact h2
  · unfold mh; rw [e22, e24]; exact h3
  · unfold mt; rw [e22, e25]; exact h4
theorem c_isWithin_i (d : Nat) (mu : Nat → Nat → Int32) (h : Int64) {v : Int32} {M : Nat} (hv : isin v (M + 1)) (hM : M < 2 ^ 31) : gd_G mX8_isWithin d [.int v, .int (nI M)] mu h (pq (some (.int 1)) mu h) := by
  obtain ⟨k, hk, rfl⟩ := hv
  exact c_isWithin_t d mu h k M (by omega) hM
theorem c_in_i (d : Nat) (mu : Nat → Nat → Int32) (h : Int64) {v : Int32} {M : Nat} (hv : isin v (M + 1)) (hM : M < 2 ^ 31) : gd_G mX9_in d [.int v, .int 0, .int (nI M)] mu h (pq (some (.int 1)) mu h) := by
  obtain ⟨k, hk, rfl⟩ := hv
  exact c_in_t d mu h (nI_pos (by omega)) (nI_nlt (by omega) (by omega))
theorem c_hasAll_i (d : Nat) {g : List Ed} {mu : Nat → Nat → Int32} (h : Int64) (hg : xg g mu) {v : Int32} (hv : isin v (2 ^ g.length)) : gd_G mX2_hasAll (d + 1) [.ref 1, .int v] mu h (pq (some (.int 1)) mu h) := by
  obtain ⟨k, hk, rfl⟩ := hv
  exact c_hasAll_t d h hg hk
theorem c_isSet_i (d : Nat) {g : List Ed} {mu : Nat → Nat → Int32} (h : Int64) (hg : mg g mu) {v : Int32} (hv : isin v (2 ^ g.length)) : gd_G mX9_isSet d [.ref 22, .int v] mu h (pq (some (.int 1)) mu h) := by
  obtain ⟨k, hk, rfl⟩ := hv
  exact c_isSet_t d h hg hk
theorem c_has_i (d : Nat) {g : List Ed} {mu : Nat → Nat → Int32} (h : Int64) (hg : xg g mu) {v : Int32} (hv : isin v g.length) : gd_G mX2_has d [.ref 1, .int v] mu h (pq (some (.int 1)) mu h) := by
  obtain ⟨k, hk, rfl⟩ := hv
  exact c_has_t d h hg hk
theorem c_isEdge_i (d : Nat) {g : List Ed} {mu : Nat → Nat → Int32} (h : Int64) (hg : mg g mu) {v : Int32} (hv : isin v g.length) : gd_G mX9_isEdge (d + 1) [.ref 22, .int v] mu h (pq (some (.int 1)) mu h) := by
  obtain ⟨k, hk, rfl⟩ := hv
  exact c_isEdge_t d h hg hk

set_option maxRecDepth 100000 in
set_option maxHeartbeats 2000000 in
theorem x_distance_b (d : Nat) {g : List Ed} {a : Nat} {hs : List Sg} {tx : List Nat} {f : Int32} {v1 v2 : Int32} (hv : ¬ ((isin v1 8 ∧ isin v2 8))) : XC mX8_distance (d + 2) [.int v1, .int v2] (g, a, hs, tx, f) (g, a, hs, tx, f) (.int (-2)) := by
  intro mu h hs0
  obtain ⟨hg, ha, hh, ht, hf⟩ := id hs0
  simp only at hg ha hh ht hf
  refine gd_of rfl (Nat.le_of_ble_eq_true rfl) ?_
  show rn_R none mX8_distance (d + 2) 0 [some (.ref 0), some (.int v1), some (.int v2)] [] mu h (fun r mu' _ => r = some (.int (-2)) ∧ xS (g, a, hs, tx, f) mu' ∧ ∀ c, 22 ≤ c → mu' c = mu c)
  have qq0 : ¬ (isin v1 8 ∧ isin v2 8) := fun z => hv (z)
  refine rn_iload_n 1 dX8_distance_0 rfl rfl rfl ?_
  refine rn_iload_n 2 dX8_distance_1 rfl rfl rfl ?_
  refine rn_csp mX8_areNodes [.int v1, .int v2] [] 5 (.int 0) dX8_distance_2 cs_X8_75 rfl rfl (by simp [Value.category]) rfl (c_areNodes_f (d) mu h qq0) ?_
  refine rn_if_ne 11 8 dX8_distance_5 (by decide) rfl (fun c5 => absurd (rfl) c5) (fun _ => ?_)
  refine rn_bipush (v := (-2)) 10 dX8_distance_8 (by decide) rfl ?_
  exact rn_iret rfl dX8_distance_10 (⟨rfl, hs0, fun _ _ => rfl⟩)

set_option maxRecDepth 100000 in
set_option maxHeartbeats 2000000 in
theorem x_distance_t (d : Nat) {g : List Ed} {a : Nat} {hs : List Sg} {tx : List Nat} {f : Int32} {u v : Nat} (hu : u < 8) (hv : v < 8) : XC mX8_distance (d + 3) [.int (nI u), .int (nI v)] (g, a, hs, tx, f) (g, a, hs, tx, f) (.int (nI (xD g a u v 0))) := by
  intro mu h hs0
  obtain ⟨hg, ha, hh, ht, hf⟩ := id hs0
  simp only at hg ha hh ht hf
  refine gd_of rfl (Nat.le_of_ble_eq_true rfl) ?_
  show rn_R none mX8_distance (d + 3) 0 [some (.ref 0), some (.int (nI u)), some (.int (nI v))] [] mu h (fun r mu' _ => r = some (.int (nI (xD g a u v 0))) ∧ xS (g, a, hs, tx, f) mu' ∧ ∀ c, 22 ≤ c → mu' c = mu c)
  have hp := pw_le hg.1
  have ha2 := ha.2
  refine rn_iload_n 1 dX8_distance_0 rfl rfl rfl ?_
  refine rn_iload_n 2 dX8_distance_1 rfl rfl rfl ?_
  refine rn_csp mX8_areNodes [.int (nI u), .int (nI v)] [] 5 (.int 1) dX8_distance_2 cs_X8_75 rfl rfl (by simp [Value.category]) rfl (c_areNodes_t (d + 1) mu h ⟨u, hu, rfl⟩ ⟨v, hv, rfl⟩) ?_
  refine rn_if_ne 11 8 dX8_distance_5 (by decide) rfl (fun _ => ?_) (fun c5 => absurd c5 (by decide))
  refine rn_aload_n 12 dX8_distance_11 rfl rfl rfl ?_
  refine rn_get 15 (.ref 8) dX8_distance_12 fl_X8_35 rfl rfl rfl rfl ?_
  refine rn_iload_n 16 dX8_distance_15 rfl rfl rfl ?_
  refine rn_iload_n 17 dX8_distance_16 rfl rfl rfl ?_
  refine rn_aload_n 18 dX8_distance_17 rfl rfl rfl ?_
  refine rn_get 21 (.ref 1) dX8_distance_18 fl_X8_10 rfl rfl rfl rfl ?_
  refine rn_get 24 (.int (mu 1 2)) dX8_distance_21 fl_X8_111 rfl rfl rfl rfl ?_
  rw [ha.1]
  refine rn_iconst (v := 0) 25 dX8_distance_24 (by decide) rfl ?_
  refine rn_callV mX5_measure [.int (nI u), .int (nI v), .int (nI a), .int 0] [] dX8_distance_25 cv_X8_137 rfl rfl rfl (by simp [Value.category]) (c_measure (d) (S := a) (s := u) (t := v) (rep := 0) (by omega) hu hv (by omega) h hg) (fun r1 m1 h1 q1 _ => ?_)
  obtain ⟨e1, R1, W1, f1⟩ := q1
  subst e1
  have hg1 : xg g m1 := xg_fr hg f1
  show rn_R _ mX8_distance _ 28 [some (.ref 0), some (.int (nI u)), some (.int (nI v))] [.int (nI (xD g a u v 0))] m1 h1 _
  exact rn_iret rfl dX8_distance_28 (⟨rfl, xS_fr hs0 (fun c hc => f1 c (by omega)), fun c hc => f1 c (by omega)⟩)

set_option maxRecDepth 100000 in
set_option maxHeartbeats 2000000 in
theorem m_distance_b (d : Nat) {g : List Ed} {a : Nat} {hs : List Sg} {tx : List Nat} {f : Int32} {v1 v2 : Int32} (hv : ¬ ((isin v1 8 ∧ isin v2 8))) : MC mX9_distance (d + 2) [.int v1, .int v2] (g, a, hs, tx, f) (g, a, hs, tx, f) (.int (-2)) := by
  intro mu h hs0
  obtain ⟨hg, ha, hh, ht, hf⟩ := id hs0
  simp only at hg ha hh ht hf
  refine gd_of rfl (Nat.le_of_ble_eq_true rfl) ?_
  show rn_R none mX9_distance (d + 2) 0 [some (.ref 22), some (.int v1), some (.int v2)] [] mu h (fun r mu' _ => r = some (.int (-2)) ∧ mS (g, a, hs, tx, f) mu' ∧ ∀ c, c < 22 → mu' c = mu c)
  have qq0 : ¬ (isin v1 8 ∧ isin v2 8) := fun z => hv (z)
  refine rn_iload_n 1 dX9_distance_0 rfl rfl rfl ?_
  refine rn_iload_n 2 dX9_distance_1 rfl rfl rfl ?_
  refine rn_csp mX9_areNodes [.int v1, .int v2] [] 5 (.int 0) dX9_distance_2 cs_X9_53 rfl rfl (by simp [Value.category]) rfl (c_mareNodes_f (d) mu h qq0) ?_
  refine rn_if_eq 25 8 dX9_distance_5 (by decide) rfl (fun _ => ?_) (fun c5 => absurd (by decide) c5)
  refine rn_bipush (v := (-2)) 27 dX9_distance_25 (by decide) rfl ?_
  exact rn_iret rfl dX9_distance_27 (⟨rfl, hs0, fun _ _ => rfl⟩)

set_option maxRecDepth 100000 in
set_option maxHeartbeats 2000000 in
theorem m_distance_t (d : Nat) {g : List Ed} {a : Nat} {hs : List Sg} {tx : List Nat} {f : Int32} {u v : Nat} (hu : u < 8) (hv : v < 8) : MC mX9_distance (d + 5) [.int (nI u), .int (nI v)] (g, a, hs, tx, f) (g, a, hs, tx, f) (.int (nI (xD g a u v 0))) := by
  intro mu h hs0
  obtain ⟨hg, ha, hh, ht, hf⟩ := id hs0
  simp only at hg ha hh ht hf
  refine gd_of rfl (Nat.le_of_ble_eq_true rfl) ?_
  show rn_R none mX9_distance (d + 5) 0 [some (.ref 22), some (.int (nI u)), some (.int (nI v))] [] mu h (fun r mu' _ => r = some (.int (nI (xD g a u v 0))) ∧ mS (g, a, hs, tx, f) mu' ∧ ∀ c, c < 22 → mu' c = mu c)
  have hp := pw_le hg.1
  have ha2 := ha.2
  refine rn_iload_n 1 dX9_distance_0 rfl rfl rfl ?_
  refine rn_iload_n 2 dX9_distance_1 rfl rfl rfl ?_
  refine rn_csp mX9_areNodes [.int (nI u), .int (nI v)] [] 5 (.int 1) dX9_distance_2 cs_X9_53 rfl rfl (by simp [Value.category]) rfl (c_mareNodes_t (d + 3) mu h ⟨u, hu, rfl⟩ ⟨v, hv, rfl⟩) ?_
  refine rn_if_eq 25 8 dX9_distance_5 (by decide) rfl (fun c5 => absurd c5 (by decide)) (fun _ => ?_)
  refine rn_aload_n 9 dX9_distance_8 rfl rfl rfl ?_
  refine rn_iload_n 10 dX9_distance_9 rfl rfl rfl ?_
  refine rn_iload_n 11 dX9_distance_10 rfl rfl rfl ?_
  refine rn_aload_n 12 dX9_distance_11 rfl rfl rfl ?_
  refine rn_get 15 (.ref 23) dX9_distance_12 fl_X9_7 rfl rfl rfl rfl ?_
  refine rn_bipush (v := 81) 17 dX9_distance_15 (by decide) rfl ?_
  refine rn_iald 18 (mu 23 81) dX9_distance_17 rfl (vp_in_nI (n := 81) (by decide) (by decide)) rfl rfl ?_
  rw [ha.1]
  refine rn_iconst (v := 0) 19 dX9_distance_18 (by decide) rfl ?_
  refine rn_callV mX9_far [.int (nI u), .int (nI v), .int (nI a), .int 0] [] dX9_distance_19 cv_X9_134 rfl rfl rfl (by simp [Value.category]) (c_far (d) (S := a) (s := u) (t := v) (rep := 0) (by omega) hu hv (by omega) h hg) (fun r1 m1 h1 q1 _ => ?_)
  obtain ⟨e1, k1, f1⟩ := q1
  rw [e1, k1]
  have hg1 : mg g m1 := mg_of hg (f1 23 (by omega))
  show rn_R _ mX9_distance _ 22 [some (.ref 22), some (.int (nI u)), some (.int (nI v))] [.int (nI (xD g a u v 0))] m1 h _
  refine rn_goto 27 dX9_distance_22 (by decide) ?_
  exact rn_iret rfl dX9_distance_27 (⟨rfl, mS_fr hs0 (fun c c1 c2 => f1 c (by omega)), fun c hc => f1 c (by omega)⟩)

set_option maxRecDepth 100000 in
set_option maxHeartbeats 2000000 in
theorem x_respond_b (d : Nat) {g : List Ed} {a : Nat} {hs : List Sg} {tx : List Nat} {f : Int32} {v1 v2 v3 v4 : Int32} (hv : ¬ ((isin v1 8 ∧ isin v2 8) ∧ isin v3 (2 ^ g.length) ∧ isin v4 (3 + 1))) : XC mX8_respond (d + 2) [.int v1, .int v2, .int v3, .int v4] (g, a, hs, tx, f) (g, a, hs, tx, f) (.int (-2)) := by
  intro mu h hs0
  obtain ⟨hg, ha, hh, ht, hf⟩ := id hs0
  simp only at hg ha hh ht hf
  refine gd_of rfl (Nat.le_of_ble_eq_true rfl) ?_
  show rn_R none mX8_respond (d + 2) 0 [some (.ref 0), some (.int v1), some (.int v2), some (.int v3), some (.int v4)] [] mu h (fun r mu' _ => r = some (.int (-2)) ∧ xS (g, a, hs, tx, f) mu' ∧ ∀ c, 22 ≤ c → mu' c = mu c)
  by_cases qq0 : isin v1 8 ∧ isin v2 8
  · skip
    by_cases qq1 : isin v3 (2 ^ g.length)
    · skip
      have qq2 : ¬ (isin v4 (3 + 1)) := fun z => hv ⟨qq0, qq1, z⟩
      refine rn_iload_n 1 dX8_respond_0 rfl rfl rfl ?_
      refine rn_iload_n 2 dX8_respond_1 rfl rfl rfl ?_
      refine rn_csp mX8_areNodes [.int v1, .int v2] [] 5 (.int 1) dX8_respond_2 cs_X8_75 rfl rfl (by simp [Value.category]) rfl (c_areNodes_t (d) mu h qq0.1 qq0.2) ?_
      refine rn_if_eq 28 8 dX8_respond_5 (by decide) rfl (fun c5 => absurd c5 (by decide)) (fun _ => ?_)
      refine rn_aload_n 9 dX8_respond_8 rfl rfl rfl ?_
      refine rn_get 12 (.ref 1) dX8_respond_9 fl_X8_10 rfl rfl rfl rfl ?_
      refine rn_iload_n 13 dX8_respond_12 rfl rfl rfl ?_
      refine rn_cvp mX2_hasAll [.int v3] [] 16 (.int 1) dX8_respond_13 cv_X8_134 rfl rfl rfl (by simp [Value.category]) rfl (c_hasAll_i (d) h hg qq1) ?_
      refine rn_if_eq 28 19 dX8_respond_16 (by decide) rfl (fun c16 => absurd c16 (by decide)) (fun _ => ?_)
      refine rn_iload 21 dX8_respond_19 rfl rfl ?_
      refine rn_iconst (v := 3) 22 dX8_respond_21 (by decide) rfl ?_
      refine rn_csp mX8_isWithin [.int v4, .int 3] [] 25 (.int 0) dX8_respond_22 cs_X8_164 rfl rfl (by simp [Value.category]) rfl (c_isWithin_f (d + 1) mu h v4 3 qq2 (by omega)) ?_
      refine rn_if_ne 31 28 dX8_respond_25 (by decide) rfl (fun c25 => absurd (rfl) c25) (fun _ => ?_)
      refine rn_bipush (v := (-2)) 30 dX8_respond_28 (by decide) rfl ?_
      exact rn_iret rfl dX8_respond_30 (⟨rfl, hs0, fun _ _ => rfl⟩)
    · skip
      refine rn_iload_n 1 dX8_respond_0 rfl rfl rfl ?_
      refine rn_iload_n 2 dX8_respond_1 rfl rfl rfl ?_
      refine rn_csp mX8_areNodes [.int v1, .int v2] [] 5 (.int 1) dX8_respond_2 cs_X8_75 rfl rfl (by simp [Value.category]) rfl (c_areNodes_t (d) mu h qq0.1 qq0.2) ?_
      refine rn_if_eq 28 8 dX8_respond_5 (by decide) rfl (fun c5 => absurd c5 (by decide)) (fun _ => ?_)
      refine rn_aload_n 9 dX8_respond_8 rfl rfl rfl ?_
      refine rn_get 12 (.ref 1) dX8_respond_9 fl_X8_10 rfl rfl rfl rfl ?_
      refine rn_iload_n 13 dX8_respond_12 rfl rfl rfl ?_
      refine rn_cvp mX2_hasAll [.int v3] [] 16 (.int 0) dX8_respond_13 cv_X8_134 rfl rfl rfl (by simp [Value.category]) rfl (c_hasAll_f (d) h hg qq1) ?_
      refine rn_if_eq 28 19 dX8_respond_16 (by decide) rfl (fun _ => ?_) (fun c16 => absurd (by decide) c16)
      refine rn_bipush (v := (-2)) 30 dX8_respond_28 (by decide) rfl ?_
      exact rn_iret rfl dX8_respond_30 (⟨rfl, hs0, fun _ _ => rfl⟩)
  · skip
    refine rn_iload_n 1 dX8_respond_0 rfl rfl rfl ?_
    refine rn_iload_n 2 dX8_respond_1 rfl rfl rfl ?_
    refine rn_csp mX8_areNodes [.int v1, .int v2] [] 5 (.int 0) dX8_respond_2 cs_X8_75 rfl rfl (by simp [Value.category]) rfl (c_areNodes_f (d) mu h qq0) ?_
    refine rn_if_eq 28 8 dX8_respond_5 (by decide) rfl (fun _ => ?_) (fun c5 => absurd (by decide) c5)
    refine rn_bipush (v := (-2)) 30 dX8_respond_28 (by decide) rfl ?_
    exact rn_iret rfl dX8_respond_30 (⟨rfl, hs0, fun _ _ => rfl⟩)

set_option maxRecDepth 100000 in
set_option maxHeartbeats 2000000 in
theorem x_respond_t (d : Nat) {g : List Ed} {a : Nat} {hs : List Sg} {tx : List Nat} {f : Int32} {u v : Nat} (hu : u < 8) (hv : v < 8) {S q : Nat} (hS : S < 2 ^ g.length) (hr : q < 4) : XC mX8_respond (d + 3) [.int (nI u), .int (nI v), .int (nI S), .int (nI q)] (g, a, hs, tx, f) (g, a, hs, tx, f) (.int (nI (xD g S u v q))) := by
  intro mu h hs0
  obtain ⟨hg, ha, hh, ht, hf⟩ := id hs0
  simp only at hg ha hh ht hf
  refine gd_of rfl (Nat.le_of_ble_eq_true rfl) ?_
  show rn_R none mX8_respond (d + 3) 0 [some (.ref 0), some (.int (nI u)), some (.int (nI v)), some (.int (nI S)), some (.int (nI q))] [] mu h (fun r mu' _ => r = some (.int (nI (xD g S u v q))) ∧ xS (g, a, hs, tx, f) mu' ∧ ∀ c, 22 ≤ c → mu' c = mu c)
  have hp := pw_le hg.1
  have ha2 := ha.2
  refine rn_iload_n 1 dX8_respond_0 rfl rfl rfl ?_
  refine rn_iload_n 2 dX8_respond_1 rfl rfl rfl ?_
  refine rn_csp mX8_areNodes [.int (nI u), .int (nI v)] [] 5 (.int 1) dX8_respond_2 cs_X8_75 rfl rfl (by simp [Value.category]) rfl (c_areNodes_t (d + 1) mu h ⟨u, hu, rfl⟩ ⟨v, hv, rfl⟩) ?_
  refine rn_if_eq 28 8 dX8_respond_5 (by decide) rfl (fun c5 => absurd c5 (by decide)) (fun _ => ?_)
  refine rn_aload_n 9 dX8_respond_8 rfl rfl rfl ?_
  refine rn_get 12 (.ref 1) dX8_respond_9 fl_X8_10 rfl rfl rfl rfl ?_
  refine rn_iload_n 13 dX8_respond_12 rfl rfl rfl ?_
  refine rn_cvp mX2_hasAll [.int (nI S)] [] 16 (.int 1) dX8_respond_13 cv_X8_134 rfl rfl rfl (by simp [Value.category]) rfl (c_hasAll_i (d + 1) h hg (⟨S, hS, rfl⟩)) ?_
  refine rn_if_eq 28 19 dX8_respond_16 (by decide) rfl (fun c16 => absurd c16 (by decide)) (fun _ => ?_)
  refine rn_iload 21 dX8_respond_19 rfl rfl ?_
  refine rn_iconst (v := 3) 22 dX8_respond_21 (by decide) rfl ?_
  refine rn_csp mX8_isWithin [.int (nI q), .int 3] [] 25 (.int 1) dX8_respond_22 cs_X8_164 rfl rfl (by simp [Value.category]) rfl (c_isWithin_i (d + 2) mu h (M := 3) (⟨q, hr, rfl⟩) (by omega)) ?_
  refine rn_if_ne 31 28 dX8_respond_25 (by decide) rfl (fun _ => ?_) (fun c25 => absurd c25 (by decide))
  refine rn_aload_n 32 dX8_respond_31 rfl rfl rfl ?_
  refine rn_get 35 (.ref 8) dX8_respond_32 fl_X8_35 rfl rfl rfl rfl ?_
  refine rn_iload_n 36 dX8_respond_35 rfl rfl rfl ?_
  refine rn_iload_n 37 dX8_respond_36 rfl rfl rfl ?_
  refine rn_iload_n 38 dX8_respond_37 rfl rfl rfl ?_
  refine rn_iload 40 dX8_respond_38 rfl rfl ?_
  refine rn_callV mX5_measure [.int (nI u), .int (nI v), .int (nI S), .int (nI q)] [] dX8_respond_40 cv_X8_137 rfl rfl rfl (by simp [Value.category]) (c_measure (d) (S := S) (s := u) (t := v) (rep := q) (by omega) hu hv (by omega) h hg) (fun r1 m1 h1 q1 _ => ?_)
  obtain ⟨e1, R1, W1, f1⟩ := q1
  subst e1
  have hg1 : xg g m1 := xg_fr hg f1
  show rn_R _ mX8_respond _ 43 [some (.ref 0), some (.int (nI u)), some (.int (nI v)), some (.int (nI S)), some (.int (nI q))] [.int (nI (xD g S u v q))] m1 h1 _
  exact rn_iret rfl dX8_respond_43 (⟨rfl, xS_fr hs0 (fun c hc => f1 c (by omega)), fun c hc => f1 c (by omega)⟩)

set_option maxRecDepth 100000 in
set_option maxHeartbeats 2000000 in
theorem m_respond_b (d : Nat) {g : List Ed} {a : Nat} {hs : List Sg} {tx : List Nat} {f : Int32} {v1 v2 v3 v4 : Int32} (hv : ¬ ((isin v1 8 ∧ isin v2 8) ∧ isin v3 (2 ^ g.length) ∧ isin v4 (3 + 1))) : MC mX9_respond (d + 2) [.int v1, .int v2, .int v3, .int v4] (g, a, hs, tx, f) (g, a, hs, tx, f) (.int (-2)) := by
  intro mu h hs0
  obtain ⟨hg, ha, hh, ht, hf⟩ := id hs0
  simp only at hg ha hh ht hf
  refine gd_of rfl (Nat.le_of_ble_eq_true rfl) ?_
  show rn_R none mX9_respond (d + 2) 0 [some (.ref 22), some (.int v1), some (.int v2), some (.int v3), some (.int v4)] [] mu h (fun r mu' _ => r = some (.int (-2)) ∧ mS (g, a, hs, tx, f) mu' ∧ ∀ c, c < 22 → mu' c = mu c)
  by_cases qq0 : isin v1 8 ∧ isin v2 8
  · skip
    by_cases qq1 : isin v3 (2 ^ g.length)
    · skip
      have qq2 : ¬ (isin v4 (3 + 1)) := fun z => hv ⟨qq0, qq1, z⟩
      refine rn_iload_n 1 dX9_respond_0 rfl rfl rfl ?_
      refine rn_iload_n 2 dX9_respond_1 rfl rfl rfl ?_
      refine rn_csp mX9_areNodes [.int v1, .int v2] [] 5 (.int 1) dX9_respond_2 cs_X9_53 rfl rfl (by simp [Value.category]) rfl (c_mareNodes_t (d) mu h qq0.1 qq0.2) ?_
      refine rn_if_eq 26 8 dX9_respond_5 (by decide) rfl (fun c5 => absurd c5 (by decide)) (fun _ => ?_)
      refine rn_aload_n 9 dX9_respond_8 rfl rfl rfl ?_
      refine rn_iload_n 10 dX9_respond_9 rfl rfl rfl ?_
      refine rn_cvp mX9_isSet [.int v3] [] 13 (.int 1) dX9_respond_10 cv_X9_121 rfl rfl rfl (by simp [Value.category]) rfl (c_isSet_i (d + 1) h hg qq1) ?_
      refine rn_if_eq 26 16 dX9_respond_13 (by decide) rfl (fun c13 => absurd c13 (by decide)) (fun _ => ?_)
      refine rn_iload 18 dX9_respond_16 rfl rfl ?_
      refine rn_iconst (v := 0) 19 dX9_respond_18 (by decide) rfl ?_
      refine rn_iconst (v := 3) 20 dX9_respond_19 (by decide) rfl ?_
      refine rn_csp mX9_in [.int v4, .int 0, .int 3] [] 23 (.int 0) dX9_respond_20 cs_X9_38 rfl rfl (by simp [Value.category]) rfl (c_in_f (d + 1) mu h (nisin (n := 3) (by omega) qq2)) ?_
      refine rn_if_ne 29 26 dX9_respond_23 (by decide) rfl (fun c23 => absurd (rfl) c23) (fun _ => ?_)
      refine rn_bipush (v := (-2)) 28 dX9_respond_26 (by decide) rfl ?_
      exact rn_iret rfl dX9_respond_28 (⟨rfl, hs0, fun _ _ => rfl⟩)
    · skip
      refine rn_iload_n 1 dX9_respond_0 rfl rfl rfl ?_
      refine rn_iload_n 2 dX9_respond_1 rfl rfl rfl ?_
      refine rn_csp mX9_areNodes [.int v1, .int v2] [] 5 (.int 1) dX9_respond_2 cs_X9_53 rfl rfl (by simp [Value.category]) rfl (c_mareNodes_t (d) mu h qq0.1 qq0.2) ?_
      refine rn_if_eq 26 8 dX9_respond_5 (by decide) rfl (fun c5 => absurd c5 (by decide)) (fun _ => ?_)
      refine rn_aload_n 9 dX9_respond_8 rfl rfl rfl ?_
      refine rn_iload_n 10 dX9_respond_9 rfl rfl rfl ?_
      refine rn_cvp mX9_isSet [.int v3] [] 13 (.int 0) dX9_respond_10 cv_X9_121 rfl rfl rfl (by simp [Value.category]) rfl (c_isSet_f (d + 1) h hg qq1) ?_
      refine rn_if_eq 26 16 dX9_respond_13 (by decide) rfl (fun _ => ?_) (fun c13 => absurd (by decide) c13)
      refine rn_bipush (v := (-2)) 28 dX9_respond_26 (by decide) rfl ?_
      exact rn_iret rfl dX9_respond_28 (⟨rfl, hs0, fun _ _ => rfl⟩)
  · skip
    refine rn_iload_n 1 dX9_respond_0 rfl rfl rfl ?_
    refine rn_iload_n 2 dX9_respond_1 rfl rfl rfl ?_
    refine rn_csp mX9_areNodes [.int v1, .int v2] [] 5 (.int 0) dX9_respond_2 cs_X9_53 rfl rfl (by simp [Value.category]) rfl (c_mareNodes_f (d) mu h qq0) ?_
    refine rn_if_eq 26 8 dX9_respond_5 (by decide) rfl (fun _ => ?_) (fun c5 => absurd (by decide) c5)
    refine rn_bipush (v := (-2)) 28 dX9_respond_26 (by decide) rfl ?_
    exact rn_iret rfl dX9_respond_28 (⟨rfl, hs0, fun _ _ => rfl⟩)

set_option maxRecDepth 100000 in
set_option maxHeartbeats 2000000 in
theorem m_respond_t (d : Nat) {g : List Ed} {a : Nat} {hs : List Sg} {tx : List Nat} {f : Int32} {u v : Nat} (hu : u < 8) (hv : v < 8) {S q : Nat} (hS : S < 2 ^ g.length) (hr : q < 4) : MC mX9_respond (d + 5) [.int (nI u), .int (nI v), .int (nI S), .int (nI q)] (g, a, hs, tx, f) (g, a, hs, tx, f) (.int (nI (xD g S u v q))) := by
  intro mu h hs0
  obtain ⟨hg, ha, hh, ht, hf⟩ := id hs0
  simp only at hg ha hh ht hf
  refine gd_of rfl (Nat.le_of_ble_eq_true rfl) ?_
  show rn_R none mX9_respond (d + 5) 0 [some (.ref 22), some (.int (nI u)), some (.int (nI v)), some (.int (nI S)), some (.int (nI q))] [] mu h (fun r mu' _ => r = some (.int (nI (xD g S u v q))) ∧ mS (g, a, hs, tx, f) mu' ∧ ∀ c, c < 22 → mu' c = mu c)
  have hp := pw_le hg.1
  have ha2 := ha.2
  refine rn_iload_n 1 dX9_respond_0 rfl rfl rfl ?_
  refine rn_iload_n 2 dX9_respond_1 rfl rfl rfl ?_
  refine rn_csp mX9_areNodes [.int (nI u), .int (nI v)] [] 5 (.int 1) dX9_respond_2 cs_X9_53 rfl rfl (by simp [Value.category]) rfl (c_mareNodes_t (d + 3) mu h ⟨u, hu, rfl⟩ ⟨v, hv, rfl⟩) ?_
  refine rn_if_eq 26 8 dX9_respond_5 (by decide) rfl (fun c5 => absurd c5 (by decide)) (fun _ => ?_)
  refine rn_aload_n 9 dX9_respond_8 rfl rfl rfl ?_
  refine rn_iload_n 10 dX9_respond_9 rfl rfl rfl ?_
  refine rn_cvp mX9_isSet [.int (nI S)] [] 13 (.int 1) dX9_respond_10 cv_X9_121 rfl rfl rfl (by simp [Value.category]) rfl (c_isSet_i (d + 4) h hg (⟨S, hS, rfl⟩)) ?_
  refine rn_if_eq 26 16 dX9_respond_13 (by decide) rfl (fun c13 => absurd c13 (by decide)) (fun _ => ?_)
  refine rn_iload 18 dX9_respond_16 rfl rfl ?_
  refine rn_iconst (v := 0) 19 dX9_respond_18 (by decide) rfl ?_
  refine rn_iconst (v := 3) 20 dX9_respond_19 (by decide) rfl ?_
  refine rn_csp mX9_in [.int (nI q), .int 0, .int 3] [] 23 (.int 1) dX9_respond_20 cs_X9_38 rfl rfl (by simp [Value.category]) rfl (c_in_i (d + 4) mu h (M := 3) (⟨q, hr, rfl⟩) (by omega)) ?_
  refine rn_if_ne 29 26 dX9_respond_23 (by decide) rfl (fun _ => ?_) (fun c23 => absurd c23 (by decide))
  refine rn_aload_n 30 dX9_respond_29 rfl rfl rfl ?_
  refine rn_iload_n 31 dX9_respond_30 rfl rfl rfl ?_
  refine rn_iload_n 32 dX9_respond_31 rfl rfl rfl ?_
  refine rn_iload_n 33 dX9_respond_32 rfl rfl rfl ?_
  refine rn_iload 35 dX9_respond_33 rfl rfl ?_
  refine rn_callV mX9_far [.int (nI u), .int (nI v), .int (nI S), .int (nI q)] [] dX9_respond_35 cv_X9_134 rfl rfl rfl (by simp [Value.category]) (c_far (d) (S := S) (s := u) (t := v) (rep := q) (by omega) hu hv (by omega) h hg) (fun r1 m1 h1 q1 _ => ?_)
  obtain ⟨e1, k1, f1⟩ := q1
  rw [e1, k1]
  have hg1 : mg g m1 := mg_of hg (f1 23 (by omega))
  show rn_R _ mX9_respond _ 38 [some (.ref 22), some (.int (nI u)), some (.int (nI v)), some (.int (nI S)), some (.int (nI q))] [.int (nI (xD g S u v q))] m1 h _
  exact rn_iret rfl dX9_respond_38 (⟨rfl, mS_fr hs0 (fun c c1 c2 => f1 c (by omega)), fun c hc => f1 c (by omega)⟩)

set_option maxRecDepth 100000 in
set_option maxHeartbeats 2000000 in
theorem x_worth_b (d : Nat) {g : List Ed} {a : Nat} {hs : List Sg} {tx : List Nat} {f : Int32} {v1 v2 v3 : Int32} (hv : ¬ ((isin v1 8 ∧ isin v2 8) ∧ isin v3 g.length)) : XC mX8_worth (d + 2) [.int v1, .int v2, .int v3] (g, a, hs, tx, f) (g, a, hs, tx, f) (.int (-2)) := by
  intro mu h hs0
  obtain ⟨hg, ha, hh, ht, hf⟩ := id hs0
  simp only at hg ha hh ht hf
  refine gd_of rfl (Nat.le_of_ble_eq_true rfl) ?_
  show rn_R none mX8_worth (d + 2) 0 [some (.ref 0), some (.int v1), some (.int v2), some (.int v3), none, none] [] mu h (fun r mu' _ => r = some (.int (-2)) ∧ xS (g, a, hs, tx, f) mu' ∧ ∀ c, 22 ≤ c → mu' c = mu c)
  by_cases qq0 : isin v1 8 ∧ isin v2 8
  · skip
    have qq1 : ¬ (isin v3 g.length) := fun z => hv ⟨qq0, z⟩
    refine rn_iload_n 1 dX8_worth_0 rfl rfl rfl ?_
    refine rn_iload_n 2 dX8_worth_1 rfl rfl rfl ?_
    refine rn_csp mX8_areNodes [.int v1, .int v2] [] 5 (.int 1) dX8_worth_2 cs_X8_75 rfl rfl (by simp [Value.category]) rfl (c_areNodes_t (d) mu h qq0.1 qq0.2) ?_
    refine rn_if_eq 19 8 dX8_worth_5 (by decide) rfl (fun c5 => absurd c5 (by decide)) (fun _ => ?_)
    refine rn_aload_n 9 dX8_worth_8 rfl rfl rfl ?_
    refine rn_get 12 (.ref 1) dX8_worth_9 fl_X8_10 rfl rfl rfl rfl ?_
    refine rn_iload_n 13 dX8_worth_12 rfl rfl rfl ?_
    refine rn_cvp mX2_has [.int v3] [] 16 (.int 0) dX8_worth_13 cv_X8_96 rfl rfl rfl (by simp [Value.category]) rfl (c_has_f (d + 1) h hg qq1) ?_
    refine rn_if_ne 22 19 dX8_worth_16 (by decide) rfl (fun c16 => absurd (rfl) c16) (fun _ => ?_)
    refine rn_bipush (v := (-2)) 21 dX8_worth_19 (by decide) rfl ?_
    exact rn_iret rfl dX8_worth_21 (⟨rfl, hs0, fun _ _ => rfl⟩)
  · skip
    refine rn_iload_n 1 dX8_worth_0 rfl rfl rfl ?_
    refine rn_iload_n 2 dX8_worth_1 rfl rfl rfl ?_
    refine rn_csp mX8_areNodes [.int v1, .int v2] [] 5 (.int 0) dX8_worth_2 cs_X8_75 rfl rfl (by simp [Value.category]) rfl (c_areNodes_f (d) mu h qq0) ?_
    refine rn_if_eq 19 8 dX8_worth_5 (by decide) rfl (fun _ => ?_) (fun c5 => absurd (by decide) c5)
    refine rn_bipush (v := (-2)) 21 dX8_worth_19 (by decide) rfl ?_
    exact rn_iret rfl dX8_worth_21 (⟨rfl, hs0, fun _ _ => rfl⟩)

set_option maxRecDepth 100000 in
set_option maxHeartbeats 2000000 in
theorem x_worth_t (d : Nat) {g : List Ed} {a : Nat} {hs : List Sg} {tx : List Nat} {f : Int32} {u v : Nat} (hu : u < 8) (hv : v < 8) {e : Nat} (he : e < g.length) : XC mX8_worth (d + 3) [.int (nI u), .int (nI v), .int (nI e)] (g, a, hs, tx, f) (g, a, hs, tx, f) (.int (nI (xD g (a ||| 2 ^ e) u v 0) - nI (xD g (nd a (2 ^ e)) u v 0))) := by
  intro mu h hs0
  obtain ⟨hg, ha, hh, ht, hf⟩ := id hs0
  simp only at hg ha hh ht hf
  refine gd_of rfl (Nat.le_of_ble_eq_true rfl) ?_
  show rn_R none mX8_worth (d + 3) 0 [some (.ref 0), some (.int (nI u)), some (.int (nI v)), some (.int (nI e)), none, none] [] mu h (fun r mu' _ => r = some (.int (nI (xD g (a ||| 2 ^ e) u v 0) - nI (xD g (nd a (2 ^ e)) u v 0))) ∧ xS (g, a, hs, tx, f) mu' ∧ ∀ c, 22 ≤ c → mu' c = mu c)
  have hp := pw_le hg.1
  have ha2 := ha.2
  have h16 := hg.1
  have hS1 : a ||| 2 ^ e < 2 ^ g.length := tb_add_lt ha.2 he
  have hS2 : nd a (2 ^ e) < 2 ^ g.length := nd_lt ha.2
  refine rn_iload_n 1 dX8_worth_0 rfl rfl rfl ?_
  refine rn_iload_n 2 dX8_worth_1 rfl rfl rfl ?_
  refine rn_csp mX8_areNodes [.int (nI u), .int (nI v)] [] 5 (.int 1) dX8_worth_2 cs_X8_75 rfl rfl (by simp [Value.category]) rfl (c_areNodes_t (d + 1) mu h ⟨u, hu, rfl⟩ ⟨v, hv, rfl⟩) ?_
  refine rn_if_eq 19 8 dX8_worth_5 (by decide) rfl (fun c5 => absurd c5 (by decide)) (fun _ => ?_)
  refine rn_aload_n 9 dX8_worth_8 rfl rfl rfl ?_
  refine rn_get 12 (.ref 1) dX8_worth_9 fl_X8_10 rfl rfl rfl rfl ?_
  refine rn_iload_n 13 dX8_worth_12 rfl rfl rfl ?_
  refine rn_cvp mX2_has [.int (nI e)] [] 16 (.int 1) dX8_worth_13 cv_X8_96 rfl rfl rfl (by simp [Value.category]) rfl (c_has_i (d + 2) h hg (⟨e, he, rfl⟩)) ?_
  refine rn_if_ne 22 19 dX8_worth_16 (by decide) rfl (fun _ => ?_) (fun c16 => absurd c16 (by decide))
  refine rn_aload_n 23 dX8_worth_22 rfl rfl rfl ?_
  refine rn_get 26 (.ref 1) dX8_worth_23 fl_X8_10 rfl rfl rfl rfl ?_
  refine rn_get 29 (.int (mu 1 2)) dX8_worth_26 fl_X8_111 rfl rfl rfl rfl ?_
  refine rn_iconst (v := 1) 30 dX8_worth_29 (by decide) rfl ?_
  refine rn_iload_n 31 dX8_worth_30 rfl rfl rfl ?_
  refine rn_ishl 32 dX8_worth_31 rfl ?_
  refine rn_ior 33 dX8_worth_32 rfl ?_
  rw [ha.1, nb_1 (by omega), nb_or]
  refine rn_istore 35 [some (.ref 0), some (.int (nI u)), some (.int (nI v)), some (.int (nI e)), some (.int (nI (a ||| 2 ^ e))), none] dX8_worth_33 rfl (Nat.le_of_ble_eq_true rfl) rfl ?_
  refine rn_aload_n 36 dX8_worth_35 rfl rfl rfl ?_
  refine rn_get 39 (.ref 1) dX8_worth_36 fl_X8_10 rfl rfl rfl rfl ?_
  refine rn_get 42 (.int (mu 1 2)) dX8_worth_39 fl_X8_111 rfl rfl rfl rfl ?_
  refine rn_iconst (v := 1) 43 dX8_worth_42 (by decide) rfl ?_
  refine rn_iload_n 44 dX8_worth_43 rfl rfl rfl ?_
  refine rn_ishl 45 dX8_worth_44 rfl ?_
  refine rn_iconst (v := (-1)) 46 dX8_worth_45 (by decide) rfl ?_
  refine rn_ixor 47 dX8_worth_46 rfl ?_
  refine rn_iand 48 dX8_worth_47 rfl ?_
  rw [ha.1, nb_1 (by omega), nb_andn]
  refine rn_istore 50 [some (.ref 0), some (.int (nI u)), some (.int (nI v)), some (.int (nI e)), some (.int (nI (a ||| 2 ^ e))), some (.int (nI (nd a (2 ^ e))))] dX8_worth_48 rfl (Nat.le_of_ble_eq_true rfl) rfl ?_
  refine rn_aload_n 51 dX8_worth_50 rfl rfl rfl ?_
  refine rn_get 54 (.ref 8) dX8_worth_51 fl_X8_35 rfl rfl rfl rfl ?_
  refine rn_iload_n 55 dX8_worth_54 rfl rfl rfl ?_
  refine rn_iload_n 56 dX8_worth_55 rfl rfl rfl ?_
  refine rn_iload 58 dX8_worth_56 rfl rfl ?_
  refine rn_iconst (v := 0) 59 dX8_worth_58 (by decide) rfl ?_
  refine rn_callV mX5_measure [.int (nI u), .int (nI v), .int (nI (a ||| 2 ^ e)), .int 0] [] dX8_worth_59 cv_X8_137 rfl rfl rfl (by simp [Value.category]) (c_measure (d) (S := a ||| 2 ^ e) (s := u) (t := v) (rep := 0) (by omega) hu hv (by omega) h hg) (fun r1 m1 h1 q1 _ => ?_)
  obtain ⟨e1, R1, W1, f1⟩ := q1
  subst e1
  have hg1 : xg g m1 := xg_fr hg f1
  show rn_R _ mX8_worth _ 62 [some (.ref 0), some (.int (nI u)), some (.int (nI v)), some (.int (nI e)), some (.int (nI (a ||| 2 ^ e))), some (.int (nI (nd a (2 ^ e))))] [.int (nI (xD g (a ||| 2 ^ e) u v 0))] m1 h1 _
  refine rn_aload_n 63 dX8_worth_62 rfl rfl rfl ?_
  refine rn_get 66 (.ref 8) dX8_worth_63 fl_X8_35 rfl rfl rfl rfl ?_
  refine rn_iload_n 67 dX8_worth_66 rfl rfl rfl ?_
  refine rn_iload_n 68 dX8_worth_67 rfl rfl rfl ?_
  refine rn_iload 70 dX8_worth_68 rfl rfl ?_
  refine rn_iconst (v := 0) 71 dX8_worth_70 (by decide) rfl ?_
  refine rn_callV mX5_measure [.int (nI u), .int (nI v), .int (nI (nd a (2 ^ e))), .int 0] [.int (nI (xD g (a ||| 2 ^ e) u v 0))] dX8_worth_71 cv_X8_137 rfl rfl rfl (by simp [Value.category]) (c_measure (d) (S := nd a (2 ^ e)) (s := u) (t := v) (rep := 0) (by omega) hu hv (by omega) h1 hg1) (fun r2 m2 h2 q2 _ => ?_)
  obtain ⟨e2, R2, W2, f2⟩ := q2
  subst e2
  have hg2 : xg g m2 := xg_fr hg1 f2
  show rn_R _ mX8_worth _ 74 [some (.ref 0), some (.int (nI u)), some (.int (nI v)), some (.int (nI e)), some (.int (nI (a ||| 2 ^ e))), some (.int (nI (nd a (2 ^ e))))] [.int (nI (xD g (nd a (2 ^ e)) u v 0)), .int (nI (xD g (a ||| 2 ^ e) u v 0))] m2 h2 _
  refine rn_isub 75 dX8_worth_74 rfl ?_
  exact rn_iret rfl dX8_worth_75 (⟨rfl, xS_fr hs0 (fun c hc => by rw [f2 c (by omega), f1 c (by omega)]), fun c hc => by rw [f2 c (by omega), f1 c (by omega)]⟩)

theorem nd_or (a b : Nat) : nd (a ||| b) b = nd a b := by
  refine tb_ext (fun i => ?_)
  rw [nd_bit, nd_bit, Nat.testBit_or]
  cases a.testBit i <;> cases b.testBit i <;> rfl

set_option maxRecDepth 100000 in
set_option maxHeartbeats 2000000 in
theorem m_worth_b (d : Nat) {g : List Ed} {a : Nat} {hs : List Sg} {tx : List Nat} {f : Int32} {v1 v2 v3 : Int32} (hv : ¬ ((isin v1 8 ∧ isin v2 8) ∧ isin v3 g.length)) : MC mX9_worth (d + 2) [.int v1, .int v2, .int v3] (g, a, hs, tx, f) (g, a, hs, tx, f) (.int (-2)) := by
  intro mu h hs0
  obtain ⟨hg, ha, hh, ht, hf⟩ := id hs0
  simp only at hg ha hh ht hf
  refine gd_of rfl (Nat.le_of_ble_eq_true rfl) ?_
  show rn_R none mX9_worth (d + 2) 0 [some (.ref 22), some (.int v1), some (.int v2), some (.int v3), none] [] mu h (fun r mu' _ => r = some (.int (-2)) ∧ mS (g, a, hs, tx, f) mu' ∧ ∀ c, c < 22 → mu' c = mu c)
  by_cases qq0 : isin v1 8 ∧ isin v2 8
  · skip
    have qq1 : ¬ (isin v3 g.length) := fun z => hv ⟨qq0, z⟩
    refine rn_iload_n 1 dX9_worth_0 rfl rfl rfl ?_
    refine rn_iload_n 2 dX9_worth_1 rfl rfl rfl ?_
    refine rn_csp mX9_areNodes [.int v1, .int v2] [] 5 (.int 1) dX9_worth_2 cs_X9_53 rfl rfl (by simp [Value.category]) rfl (c_mareNodes_t (d) mu h qq0.1 qq0.2) ?_
    refine rn_if_eq 16 8 dX9_worth_5 (by decide) rfl (fun c5 => absurd c5 (by decide)) (fun _ => ?_)
    refine rn_aload_n 9 dX9_worth_8 rfl rfl rfl ?_
    refine rn_iload_n 10 dX9_worth_9 rfl rfl rfl ?_
    refine rn_cvp mX9_isEdge [.int v3] [] 13 (.int 0) dX9_worth_10 cv_X9_66 rfl rfl rfl (by simp [Value.category]) rfl (c_isEdge_f (d) h hg qq1) ?_
    refine rn_if_ne 19 16 dX9_worth_13 (by decide) rfl (fun c13 => absurd (rfl) c13) (fun _ => ?_)
    refine rn_bipush (v := (-2)) 18 dX9_worth_16 (by decide) rfl ?_
    exact rn_iret rfl dX9_worth_18 (⟨rfl, hs0, fun _ _ => rfl⟩)
  · skip
    refine rn_iload_n 1 dX9_worth_0 rfl rfl rfl ?_
    refine rn_iload_n 2 dX9_worth_1 rfl rfl rfl ?_
    refine rn_csp mX9_areNodes [.int v1, .int v2] [] 5 (.int 0) dX9_worth_2 cs_X9_53 rfl rfl (by simp [Value.category]) rfl (c_mareNodes_f (d) mu h qq0) ?_
    refine rn_if_eq 16 8 dX9_worth_5 (by decide) rfl (fun _ => ?_) (fun c5 => absurd (by decide) c5)
    refine rn_bipush (v := (-2)) 18 dX9_worth_16 (by decide) rfl ?_
    exact rn_iret rfl dX9_worth_18 (⟨rfl, hs0, fun _ _ => rfl⟩)

set_option maxRecDepth 100000 in
set_option maxHeartbeats 2000000 in
theorem m_worth_t (d : Nat) {g : List Ed} {a : Nat} {hs : List Sg} {tx : List Nat} {f : Int32} {u v : Nat} (hu : u < 8) (hv : v < 8) {e : Nat} (he : e < g.length) : MC mX9_worth (d + 5) [.int (nI u), .int (nI v), .int (nI e)] (g, a, hs, tx, f) (g, a, hs, tx, f) (.int (nI (xD g (a ||| 2 ^ e) u v 0) - nI (xD g (nd a (2 ^ e)) u v 0))) := by
  intro mu h hs0
  obtain ⟨hg, ha, hh, ht, hf⟩ := id hs0
  simp only at hg ha hh ht hf
  refine gd_of rfl (Nat.le_of_ble_eq_true rfl) ?_
  show rn_R none mX9_worth (d + 5) 0 [some (.ref 22), some (.int (nI u)), some (.int (nI v)), some (.int (nI e)), none] [] mu h (fun r mu' _ => r = some (.int (nI (xD g (a ||| 2 ^ e) u v 0) - nI (xD g (nd a (2 ^ e)) u v 0))) ∧ mS (g, a, hs, tx, f) mu' ∧ ∀ c, c < 22 → mu' c = mu c)
  have hp := pw_le hg.1
  have ha2 := ha.2
  have h16 := hg.1
  have hS1 : a ||| 2 ^ e < 2 ^ g.length := tb_add_lt ha.2 he
  have hS2 : nd a (2 ^ e) < 2 ^ g.length := nd_lt ha.2
  refine rn_iload_n 1 dX9_worth_0 rfl rfl rfl ?_
  refine rn_iload_n 2 dX9_worth_1 rfl rfl rfl ?_
  refine rn_csp mX9_areNodes [.int (nI u), .int (nI v)] [] 5 (.int 1) dX9_worth_2 cs_X9_53 rfl rfl (by simp [Value.category]) rfl (c_mareNodes_t (d + 3) mu h ⟨u, hu, rfl⟩ ⟨v, hv, rfl⟩) ?_
  refine rn_if_eq 16 8 dX9_worth_5 (by decide) rfl (fun c5 => absurd c5 (by decide)) (fun _ => ?_)
  refine rn_aload_n 9 dX9_worth_8 rfl rfl rfl ?_
  refine rn_iload_n 10 dX9_worth_9 rfl rfl rfl ?_
  refine rn_cvp mX9_isEdge [.int (nI e)] [] 13 (.int 1) dX9_worth_10 cv_X9_66 rfl rfl rfl (by simp [Value.category]) rfl (c_isEdge_i (d + 3) h hg (⟨e, he, rfl⟩)) ?_
  refine rn_if_ne 19 16 dX9_worth_13 (by decide) rfl (fun _ => ?_) (fun c13 => absurd c13 (by decide))
  refine rn_aload_n 20 dX9_worth_19 rfl rfl rfl ?_
  refine rn_get 23 (.ref 23) dX9_worth_20 fl_X9_7 rfl rfl rfl rfl ?_
  refine rn_bipush (v := 81) 25 dX9_worth_23 (by decide) rfl ?_
  refine rn_iald 26 (mu 23 81) dX9_worth_25 rfl (vp_in_nI (n := 81) (by decide) (by decide)) rfl rfl ?_
  refine rn_iconst (v := 1) 27 dX9_worth_26 (by decide) rfl ?_
  refine rn_iload_n 28 dX9_worth_27 rfl rfl rfl ?_
  refine rn_ishl 29 dX9_worth_28 rfl ?_
  refine rn_ior 30 dX9_worth_29 rfl ?_
  rw [ha.1, nb_1 (by omega), nb_or]
  refine rn_istore 32 [some (.ref 22), some (.int (nI u)), some (.int (nI v)), some (.int (nI e)), some (.int (nI (a ||| 2 ^ e)))] dX9_worth_30 rfl (Nat.le_of_ble_eq_true rfl) rfl ?_
  refine rn_aload_n 33 dX9_worth_32 rfl rfl rfl ?_
  refine rn_iload_n 34 dX9_worth_33 rfl rfl rfl ?_
  refine rn_iload_n 35 dX9_worth_34 rfl rfl rfl ?_
  refine rn_iload 37 dX9_worth_35 rfl rfl ?_
  refine rn_iconst (v := 0) 38 dX9_worth_37 (by decide) rfl ?_
  refine rn_callV mX9_far [.int (nI u), .int (nI v), .int (nI (a ||| 2 ^ e)), .int 0] [] dX9_worth_38 cv_X9_134 rfl rfl rfl (by simp [Value.category]) (c_far (d) (S := a ||| 2 ^ e) (s := u) (t := v) (rep := 0) (by omega) hu hv (by omega) h hg) (fun r1 m1 h1 q1 _ => ?_)
  obtain ⟨e1, k1, f1⟩ := q1
  rw [e1, k1]
  have hg1 : mg g m1 := mg_of hg (f1 23 (by omega))
  show rn_R _ mX9_worth _ 41 [some (.ref 22), some (.int (nI u)), some (.int (nI v)), some (.int (nI e)), some (.int (nI (a ||| 2 ^ e)))] [.int (nI (xD g (a ||| 2 ^ e) u v 0))] m1 h _
  refine rn_aload_n 42 dX9_worth_41 rfl rfl rfl ?_
  refine rn_iload_n 43 dX9_worth_42 rfl rfl rfl ?_
  refine rn_iload_n 44 dX9_worth_43 rfl rfl rfl ?_
  refine rn_iload 46 dX9_worth_44 rfl rfl ?_
  refine rn_iconst (v := 1) 47 dX9_worth_46 (by decide) rfl ?_
  refine rn_iload_n 48 dX9_worth_47 rfl rfl rfl ?_
  refine rn_ishl 49 dX9_worth_48 rfl ?_
  refine rn_iconst (v := (-1)) 50 dX9_worth_49 (by decide) rfl ?_
  refine rn_ixor 51 dX9_worth_50 rfl ?_
  refine rn_iand 52 dX9_worth_51 rfl ?_
  rw [nb_1 (by omega), nb_andn, nd_or]
  refine rn_iconst (v := 0) 53 dX9_worth_52 (by decide) rfl ?_
  refine rn_callV mX9_far [.int (nI u), .int (nI v), .int (nI (nd a (2 ^ e))), .int 0] [.int (nI (xD g (a ||| 2 ^ e) u v 0))] dX9_worth_53 cv_X9_134 rfl rfl rfl (by simp [Value.category]) (c_far (d) (S := nd a (2 ^ e)) (s := u) (t := v) (rep := 0) (by omega) hu hv (by omega) h hg1) (fun r2 m2 h2 q2 _ => ?_)
  obtain ⟨e2, k2, f2⟩ := q2
  rw [e2, k2]
  have hg2 : mg g m2 := mg_of hg1 (f2 23 (by omega))
  show rn_R _ mX9_worth _ 56 [some (.ref 22), some (.int (nI u)), some (.int (nI v)), some (.int (nI e)), some (.int (nI (a ||| 2 ^ e)))] [.int (nI (xD g (nd a (2 ^ e)) u v 0)), .int (nI (xD g (a ||| 2 ^ e) u v 0))] m2 h _
  refine rn_isub 57 dX9_worth_56 rfl ?_
  exact rn_iret rfl dX9_worth_57 (⟨rfl, mS_fr hs0 (fun c c1 c2 => by rw [f2 c (by omega), f1 c (by omega)]), fun c hc => by rw [f2 c (by omega), f1 c (by omega)]⟩)

theorem op_distance (v1 v2 : Int32) : OP mX8_distance mX9_distance [.int v1, .int v2] := by
  rintro ⟨g, a, hs, tx, f⟩
  by_cases hv : isin v1 8 ∧ isin v2 8
  · obtain ⟨⟨u, hu, rfl⟩, v, hv, rfl⟩ := hv
    exact ⟨_, _, x_distance_t 97 hu hv, m_distance_t 95 hu hv⟩
  · exact ⟨_, _, x_distance_b 98 hv, m_distance_b 98 hv⟩
theorem op_respond (v1 v2 v3 v4 : Int32) : OP mX8_respond mX9_respond [.int v1, .int v2, .int v3, .int v4] := by
  rintro ⟨g, a, hs, tx, f⟩
  by_cases hv : (isin v1 8 ∧ isin v2 8) ∧ isin v3 (2 ^ g.length) ∧ isin v4 (3 + 1)
  · obtain ⟨⟨⟨u, hu, rfl⟩, v, hv, rfl⟩, ⟨S, hS, rfl⟩, r, hr, rfl⟩ := hv
    exact ⟨_, _, x_respond_t 97 hu hv hS hr, m_respond_t 95 hu hv hS hr⟩
  · exact ⟨_, _, x_respond_b 98 hv, m_respond_b 98 hv⟩
theorem op_worth (v1 v2 v3 : Int32) : OP mX8_worth mX9_worth [.int v1, .int v2, .int v3] := by
  rintro ⟨g, a, hs, tx, f⟩
  by_cases hv : (isin v1 8 ∧ isin v2 8) ∧ isin v3 g.length
  · obtain ⟨⟨⟨u, hu, rfl⟩, v, hv, rfl⟩, e, he, rfl⟩ := hv
    exact ⟨_, _, x_worth_t 97 hu hv he, m_worth_t 95 hu hv he⟩
  · exact ⟨_, _, x_worth_b 98 hv, m_worth_b 98 hv⟩
