/-! THE CLASS's CALLS: the graph -/
theorem xS_g {g g' : List Ed} {a a' : Nat} {hs : List Sg} {tx : List Nat} {f : Int32} {mu mu' : Nat → Nat → Int32} (h : xS (g, a, hs, tx, f) mu) (hg' : xg g' mu') (ha' : xa g' a' mu') (fr : ∀ c, c ≠ 1 → c ≠ 2 → mu' c = mu c) : xS (g', a', hs, tx, f) mu' := by
  obtain ⟨h1, h2, h3, h4, h5⟩ := h
  simp only at h1 h2 h3 h4 h5
  have e0 := fr 0 (by omega) (by omega)
  have e5 := fr 5 (by omega) (by omega)
  exact ⟨hg', ha', xh_of h3 (fr 3 (by omega) (by omega)) (fr 4 (by omega) (by omega)), xt_of h4 (by rw [e5]) (fr 6 (by omega) (by omega)), by rw [e0]; exact h5⟩
/-- an edge given by five numbers -/
def vE (f t l y c : Int32) (x : Ed) : Prop := f = nI x.1 ∧ t = nI x.2.1 ∧ l = nI x.2.2.1 ∧ y = nI x.2.2.2.1 ∧ c = nI x.2.2.2.2 ∧ e_ok x ∧ x.1 ≠ x.2.1
theorem eS_ok {x : Ed} (hx : e_ok x) {w v : Nat} (hv : (w = 2 ∧ v ≤ 99) ∨ (w = 3 ∧ 1 ≤ v ∧ v ≤ 100) ∨ (w = 4 ∧ 1 ≤ v ∧ v ≤ 9)) : e_ok (eS x w v) := by
  obtain ⟨h1, h2, h3, h4, h5, h6⟩ := hx
  rcases hv with ⟨rfl, q⟩ | ⟨rfl, q, q2⟩ | ⟨rfl, q, q2⟩
  · exact ⟨h1, h2, by show v < 100; omega, h4, h5, h6⟩
  · exact ⟨h1, h2, h3, ⟨q, q2⟩, h5, h6⟩
  · exact ⟨h1, h2, h3, h4, q, q2⟩

set_option maxRecDepth 100000 in
set_option maxHeartbeats 2000000 in
theorem x_addEdge_b (d : Nat) {g : List Ed} {a : Nat} {hs : List Sg} {tx : List Nat} {f : Int32} {v1 v2 v3 v4 v5 : Int32} (hv : ¬ ∃ x, vE v1 v2 v3 v4 v5 x) : XC mX8_addEdge (d + 2) [.int v1, .int v2, .int v3, .int v4, .int v5] (g, a, hs, tx, f) (g, a, hs, tx, f) (.int (-2)) := by
  intro mu h hs0
  obtain ⟨hg, ha, hh, ht, hf⟩ := id hs0
  simp only at hg ha hh ht hf
  refine gd_of rfl (Nat.le_of_ble_eq_true rfl) ?_
  show rn_R none mX8_addEdge (d + 2) 0 [some (.ref 0), some (.int v1), some (.int v2), some (.int v3), some (.int v4), some (.int v5)] [] mu h (fun r mu' _ => r = some (.int (-2)) ∧ xS (g, a, hs, tx, f) mu' ∧ ∀ c, 22 ≤ c → mu' c = mu c)
  by_cases q1 : isin v1 8 ∧ isin v2 8
  · skip
    by_cases q2 : v1 = v2
    · skip
      refine rn_iload_n 1 dX8_addEdge_0 rfl rfl rfl ?_
      refine rn_iload_n 2 dX8_addEdge_1 rfl rfl rfl ?_
      refine rn_csp mX8_areNodes [.int v1, .int v2] [] 5 (.int 1) dX8_addEdge_2 cs_X8_75 rfl rfl (by simp [Value.category]) rfl (c_areNodes_t d mu h q1.1 q1.2) ?_
      refine rn_if_eq 13 8 dX8_addEdge_5 (by decide) rfl (fun c5 => absurd c5 (by decide)) (fun _ => ?_)
      refine rn_iload_n 9 dX8_addEdge_8 rfl rfl rfl ?_
      refine rn_iload_n 10 dX8_addEdge_9 rfl rfl rfl ?_
      refine rn_icmp_ne 16 13 dX8_addEdge_10 (by decide) rfl (fun c10 => absurd (q2) c10) (fun _ => ?_)
      refine rn_bipush (v := (-2)) 15 dX8_addEdge_13 (by decide) rfl ?_
      exact rn_iret rfl dX8_addEdge_15 (⟨rfl, hs0, fun _ _ => rfl⟩)
    · skip
      by_cases q3 : okV 2 v3
      · skip
        by_cases q4 : okV 3 v4
        · skip
          have q5 : ¬ okV 4 v5 := fun q5 => by
            obtain ⟨⟨k1, l1, rfl⟩, k2, l2, rfl⟩ := q1
            rcases q3 with ⟨-, k3, l3, rfl⟩ | ⟨q, -⟩ | ⟨q, -⟩
            · rcases q4 with ⟨q, -⟩ | ⟨-, k4, l4, l4b, rfl⟩ | ⟨q, -⟩
              · exact absurd q (by decide)
              · rcases q5 with ⟨q, -⟩ | ⟨q, -⟩ | ⟨-, k5, l5, l5b, rfl⟩
                · exact absurd q (by decide)
                · exact absurd q (by decide)
                · exact hv ⟨(k1, k2, k3, k4, k5), rfl, rfl, rfl, rfl, rfl, ⟨l1, l2, l3, ⟨l4, l4b⟩, l5, l5b⟩, fun z => q2 (congrArg nI z)⟩
              · exact absurd q (by decide)
            · exact absurd q (by decide)
            · exact absurd q (by decide)
          refine rn_iload_n 1 dX8_addEdge_0 rfl rfl rfl ?_
          refine rn_iload_n 2 dX8_addEdge_1 rfl rfl rfl ?_
          refine rn_csp mX8_areNodes [.int v1, .int v2] [] 5 (.int 1) dX8_addEdge_2 cs_X8_75 rfl rfl (by simp [Value.category]) rfl (c_areNodes_t d mu h q1.1 q1.2) ?_
          refine rn_if_eq 13 8 dX8_addEdge_5 (by decide) rfl (fun c5 => absurd c5 (by decide)) (fun _ => ?_)
          refine rn_iload_n 9 dX8_addEdge_8 rfl rfl rfl ?_
          refine rn_iload_n 10 dX8_addEdge_9 rfl rfl rfl ?_
          refine rn_icmp_ne 16 13 dX8_addEdge_10 (by decide) rfl (fun _ => ?_) (fun c10 => absurd c10 (q2))
          refine rn_iconst (v := 2) 17 dX8_addEdge_16 (by decide) rfl ?_
          refine rn_iload_n 18 dX8_addEdge_17 rfl rfl rfl ?_
          refine rn_csp mX2_isValue [.int 2, .int v3] [] 21 (.int 1) dX8_addEdge_18 cs_X8_79 rfl rfl (by simp [Value.category]) rfl (c_isValue_t (d + 1) mu h q3) ?_
          refine rn_if_eq 42 24 dX8_addEdge_21 (by decide) rfl (fun c21 => absurd c21 (by decide)) (fun _ => ?_)
          refine rn_iconst (v := 3) 25 dX8_addEdge_24 (by decide) rfl ?_
          refine rn_iload 27 dX8_addEdge_25 rfl rfl ?_
          refine rn_csp mX2_isValue [.int 3, .int v4] [] 30 (.int 1) dX8_addEdge_27 cs_X8_79 rfl rfl (by simp [Value.category]) rfl (c_isValue_t (d + 1) mu h q4) ?_
          refine rn_if_eq 42 33 dX8_addEdge_30 (by decide) rfl (fun c30 => absurd c30 (by decide)) (fun _ => ?_)
          refine rn_iconst (v := 4) 34 dX8_addEdge_33 (by decide) rfl ?_
          refine rn_iload 36 dX8_addEdge_34 rfl rfl ?_
          refine rn_csp mX2_isValue [.int 4, .int v5] [] 39 (.int 0) dX8_addEdge_36 cs_X8_79 rfl rfl (by simp [Value.category]) rfl (c_isValue_f (d + 1) mu h q5) ?_
          refine rn_if_ne 45 42 dX8_addEdge_39 (by decide) rfl (fun c39 => absurd (rfl) c39) (fun _ => ?_)
          refine rn_bipush (v := (-2)) 44 dX8_addEdge_42 (by decide) rfl ?_
          exact rn_iret rfl dX8_addEdge_44 (⟨rfl, hs0, fun _ _ => rfl⟩)
        · skip
          refine rn_iload_n 1 dX8_addEdge_0 rfl rfl rfl ?_
          refine rn_iload_n 2 dX8_addEdge_1 rfl rfl rfl ?_
          refine rn_csp mX8_areNodes [.int v1, .int v2] [] 5 (.int 1) dX8_addEdge_2 cs_X8_75 rfl rfl (by simp [Value.category]) rfl (c_areNodes_t d mu h q1.1 q1.2) ?_
          refine rn_if_eq 13 8 dX8_addEdge_5 (by decide) rfl (fun c5 => absurd c5 (by decide)) (fun _ => ?_)
          refine rn_iload_n 9 dX8_addEdge_8 rfl rfl rfl ?_
          refine rn_iload_n 10 dX8_addEdge_9 rfl rfl rfl ?_
          refine rn_icmp_ne 16 13 dX8_addEdge_10 (by decide) rfl (fun _ => ?_) (fun c10 => absurd c10 (q2))
          refine rn_iconst (v := 2) 17 dX8_addEdge_16 (by decide) rfl ?_
          refine rn_iload_n 18 dX8_addEdge_17 rfl rfl rfl ?_
          refine rn_csp mX2_isValue [.int 2, .int v3] [] 21 (.int 1) dX8_addEdge_18 cs_X8_79 rfl rfl (by simp [Value.category]) rfl (c_isValue_t (d + 1) mu h q3) ?_
          refine rn_if_eq 42 24 dX8_addEdge_21 (by decide) rfl (fun c21 => absurd c21 (by decide)) (fun _ => ?_)
          refine rn_iconst (v := 3) 25 dX8_addEdge_24 (by decide) rfl ?_
          refine rn_iload 27 dX8_addEdge_25 rfl rfl ?_
          refine rn_csp mX2_isValue [.int 3, .int v4] [] 30 (.int 0) dX8_addEdge_27 cs_X8_79 rfl rfl (by simp [Value.category]) rfl (c_isValue_f (d + 1) mu h q4) ?_
          refine rn_if_eq 42 33 dX8_addEdge_30 (by decide) rfl (fun _ => ?_) (fun c30 => absurd (by decide) c30)
          refine rn_bipush (v := (-2)) 44 dX8_addEdge_42 (by decide) rfl ?_
          exact rn_iret rfl dX8_addEdge_44 (⟨rfl, hs0, fun _ _ => rfl⟩)
      · skip
        refine rn_iload_n 1 dX8_addEdge_0 rfl rfl rfl ?_
        refine rn_iload_n 2 dX8_addEdge_1 rfl rfl rfl ?_
        refine rn_csp mX8_areNodes [.int v1, .int v2] [] 5 (.int 1) dX8_addEdge_2 cs_X8_75 rfl rfl (by simp [Value.category]) rfl (c_areNodes_t d mu h q1.1 q1.2) ?_
        refine rn_if_eq 13 8 dX8_addEdge_5 (by decide) rfl (fun c5 => absurd c5 (by decide)) (fun _ => ?_)
        refine rn_iload_n 9 dX8_addEdge_8 rfl rfl rfl ?_
        refine rn_iload_n 10 dX8_addEdge_9 rfl rfl rfl ?_
        refine rn_icmp_ne 16 13 dX8_addEdge_10 (by decide) rfl (fun _ => ?_) (fun c10 => absurd c10 (q2))
        refine rn_iconst (v := 2) 17 dX8_addEdge_16 (by decide) rfl ?_
        refine rn_iload_n 18 dX8_addEdge_17 rfl rfl rfl ?_
        refine rn_csp mX2_isValue [.int 2, .int v3] [] 21 (.int 0) dX8_addEdge_18 cs_X8_79 rfl rfl (by simp [Value.category]) rfl (c_isValue_f (d + 1) mu h q3) ?_
        refine rn_if_eq 42 24 dX8_addEdge_21 (by decide) rfl (fun _ => ?_) (fun c21 => absurd (by decide) c21)
        refine rn_bipush (v := (-2)) 44 dX8_addEdge_42 (by decide) rfl ?_
        exact rn_iret rfl dX8_addEdge_44 (⟨rfl, hs0, fun _ _ => rfl⟩)
  · skip
    refine rn_iload_n 1 dX8_addEdge_0 rfl rfl rfl ?_
    refine rn_iload_n 2 dX8_addEdge_1 rfl rfl rfl ?_
    refine rn_csp mX8_areNodes [.int v1, .int v2] [] 5 (.int 0) dX8_addEdge_2 cs_X8_75 rfl rfl (by simp [Value.category]) rfl (c_areNodes_f d mu h q1) ?_
    refine rn_if_eq 13 8 dX8_addEdge_5 (by decide) rfl (fun _ => ?_) (fun c5 => absurd (by decide) c5)
    refine rn_bipush (v := (-2)) 15 dX8_addEdge_13 (by decide) rfl ?_
    exact rn_iret rfl dX8_addEdge_15 (⟨rfl, hs0, fun _ _ => rfl⟩)

set_option maxRecDepth 100000 in
set_option maxHeartbeats 2000000 in
theorem x_addEdge_f (d : Nat) {g : List Ed} {a : Nat} {hs : List Sg} {tx : List Nat} {f : Int32} {x : Ed} (hx : e_ok x) (hne : x.1 ≠ x.2.1) (hn : g.length = 16) : XC mX8_addEdge (d + 3) [.int (nI x.1), .int (nI x.2.1), .int (nI x.2.2.1), .int (nI x.2.2.2.1), .int (nI x.2.2.2.2)] (g, a, hs, tx, f) (g, a, hs, tx, f) (.int (-4)) := by
  intro mu h hs0
  obtain ⟨hg, ha, hh, ht, hf⟩ := id hs0
  simp only at hg ha hh ht hf
  refine gd_of rfl (Nat.le_of_ble_eq_true rfl) ?_
  show rn_R none mX8_addEdge (d + 3) 0 [some (.ref 0), some (.int (nI x.1)), some (.int (nI x.2.1)), some (.int (nI x.2.2.1)), some (.int (nI x.2.2.2.1)), some (.int (nI x.2.2.2.2))] [] mu h (fun r mu' _ => r = some (.int (-4)) ∧ xS (g, a, hs, tx, f) mu' ∧ ∀ c, 22 ≤ c → mu' c = mu c)
  obtain ⟨k1, k2, k3, k4, k5, k6⟩ := id hx
  refine rn_iload_n 1 dX8_addEdge_0 rfl rfl rfl ?_
  refine rn_iload_n 2 dX8_addEdge_1 rfl rfl rfl ?_
  refine rn_csp mX8_areNodes [.int (nI x.1), .int (nI x.2.1)] [] 5 (.int 1) dX8_addEdge_2 cs_X8_75 rfl rfl (by simp [Value.category]) rfl (c_areNodes_t (d + 1) mu h ⟨_, k1, rfl⟩ ⟨_, k2, rfl⟩) ?_
  refine rn_if_eq 13 8 dX8_addEdge_5 (by decide) rfl (fun c5 => absurd c5 (by decide)) (fun _ => ?_)
  refine rn_iload_n 9 dX8_addEdge_8 rfl rfl rfl ?_
  refine rn_iload_n 10 dX8_addEdge_9 rfl rfl rfl ?_
  refine rn_icmp_ne 16 13 dX8_addEdge_10 (by decide) rfl (fun _ => ?_) (fun c10 => absurd c10 (fun q => hne ((nI_eq (by omega) (by omega)).mp q)))
  refine rn_iconst (v := 2) 17 dX8_addEdge_16 (by decide) rfl ?_
  refine rn_iload_n 18 dX8_addEdge_17 rfl rfl rfl ?_
  refine rn_csp mX2_isValue [.int 2, .int (nI x.2.2.1)] [] 21 (.int 1) dX8_addEdge_18 cs_X8_79 rfl rfl (by simp [Value.category]) rfl (c_isValue_t (d + 2) mu h (Or.inl ⟨rfl, _, k3, rfl⟩)) ?_
  refine rn_if_eq 42 24 dX8_addEdge_21 (by decide) rfl (fun c21 => absurd c21 (by decide)) (fun _ => ?_)
  refine rn_iconst (v := 3) 25 dX8_addEdge_24 (by decide) rfl ?_
  refine rn_iload 27 dX8_addEdge_25 rfl rfl ?_
  refine rn_csp mX2_isValue [.int 3, .int (nI x.2.2.2.1)] [] 30 (.int 1) dX8_addEdge_27 cs_X8_79 rfl rfl (by simp [Value.category]) rfl (c_isValue_t (d + 2) mu h (Or.inr (Or.inl ⟨rfl, _, k4.1, k4.2, rfl⟩))) ?_
  refine rn_if_eq 42 33 dX8_addEdge_30 (by decide) rfl (fun c30 => absurd c30 (by decide)) (fun _ => ?_)
  refine rn_iconst (v := 4) 34 dX8_addEdge_33 (by decide) rfl ?_
  refine rn_iload 36 dX8_addEdge_34 rfl rfl ?_
  refine rn_csp mX2_isValue [.int 4, .int (nI x.2.2.2.2)] [] 39 (.int 1) dX8_addEdge_36 cs_X8_79 rfl rfl (by simp [Value.category]) rfl (c_isValue_t (d + 2) mu h (Or.inr (Or.inr ⟨rfl, _, k5, k6, rfl⟩))) ?_
  refine rn_if_ne 45 42 dX8_addEdge_39 (by decide) rfl (fun _ => ?_) (fun c39 => absurd c39 (by decide))
  refine rn_aload_n 46 dX8_addEdge_45 rfl rfl rfl ?_
  refine rn_get 49 (.ref 1) dX8_addEdge_46 fl_X8_10 rfl rfl rfl rfl ?_
  refine rn_get 52 (.int (mu 1 1)) dX8_addEdge_49 fl_X8_82 rfl rfl rfl rfl ?_
  refine rn_bipush (v := 16) 54 dX8_addEdge_52 (by decide) rfl ?_
  refine rn_icmp_lt 60 57 dX8_addEdge_54 (by decide) rfl (fun c54 => absurd c54 (by rw [hg.2.2.1]; exact nI_nlt (b := 16) (by omega) (by omega))) (fun _ => ?_)
  refine rn_bipush (v := (-4)) 59 dX8_addEdge_57 (by decide) rfl ?_
  exact rn_iret rfl dX8_addEdge_59 (⟨rfl, hs0, fun _ _ => rfl⟩)

set_option maxRecDepth 100000 in
set_option maxHeartbeats 2000000 in
theorem x_addEdge_t (d : Nat) {g : List Ed} {a : Nat} {hs : List Sg} {tx : List Nat} {f : Int32} {x : Ed} (hx : e_ok x) (hne : x.1 ≠ x.2.1) (hn : g.length < 16) : XC mX8_addEdge (d + 3) [.int (nI x.1), .int (nI x.2.1), .int (nI x.2.2.1), .int (nI x.2.2.2.1), .int (nI x.2.2.2.2)] (g, a, hs, tx, f) (g ++ [x], a, hk hs (g, a), tx, f) (.int (nI g.length)) := by
  intro mu h hs0
  obtain ⟨hg, ha, hh, ht, hf⟩ := id hs0
  simp only at hg ha hh ht hf
  refine gd_of rfl (Nat.le_of_ble_eq_true rfl) ?_
  show rn_R none mX8_addEdge (d + 3) 0 [some (.ref 0), some (.int (nI x.1)), some (.int (nI x.2.1)), some (.int (nI x.2.2.1)), some (.int (nI x.2.2.2.1)), some (.int (nI x.2.2.2.2))] [] mu h (fun r mu' _ => r = some (.int (nI g.length)) ∧ xS (g ++ [x], a, hk hs (g, a), tx, f) mu' ∧ ∀ c, 22 ≤ c → mu' c = mu c)
  obtain ⟨k1, k2, k3, k4, k5, k6⟩ := id hx
  refine rn_iload_n 1 dX8_addEdge_0 rfl rfl rfl ?_
  refine rn_iload_n 2 dX8_addEdge_1 rfl rfl rfl ?_
  refine rn_csp mX8_areNodes [.int (nI x.1), .int (nI x.2.1)] [] 5 (.int 1) dX8_addEdge_2 cs_X8_75 rfl rfl (by simp [Value.category]) rfl (c_areNodes_t (d + 1) mu h ⟨_, k1, rfl⟩ ⟨_, k2, rfl⟩) ?_
  refine rn_if_eq 13 8 dX8_addEdge_5 (by decide) rfl (fun c5 => absurd c5 (by decide)) (fun _ => ?_)
  refine rn_iload_n 9 dX8_addEdge_8 rfl rfl rfl ?_
  refine rn_iload_n 10 dX8_addEdge_9 rfl rfl rfl ?_
  refine rn_icmp_ne 16 13 dX8_addEdge_10 (by decide) rfl (fun _ => ?_) (fun c10 => absurd c10 (fun q => hne ((nI_eq (by omega) (by omega)).mp q)))
  refine rn_iconst (v := 2) 17 dX8_addEdge_16 (by decide) rfl ?_
  refine rn_iload_n 18 dX8_addEdge_17 rfl rfl rfl ?_
  refine rn_csp mX2_isValue [.int 2, .int (nI x.2.2.1)] [] 21 (.int 1) dX8_addEdge_18 cs_X8_79 rfl rfl (by simp [Value.category]) rfl (c_isValue_t (d + 2) mu h (Or.inl ⟨rfl, _, k3, rfl⟩)) ?_
  refine rn_if_eq 42 24 dX8_addEdge_21 (by decide) rfl (fun c21 => absurd c21 (by decide)) (fun _ => ?_)
  refine rn_iconst (v := 3) 25 dX8_addEdge_24 (by decide) rfl ?_
  refine rn_iload 27 dX8_addEdge_25 rfl rfl ?_
  refine rn_csp mX2_isValue [.int 3, .int (nI x.2.2.2.1)] [] 30 (.int 1) dX8_addEdge_27 cs_X8_79 rfl rfl (by simp [Value.category]) rfl (c_isValue_t (d + 2) mu h (Or.inr (Or.inl ⟨rfl, _, k4.1, k4.2, rfl⟩))) ?_
  refine rn_if_eq 42 33 dX8_addEdge_30 (by decide) rfl (fun c30 => absurd c30 (by decide)) (fun _ => ?_)
  refine rn_iconst (v := 4) 34 dX8_addEdge_33 (by decide) rfl ?_
  refine rn_iload 36 dX8_addEdge_34 rfl rfl ?_
  refine rn_csp mX2_isValue [.int 4, .int (nI x.2.2.2.2)] [] 39 (.int 1) dX8_addEdge_36 cs_X8_79 rfl rfl (by simp [Value.category]) rfl (c_isValue_t (d + 2) mu h (Or.inr (Or.inr ⟨rfl, _, k5, k6, rfl⟩))) ?_
  refine rn_if_ne 45 42 dX8_addEdge_39 (by decide) rfl (fun _ => ?_) (fun c39 => absurd c39 (by decide))
  refine rn_aload_n 46 dX8_addEdge_45 rfl rfl rfl ?_
  refine rn_get 49 (.ref 1) dX8_addEdge_46 fl_X8_10 rfl rfl rfl rfl ?_
  refine rn_get 52 (.int (mu 1 1)) dX8_addEdge_49 fl_X8_82 rfl rfl rfl rfl ?_
  refine rn_bipush (v := 16) 54 dX8_addEdge_52 (by decide) rfl ?_
  refine rn_icmp_lt 60 57 dX8_addEdge_54 (by decide) rfl (fun _ => ?_) (fun c54 => absurd (by rw [hg.2.2.1]; exact nI_lt (b := 16) hn (by omega)) c54)
  refine rn_aload_n 61 dX8_addEdge_60 rfl rfl rfl ?_
  refine rn_get 64 (.ref 3) dX8_addEdge_61 fl_X8_19 rfl rfl rfl rfl ?_
  refine rn_aload_n 65 dX8_addEdge_64 rfl rfl rfl ?_
  refine rn_get 68 (.ref 1) dX8_addEdge_65 fl_X8_10 rfl rfl rfl rfl ?_
  refine rn_callV mX4_keep [.ref 1] [] dX8_addEdge_68 cv_X8_85 rfl rfl rfl (by simp [Value.category]) (c_keep (d) h hg ha hh) (fun r1 m1 h1 q1 _ => ?_)
  obtain ⟨e1, -, hh1, fr1⟩ := q1
  subst e1
  have hs1 := xS_kept hs0 hh1 fr1
  obtain ⟨hg1, ha1, -, ht1, hf1⟩ := id hs1
  simp only at hg1 ha1 ht1 hf1
  show rn_R _ mX8_addEdge _ 71 [some (.ref 0), some (.int (nI x.1)), some (.int (nI x.2.1)), some (.int (nI x.2.2.1)), some (.int (nI x.2.2.2.1)), some (.int (nI x.2.2.2.2))] [] m1 h1 _
  refine rn_aload_n 72 dX8_addEdge_71 rfl rfl rfl ?_
  refine rn_get 75 (.ref 1) dX8_addEdge_72 fl_X8_10 rfl rfl rfl rfl ?_
  refine rn_iload_n 76 dX8_addEdge_75 rfl rfl rfl ?_
  refine rn_iload_n 77 dX8_addEdge_76 rfl rfl rfl ?_
  refine rn_iload_n 78 dX8_addEdge_77 rfl rfl rfl ?_
  refine rn_iload 80 dX8_addEdge_78 rfl rfl ?_
  refine rn_iload 82 dX8_addEdge_80 rfl rfl ?_
  refine rn_csp mX2_pack [.int (nI x.1), .int (nI x.2.1), .int (nI x.2.2.1), .int (nI x.2.2.2.1), .int (nI x.2.2.2.2)] [.ref 1] 85 (.int (pkx x)) dX8_addEdge_82 cs_X8_88 rfl rfl (by simp [Value.category]) rfl (c_pack (d + 2) m1 h1 k1 k2 (by omega) (by omega) (by omega)) ?_
  refine rn_cvm mX2_append [.int (pkx x)] [] 88 (none) (mu_s (mu_s m1 2 g.length (pkx x)) 1 1 (nI (g.length + 1))) dX8_addEdge_85 cv_X8_92 rfl rfl rfl (by simp [Value.category]) rfl (c_append (d + 2) h1 hg1 hn (pkx x)) ?_
  refine rn_aload_n 89 dX8_addEdge_88 rfl rfl rfl ?_
  refine rn_get 92 (.ref 1) dX8_addEdge_89 fl_X8_10 rfl rfl rfl rfl ?_
  refine rn_get 95 (.int (nI (g.length + 1))) dX8_addEdge_92 fl_X8_82 rfl rfl rfl rfl ?_
  refine rn_iconst (v := 1) 96 dX8_addEdge_95 (by decide) rfl ?_
  refine rn_isub 97 dX8_addEdge_96 rfl ?_
  exact rn_iret rfl dX8_addEdge_97 (⟨by rw [nI_pred], xS_g hs1 (xg_app hg1 hn hx rfl) ⟨ha1.1, by simp only [List.length_append, List.length_cons, List.length_nil]; exact Nat.lt_of_lt_of_le ha1.2 (Nat.pow_le_pow_right (by omega) (by omega))⟩ (fun c c1 c2 => by simp [mu_s, mu_r, c1, c2]), fun c hc => by simp [mu_s, mu_r, show c ≠ 1 by omega, show c ≠ 2 by omega]; exact fr1 c (by omega) (by omega)⟩)

set_option maxRecDepth 100000 in
set_option maxHeartbeats 2000000 in
theorem x_removeEdge_b (d : Nat) {g : List Ed} {a : Nat} {hs : List Sg} {tx : List Nat} {f : Int32} {v : Int32} (hv : ¬ isin v g.length) : XC mX8_removeEdge (d + 1) [.int v] (g, a, hs, tx, f) (g, a, hs, tx, f) (.int (-2)) := by
  intro mu h hs0
  obtain ⟨hg, ha, hh, ht, hf⟩ := id hs0
  simp only at hg ha hh ht hf
  refine gd_of rfl (Nat.le_of_ble_eq_true rfl) ?_
  show rn_R none mX8_removeEdge (d + 1) 0 [some (.ref 0), some (.int v)] [] mu h (fun r mu' _ => r = some (.int (-2)) ∧ xS (g, a, hs, tx, f) mu' ∧ ∀ c, 22 ≤ c → mu' c = mu c)
  refine rn_aload_n 1 dX8_removeEdge_0 rfl rfl rfl ?_
  refine rn_get 4 (.ref 1) dX8_removeEdge_1 fl_X8_10 rfl rfl rfl rfl ?_
  refine rn_iload_n 5 dX8_removeEdge_4 rfl rfl rfl ?_
  refine rn_cvp mX2_has [.int v] [] 8 (.int 0) dX8_removeEdge_5 cv_X8_96 rfl rfl rfl (by simp [Value.category]) rfl (c_has_f (d) h hg hv) ?_
  refine rn_if_ne 14 11 dX8_removeEdge_8 (by decide) rfl (fun c8 => absurd (rfl) c8) (fun _ => ?_)
  refine rn_bipush (v := (-2)) 13 dX8_removeEdge_11 (by decide) rfl ?_
  exact rn_iret rfl dX8_removeEdge_13 (⟨rfl, hs0, fun _ _ => rfl⟩)

set_option maxRecDepth 100000 in
set_option maxHeartbeats 2000000 in
theorem x_removeEdge_t (d : Nat) {g : List Ed} {a : Nat} {hs : List Sg} {tx : List Nat} {f : Int32} {e : Nat} (he : e < g.length) : XC mX8_removeEdge (d + 3) [.int (nI e)] (g, a, hs, tx, f) (g.eraseIdx e, dl a e, hk hs (g, a), tx, f) (.int (nI (g.length - 1))) := by
  intro mu h hs0
  obtain ⟨hg, ha, hh, ht, hf⟩ := id hs0
  simp only at hg ha hh ht hf
  refine gd_of rfl (Nat.le_of_ble_eq_true rfl) ?_
  show rn_R none mX8_removeEdge (d + 3) 0 [some (.ref 0), some (.int (nI e))] [] mu h (fun r mu' _ => r = some (.int (nI (g.length - 1))) ∧ xS (g.eraseIdx e, dl a e, hk hs (g, a), tx, f) mu' ∧ ∀ c, 22 ≤ c → mu' c = mu c)
  refine rn_aload_n 1 dX8_removeEdge_0 rfl rfl rfl ?_
  refine rn_get 4 (.ref 1) dX8_removeEdge_1 fl_X8_10 rfl rfl rfl rfl ?_
  refine rn_iload_n 5 dX8_removeEdge_4 rfl rfl rfl ?_
  refine rn_cvp mX2_has [.int (nI e)] [] 8 (.int 1) dX8_removeEdge_5 cv_X8_96 rfl rfl rfl (by simp [Value.category]) rfl (c_has_t (d + 2) h hg he) ?_
  refine rn_if_ne 14 11 dX8_removeEdge_8 (by decide) rfl (fun _ => ?_) (fun c8 => absurd c8 (by decide))
  refine rn_aload_n 15 dX8_removeEdge_14 rfl rfl rfl ?_
  refine rn_get 18 (.ref 3) dX8_removeEdge_15 fl_X8_19 rfl rfl rfl rfl ?_
  refine rn_aload_n 19 dX8_removeEdge_18 rfl rfl rfl ?_
  refine rn_get 22 (.ref 1) dX8_removeEdge_19 fl_X8_10 rfl rfl rfl rfl ?_
  refine rn_callV mX4_keep [.ref 1] [] dX8_removeEdge_22 cv_X8_85 rfl rfl rfl (by simp [Value.category]) (c_keep (d) h hg ha hh) (fun r1 m1 h1 q1 _ => ?_)
  obtain ⟨e1, -, hh1, fr1⟩ := q1
  subst e1
  have hs1 := xS_kept hs0 hh1 fr1
  obtain ⟨hg1, ha1, -, ht1, hf1⟩ := id hs1
  simp only at hg1 ha1 ht1 hf1
  show rn_R _ mX8_removeEdge _ 25 [some (.ref 0), some (.int (nI e))] [] m1 h1 _
  refine rn_aload_n 26 dX8_removeEdge_25 rfl rfl rfl ?_
  refine rn_get 29 (.ref 1) dX8_removeEdge_26 fl_X8_10 rfl rfl rfl rfl ?_
  refine rn_iload_n 30 dX8_removeEdge_29 rfl rfl rfl ?_
  refine rn_cvm mX2_delete [.int (nI e)] [] 33 (none) (mu_s (mu_s (mu_r m1 2 (dlr (m1 2) e (g.length - 1))) 1 1 (nI (g.length - 1))) 1 2 (nI (dl a e))) dX8_removeEdge_30 cv_X8_100 rfl rfl rfl (by simp [Value.category]) rfl (c_delete (d + 1) h1 hg1 ha1 he) ?_
  refine rn_aload_n 34 dX8_removeEdge_33 rfl rfl rfl ?_
  refine rn_get 37 (.ref 1) dX8_removeEdge_34 fl_X8_10 rfl rfl rfl rfl ?_
  refine rn_get 40 (.int (nI (g.length - 1))) dX8_removeEdge_37 fl_X8_82 rfl rfl rfl rfl ?_
  exact rn_iret rfl dX8_removeEdge_40 (⟨rfl, xS_g hs1 (xg_del hg1 he rfl rfl) ⟨rfl, by rw [List.length_eraseIdx_of_lt he]; exact dl_lt ha1.2 he⟩ (fun c c1 c2 => by simp [mu_s, mu_r, c1, c2]), fun c hc => by simp [mu_s, mu_r, show c ≠ 1 by omega, show c ≠ 2 by omega]; exact fr1 c (by omega) (by omega)⟩)

set_option maxRecDepth 100000 in
set_option maxHeartbeats 2000000 in
theorem x_setEdge_b (d : Nat) {g : List Ed} {a : Nat} {hs : List Sg} {tx : List Nat} {f : Int32} {v1 v2 v3 : Int32} (hv : ¬ (isin v1 g.length ∧ okV v2 v3)) : XC mX8_setEdge (d + 1) [.int v1, .int v2, .int v3] (g, a, hs, tx, f) (g, a, hs, tx, f) (.int (-2)) := by
  intro mu h hs0
  obtain ⟨hg, ha, hh, ht, hf⟩ := id hs0
  simp only at hg ha hh ht hf
  refine gd_of rfl (Nat.le_of_ble_eq_true rfl) ?_
  show rn_R none mX8_setEdge (d + 1) 0 [some (.ref 0), some (.int v1), some (.int v2), some (.int v3), none] [] mu h (fun r mu' _ => r = some (.int (-2)) ∧ xS (g, a, hs, tx, f) mu' ∧ ∀ c, 22 ≤ c → mu' c = mu c)
  by_cases q1 : isin v1 g.length
  · skip
    have q2 : ¬ okV v2 v3 := fun q => hv ⟨q1, q⟩
    obtain ⟨e, he, rfl⟩ := q1
    refine rn_aload_n 1 dX8_setEdge_0 rfl rfl rfl ?_
    refine rn_get 4 (.ref 1) dX8_setEdge_1 fl_X8_10 rfl rfl rfl rfl ?_
    refine rn_iload_n 5 dX8_setEdge_4 rfl rfl rfl ?_
    refine rn_cvp mX2_has [.int (nI e)] [] 8 (.int 1) dX8_setEdge_5 cv_X8_96 rfl rfl rfl (by simp [Value.category]) rfl (c_has_t (d) h hg he) ?_
    refine rn_if_eq 19 11 dX8_setEdge_8 (by decide) rfl (fun c8 => absurd c8 (by decide)) (fun _ => ?_)
    refine rn_iload_n 12 dX8_setEdge_11 rfl rfl rfl ?_
    refine rn_iload_n 13 dX8_setEdge_12 rfl rfl rfl ?_
    refine rn_csp mX2_isValue [.int v2, .int v3] [] 16 (.int 0) dX8_setEdge_13 cs_X8_79 rfl rfl (by simp [Value.category]) rfl (c_isValue_f d mu h q2) ?_
    refine rn_if_ne 22 19 dX8_setEdge_16 (by decide) rfl (fun c16 => absurd (rfl) c16) (fun _ => ?_)
    refine rn_bipush (v := (-2)) 21 dX8_setEdge_19 (by decide) rfl ?_
    exact rn_iret rfl dX8_setEdge_21 (⟨rfl, hs0, fun _ _ => rfl⟩)
  · skip
    refine rn_aload_n 1 dX8_setEdge_0 rfl rfl rfl ?_
    refine rn_get 4 (.ref 1) dX8_setEdge_1 fl_X8_10 rfl rfl rfl rfl ?_
    refine rn_iload_n 5 dX8_setEdge_4 rfl rfl rfl ?_
    refine rn_cvp mX2_has [.int v1] [] 8 (.int 0) dX8_setEdge_5 cv_X8_96 rfl rfl rfl (by simp [Value.category]) rfl (c_has_f (d) h hg q1) ?_
    refine rn_if_eq 19 11 dX8_setEdge_8 (by decide) rfl (fun _ => ?_) (fun c8 => absurd (by decide) c8)
    refine rn_bipush (v := (-2)) 21 dX8_setEdge_19 (by decide) rfl ?_
    exact rn_iret rfl dX8_setEdge_21 (⟨rfl, hs0, fun _ _ => rfl⟩)

set_option maxRecDepth 100000 in
set_option maxHeartbeats 2000000 in
theorem x_setEdge2 (d : Nat) {g : List Ed} {a : Nat} {hs : List Sg} {tx : List Nat} {f : Int32} {e v : Nat} {x : Ed} (hx : g[e]? = some x) (h1 : 0 ≤ v) (h2 : v ≤ 99) : XC mX8_setEdge (d + 3) [.int (nI e), .int 2, .int (nI v)] (g, a, hs, tx, f) (g.set e (eS x 2 v), a, hk hs (g, a), tx, f) (.int (nI (eL g e))) := by
  intro mu h hs0
  obtain ⟨hg, ha, hh, ht, hf⟩ := id hs0
  simp only at hg ha hh ht hf
  refine gd_of rfl (Nat.le_of_ble_eq_true rfl) ?_
  show rn_R none mX8_setEdge (d + 3) 0 [some (.ref 0), some (.int (nI e)), some (.int 2), some (.int (nI v)), none] [] mu h (fun r mu' _ => r = some (.int (nI (eL g e))) ∧ xS (g.set e (eS x 2 v), a, hk hs (g, a), tx, f) mu' ∧ ∀ c, 22 ≤ c → mu' c = mu c)
  have he : e < g.length := (List.getElem?_eq_some_iff.mp hx).1
  refine rn_aload_n 1 dX8_setEdge_0 rfl rfl rfl ?_
  refine rn_get 4 (.ref 1) dX8_setEdge_1 fl_X8_10 rfl rfl rfl rfl ?_
  refine rn_iload_n 5 dX8_setEdge_4 rfl rfl rfl ?_
  refine rn_cvp mX2_has [.int (nI e)] [] 8 (.int 1) dX8_setEdge_5 cv_X8_96 rfl rfl rfl (by simp [Value.category]) rfl (c_has_t (d + 2) h hg he) ?_
  refine rn_if_eq 19 11 dX8_setEdge_8 (by decide) rfl (fun c8 => absurd c8 (by decide)) (fun _ => ?_)
  refine rn_iload_n 12 dX8_setEdge_11 rfl rfl rfl ?_
  refine rn_iload_n 13 dX8_setEdge_12 rfl rfl rfl ?_
  refine rn_csp mX2_isValue [.int 2, .int (nI v)] [] 16 (.int 1) dX8_setEdge_13 cs_X8_79 rfl rfl (by simp [Value.category]) rfl (c_isValue_t (d + 2) mu h (Or.inl ⟨rfl, v, by omega, rfl⟩)) ?_
  refine rn_if_ne 22 19 dX8_setEdge_16 (by decide) rfl (fun _ => ?_) (fun c16 => absurd c16 (by decide))
  refine rn_aload_n 23 dX8_setEdge_22 rfl rfl rfl ?_
  refine rn_get 26 (.ref 3) dX8_setEdge_23 fl_X8_19 rfl rfl rfl rfl ?_
  refine rn_aload_n 27 dX8_setEdge_26 rfl rfl rfl ?_
  refine rn_get 30 (.ref 1) dX8_setEdge_27 fl_X8_10 rfl rfl rfl rfl ?_
  refine rn_callV mX4_keep [.ref 1] [] dX8_setEdge_30 cv_X8_85 rfl rfl rfl (by simp [Value.category]) (c_keep (d) h hg ha hh) (fun r1 m1 h1_ q1 _ => ?_)
  obtain ⟨e1, -, hh1, fr1⟩ := q1
  subst e1
  have hs1 := xS_kept hs0 hh1 fr1
  obtain ⟨hg1, ha1, -, ht1, hf1⟩ := id hs1
  simp only at hg1 ha1 ht1 hf1
  show rn_R _ mX8_setEdge _ 33 [some (.ref 0), some (.int (nI e)), some (.int 2), some (.int (nI v)), none] [] m1 h1_ _
  refine rn_aload_n 34 dX8_setEdge_33 rfl rfl rfl ?_
  refine rn_get 37 (.ref 1) dX8_setEdge_34 fl_X8_10 rfl rfl rfl rfl ?_
  refine rn_iload_n 38 dX8_setEdge_37 rfl rfl rfl ?_
  refine rn_iload_n 39 dX8_setEdge_38 rfl rfl rfl ?_
  refine rn_cvp mX2_part [.int (nI e), .int 2] [] 42 (.int (nI (eL g e))) dX8_setEdge_39 cv_X8_103 rfl rfl rfl (by simp [Value.category]) rfl (c_part2 (d + 1) h1_ hg1 he) ?_
  refine rn_istore 44 [some (.ref 0), some (.int (nI e)), some (.int 2), some (.int (nI v)), some (.int (nI (eL g e)))] dX8_setEdge_42 rfl (Nat.le_of_ble_eq_true rfl) rfl ?_
  refine rn_aload_n 45 dX8_setEdge_44 rfl rfl rfl ?_
  refine rn_get 48 (.ref 1) dX8_setEdge_45 fl_X8_10 rfl rfl rfl rfl ?_
  refine rn_iload_n 49 dX8_setEdge_48 rfl rfl rfl ?_
  refine rn_iload_n 50 dX8_setEdge_49 rfl rfl rfl ?_
  refine rn_iload_n 51 dX8_setEdge_50 rfl rfl rfl ?_
  refine rn_cvm mX2_setPart [.int (nI e), .int 2, .int (nI v)] [] 54 (none) (mu_s m1 2 e (pkx (eS x 2 v))) dX8_setEdge_51 cv_X8_107 rfl rfl rfl (by simp [Value.category]) rfl (c_setPart2 (d + 1) h1_ hg1 hx h1 h2) ?_
  refine rn_iload 56 dX8_setEdge_54 rfl rfl ?_
  exact rn_iret rfl dX8_setEdge_56 (⟨rfl, xS_g hs1 (xg_set hg1 he (eS_ok (hg1.2.1 x (List.mem_of_getElem? hx)) (Or.inl ⟨rfl, h2⟩))) ⟨ha1.1, by rw [List.length_set]; exact ha1.2⟩ (fun c c1 c2 => by simp [mu_s, mu_r, c1, c2]), fun c hc => by simp [mu_s, mu_r, show c ≠ 2 by omega]; exact fr1 c (by omega) (by omega)⟩)

set_option maxRecDepth 100000 in
set_option maxHeartbeats 2000000 in
theorem x_setEdge3 (d : Nat) {g : List Ed} {a : Nat} {hs : List Sg} {tx : List Nat} {f : Int32} {e v : Nat} {x : Ed} (hx : g[e]? = some x) (h1 : 1 ≤ v) (h2 : v ≤ 100) : XC mX8_setEdge (d + 3) [.int (nI e), .int 3, .int (nI v)] (g, a, hs, tx, f) (g.set e (eS x 3 v), a, hk hs (g, a), tx, f) (.int (nI (eY g e))) := by
  intro mu h hs0
  obtain ⟨hg, ha, hh, ht, hf⟩ := id hs0
  simp only at hg ha hh ht hf
  refine gd_of rfl (Nat.le_of_ble_eq_true rfl) ?_
  show rn_R none mX8_setEdge (d + 3) 0 [some (.ref 0), some (.int (nI e)), some (.int 3), some (.int (nI v)), none] [] mu h (fun r mu' _ => r = some (.int (nI (eY g e))) ∧ xS (g.set e (eS x 3 v), a, hk hs (g, a), tx, f) mu' ∧ ∀ c, 22 ≤ c → mu' c = mu c)
  have he : e < g.length := (List.getElem?_eq_some_iff.mp hx).1
  refine rn_aload_n 1 dX8_setEdge_0 rfl rfl rfl ?_
  refine rn_get 4 (.ref 1) dX8_setEdge_1 fl_X8_10 rfl rfl rfl rfl ?_
  refine rn_iload_n 5 dX8_setEdge_4 rfl rfl rfl ?_
  refine rn_cvp mX2_has [.int (nI e)] [] 8 (.int 1) dX8_setEdge_5 cv_X8_96 rfl rfl rfl (by simp [Value.category]) rfl (c_has_t (d + 2) h hg he) ?_
  refine rn_if_eq 19 11 dX8_setEdge_8 (by decide) rfl (fun c8 => absurd c8 (by decide)) (fun _ => ?_)
  refine rn_iload_n 12 dX8_setEdge_11 rfl rfl rfl ?_
  refine rn_iload_n 13 dX8_setEdge_12 rfl rfl rfl ?_
  refine rn_csp mX2_isValue [.int 3, .int (nI v)] [] 16 (.int 1) dX8_setEdge_13 cs_X8_79 rfl rfl (by simp [Value.category]) rfl (c_isValue_t (d + 2) mu h (Or.inr (Or.inl ⟨rfl, v, h1, h2, rfl⟩))) ?_
  refine rn_if_ne 22 19 dX8_setEdge_16 (by decide) rfl (fun _ => ?_) (fun c16 => absurd c16 (by decide))
  refine rn_aload_n 23 dX8_setEdge_22 rfl rfl rfl ?_
  refine rn_get 26 (.ref 3) dX8_setEdge_23 fl_X8_19 rfl rfl rfl rfl ?_
  refine rn_aload_n 27 dX8_setEdge_26 rfl rfl rfl ?_
  refine rn_get 30 (.ref 1) dX8_setEdge_27 fl_X8_10 rfl rfl rfl rfl ?_
  refine rn_callV mX4_keep [.ref 1] [] dX8_setEdge_30 cv_X8_85 rfl rfl rfl (by simp [Value.category]) (c_keep (d) h hg ha hh) (fun r1 m1 h1_ q1 _ => ?_)
  obtain ⟨e1, -, hh1, fr1⟩ := q1
  subst e1
  have hs1 := xS_kept hs0 hh1 fr1
  obtain ⟨hg1, ha1, -, ht1, hf1⟩ := id hs1
  simp only at hg1 ha1 ht1 hf1
  show rn_R _ mX8_setEdge _ 33 [some (.ref 0), some (.int (nI e)), some (.int 3), some (.int (nI v)), none] [] m1 h1_ _
  refine rn_aload_n 34 dX8_setEdge_33 rfl rfl rfl ?_
  refine rn_get 37 (.ref 1) dX8_setEdge_34 fl_X8_10 rfl rfl rfl rfl ?_
  refine rn_iload_n 38 dX8_setEdge_37 rfl rfl rfl ?_
  refine rn_iload_n 39 dX8_setEdge_38 rfl rfl rfl ?_
  refine rn_cvp mX2_part [.int (nI e), .int 3] [] 42 (.int (nI (eY g e))) dX8_setEdge_39 cv_X8_103 rfl rfl rfl (by simp [Value.category]) rfl (c_part3 (d + 1) h1_ hg1 he) ?_
  refine rn_istore 44 [some (.ref 0), some (.int (nI e)), some (.int 3), some (.int (nI v)), some (.int (nI (eY g e)))] dX8_setEdge_42 rfl (Nat.le_of_ble_eq_true rfl) rfl ?_
  refine rn_aload_n 45 dX8_setEdge_44 rfl rfl rfl ?_
  refine rn_get 48 (.ref 1) dX8_setEdge_45 fl_X8_10 rfl rfl rfl rfl ?_
  refine rn_iload_n 49 dX8_setEdge_48 rfl rfl rfl ?_
  refine rn_iload_n 50 dX8_setEdge_49 rfl rfl rfl ?_
  refine rn_iload_n 51 dX8_setEdge_50 rfl rfl rfl ?_
  refine rn_cvm mX2_setPart [.int (nI e), .int 3, .int (nI v)] [] 54 (none) (mu_s m1 2 e (pkx (eS x 3 v))) dX8_setEdge_51 cv_X8_107 rfl rfl rfl (by simp [Value.category]) rfl (c_setPart3 (d + 1) h1_ hg1 hx h1 h2) ?_
  refine rn_iload 56 dX8_setEdge_54 rfl rfl ?_
  exact rn_iret rfl dX8_setEdge_56 (⟨rfl, xS_g hs1 (xg_set hg1 he (eS_ok (hg1.2.1 x (List.mem_of_getElem? hx)) (Or.inr (Or.inl ⟨rfl, h1, h2⟩)))) ⟨ha1.1, by rw [List.length_set]; exact ha1.2⟩ (fun c c1 c2 => by simp [mu_s, mu_r, c1, c2]), fun c hc => by simp [mu_s, mu_r, show c ≠ 2 by omega]; exact fr1 c (by omega) (by omega)⟩)

set_option maxRecDepth 100000 in
set_option maxHeartbeats 2000000 in
theorem x_setEdge4 (d : Nat) {g : List Ed} {a : Nat} {hs : List Sg} {tx : List Nat} {f : Int32} {e v : Nat} {x : Ed} (hx : g[e]? = some x) (h1 : 1 ≤ v) (h2 : v ≤ 9) : XC mX8_setEdge (d + 3) [.int (nI e), .int 4, .int (nI v)] (g, a, hs, tx, f) (g.set e (eS x 4 v), a, hk hs (g, a), tx, f) (.int (nI (eC g e))) := by
  intro mu h hs0
  obtain ⟨hg, ha, hh, ht, hf⟩ := id hs0
  simp only at hg ha hh ht hf
  refine gd_of rfl (Nat.le_of_ble_eq_true rfl) ?_
  show rn_R none mX8_setEdge (d + 3) 0 [some (.ref 0), some (.int (nI e)), some (.int 4), some (.int (nI v)), none] [] mu h (fun r mu' _ => r = some (.int (nI (eC g e))) ∧ xS (g.set e (eS x 4 v), a, hk hs (g, a), tx, f) mu' ∧ ∀ c, 22 ≤ c → mu' c = mu c)
  have he : e < g.length := (List.getElem?_eq_some_iff.mp hx).1
  refine rn_aload_n 1 dX8_setEdge_0 rfl rfl rfl ?_
  refine rn_get 4 (.ref 1) dX8_setEdge_1 fl_X8_10 rfl rfl rfl rfl ?_
  refine rn_iload_n 5 dX8_setEdge_4 rfl rfl rfl ?_
  refine rn_cvp mX2_has [.int (nI e)] [] 8 (.int 1) dX8_setEdge_5 cv_X8_96 rfl rfl rfl (by simp [Value.category]) rfl (c_has_t (d + 2) h hg he) ?_
  refine rn_if_eq 19 11 dX8_setEdge_8 (by decide) rfl (fun c8 => absurd c8 (by decide)) (fun _ => ?_)
  refine rn_iload_n 12 dX8_setEdge_11 rfl rfl rfl ?_
  refine rn_iload_n 13 dX8_setEdge_12 rfl rfl rfl ?_
  refine rn_csp mX2_isValue [.int 4, .int (nI v)] [] 16 (.int 1) dX8_setEdge_13 cs_X8_79 rfl rfl (by simp [Value.category]) rfl (c_isValue_t (d + 2) mu h (Or.inr (Or.inr ⟨rfl, v, h1, h2, rfl⟩))) ?_
  refine rn_if_ne 22 19 dX8_setEdge_16 (by decide) rfl (fun _ => ?_) (fun c16 => absurd c16 (by decide))
  refine rn_aload_n 23 dX8_setEdge_22 rfl rfl rfl ?_
  refine rn_get 26 (.ref 3) dX8_setEdge_23 fl_X8_19 rfl rfl rfl rfl ?_
  refine rn_aload_n 27 dX8_setEdge_26 rfl rfl rfl ?_
  refine rn_get 30 (.ref 1) dX8_setEdge_27 fl_X8_10 rfl rfl rfl rfl ?_
  refine rn_callV mX4_keep [.ref 1] [] dX8_setEdge_30 cv_X8_85 rfl rfl rfl (by simp [Value.category]) (c_keep (d) h hg ha hh) (fun r1 m1 h1_ q1 _ => ?_)
  obtain ⟨e1, -, hh1, fr1⟩ := q1
  subst e1
  have hs1 := xS_kept hs0 hh1 fr1
  obtain ⟨hg1, ha1, -, ht1, hf1⟩ := id hs1
  simp only at hg1 ha1 ht1 hf1
  show rn_R _ mX8_setEdge _ 33 [some (.ref 0), some (.int (nI e)), some (.int 4), some (.int (nI v)), none] [] m1 h1_ _
  refine rn_aload_n 34 dX8_setEdge_33 rfl rfl rfl ?_
  refine rn_get 37 (.ref 1) dX8_setEdge_34 fl_X8_10 rfl rfl rfl rfl ?_
  refine rn_iload_n 38 dX8_setEdge_37 rfl rfl rfl ?_
  refine rn_iload_n 39 dX8_setEdge_38 rfl rfl rfl ?_
  refine rn_cvp mX2_part [.int (nI e), .int 4] [] 42 (.int (nI (eC g e))) dX8_setEdge_39 cv_X8_103 rfl rfl rfl (by simp [Value.category]) rfl (c_part4 (d + 1) h1_ hg1 he) ?_
  refine rn_istore 44 [some (.ref 0), some (.int (nI e)), some (.int 4), some (.int (nI v)), some (.int (nI (eC g e)))] dX8_setEdge_42 rfl (Nat.le_of_ble_eq_true rfl) rfl ?_
  refine rn_aload_n 45 dX8_setEdge_44 rfl rfl rfl ?_
  refine rn_get 48 (.ref 1) dX8_setEdge_45 fl_X8_10 rfl rfl rfl rfl ?_
  refine rn_iload_n 49 dX8_setEdge_48 rfl rfl rfl ?_
  refine rn_iload_n 50 dX8_setEdge_49 rfl rfl rfl ?_
  refine rn_iload_n 51 dX8_setEdge_50 rfl rfl rfl ?_
  refine rn_cvm mX2_setPart [.int (nI e), .int 4, .int (nI v)] [] 54 (none) (mu_s m1 2 e (pkx (eS x 4 v))) dX8_setEdge_51 cv_X8_107 rfl rfl rfl (by simp [Value.category]) rfl (c_setPart4 (d + 1) h1_ hg1 hx h1 h2) ?_
  refine rn_iload 56 dX8_setEdge_54 rfl rfl ?_
  exact rn_iret rfl dX8_setEdge_56 (⟨rfl, xS_g hs1 (xg_set hg1 he (eS_ok (hg1.2.1 x (List.mem_of_getElem? hx)) (Or.inr (Or.inr ⟨rfl, h1, h2⟩)))) ⟨ha1.1, by rw [List.length_set]; exact ha1.2⟩ (fun c c1 c2 => by simp [mu_s, mu_r, c1, c2]), fun c hc => by simp [mu_s, mu_r, show c ≠ 2 by omega]; exact fr1 c (by omega) (by omega)⟩)
