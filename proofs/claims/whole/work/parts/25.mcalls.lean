/-! THE REFERENCE's CALLS: addEdge, setEdge, edge, clear, attack, setAttack, undo -/
theorem mg_set {g : List Ed} {mu : Nat → Nat → Int32} (hg : mg g mu) {e w v : Nat} {x : Ed} (hx : g[e]? = some x) (hw : w = 2 ∨ w = 3 ∨ w = 4) (hok : e_ok (eS x w v)) : mg (g.set e (eS x w v)) (mu_s mu 23 (5 * e + w) (nI v)) := by
  have he : e < g.length := (List.getElem?_eq_some_iff.mp hx).1
  have h16 := hg.1
  refine ⟨by rw [List.length_set]; exact hg.1, fun y hy => ?_, ?_, fun i y hy => ?_⟩
  · rcases List.mem_or_eq_of_mem_set hy with q | q
    · exact hg.2.1 y q
    · rw [q]; exact hok
  · rw [List.length_set]
    show upd (mu 23) (5 * e + w) (nI v) 80 = _
    rw [pk_un (by omega)]
    exact hg.2.2.1
  · show upd (mu 23) (5 * e + w) (nI v) (5 * i) = _ ∧ upd (mu 23) (5 * e + w) (nI v) (5 * i + 1) = _ ∧ upd (mu 23) (5 * e + w) (nI v) (5 * i + 2) = _ ∧ upd (mu 23) (5 * e + w) (nI v) (5 * i + 3) = _ ∧ upd (mu 23) (5 * e + w) (nI v) (5 * i + 4) = _
    by_cases hi : i = e
    · subst hi
      rw [List.getElem?_set_self he] at hy
      cases hy
      obtain ⟨k1, k2, k3, k4, k5⟩ := hg.2.2.2 i x hx
      rcases hw with rfl | rfl | rfl
      · exact ⟨by rw [pk_un (by omega)]; exact k1, by rw [pk_un (by omega)]; exact k2, by rw [pk_us]; rfl, by rw [pk_un (by omega)]; exact k4, by rw [pk_un (by omega)]; exact k5⟩
      · exact ⟨by rw [pk_un (by omega)]; exact k1, by rw [pk_un (by omega)]; exact k2, by rw [pk_un (by omega)]; exact k3, by rw [pk_us]; rfl, by rw [pk_un (by omega)]; exact k5⟩
      · exact ⟨by rw [pk_un (by omega)]; exact k1, by rw [pk_un (by omega)]; exact k2, by rw [pk_un (by omega)]; exact k3, by rw [pk_un (by omega)]; exact k4, by rw [pk_us]; rfl⟩
    · rw [List.getElem?_set_ne (Ne.symm hi)] at hy
      rw [pk_un (by omega), pk_un (by omega), pk_un (by omega), pk_un (by omega), pk_un (by omega)]
      exact hg.2.2.2 i y hy
theorem mg_81 {g : List Ed} {mu : Nat → Nat → Int32} (hg : mg g mu) (v : Int32) : mg g (mu_s mu 23 81 v) := by
  have h16 := hg.1
  refine ⟨hg.1, hg.2.1, hg.2.2.1, fun i y hy => ?_⟩
  have hi : i < g.length := (List.getElem?_eq_some_iff.mp hy).1
  show upd (mu 23) 81 v (5 * i) = _ ∧ upd (mu 23) 81 v (5 * i + 1) = _ ∧ upd (mu 23) 81 v (5 * i + 2) = _ ∧ upd (mu 23) 81 v (5 * i + 3) = _ ∧ upd (mu 23) 81 v (5 * i + 4) = _
  rw [pk_un (by omega), pk_un (by omega), pk_un (by omega), pk_un (by omega), pk_un (by omega)]
  exact hg.2.2.2 i y hy

set_option maxRecDepth 100000 in
set_option maxHeartbeats 2000000 in
theorem m_addEdge_b (d : Nat) {g : List Ed} {a : Nat} {hs : List Sg} {tx : List Nat} {f : Int32} {v1 v2 v3 v4 v5 : Int32} (hv : ¬ ∃ x, vE v1 v2 v3 v4 v5 x) : MC mX9_addEdge (d + 2) [.int v1, .int v2, .int v3, .int v4, .int v5] (g, a, hs, tx, f) (g, a, hs, tx, f) (.int (-2)) := by
  intro mu h hs0
  obtain ⟨hg, ha, hh, ht, hf⟩ := id hs0
  simp only at hg ha hh ht hf
  refine gd_of rfl (Nat.le_of_ble_eq_true rfl) ?_
  show rn_R none mX9_addEdge (d + 2) 0 [some (.ref 22), some (.int v1), some (.int v2), some (.int v3), some (.int v4), some (.int v5)] [] mu h (fun r mu' _ => r = some (.int (-2)) ∧ mS (g, a, hs, tx, f) mu' ∧ ∀ c, c < 22 → mu' c = mu c)
  by_cases q1 : isin v1 8 ∧ isin v2 8
  · skip
    by_cases q2 : v1 = v2
    · skip
      refine rn_iload_n 1 dX9_addEdge_0 rfl rfl rfl ?_
      refine rn_iload_n 2 dX9_addEdge_1 rfl rfl rfl ?_
      refine rn_csp mX9_areNodes [.int v1, .int v2] [] 5 (.int 1) dX9_addEdge_2 cs_X9_53 rfl rfl (by simp [Value.category]) rfl (c_mareNodes_t d mu h q1.1 q1.2) ?_
      refine rn_if_eq 39 8 dX9_addEdge_5 (by decide) rfl (fun c5 => absurd c5 (by decide)) (fun _ => ?_)
      refine rn_iload_n 9 dX9_addEdge_8 rfl rfl rfl ?_
      refine rn_iload_n 10 dX9_addEdge_9 rfl rfl rfl ?_
      refine rn_icmp_eq 39 13 dX9_addEdge_10 (by decide) rfl (fun _ => ?_) (fun c10 => absurd (q2) c10)
      refine rn_bipush (v := (-2)) 41 dX9_addEdge_39 (by decide) rfl ?_
      exact rn_iret rfl dX9_addEdge_41 (⟨rfl, hs0, fun _ _ => rfl⟩)
    · skip
      by_cases q3 : okV 2 v3
      · skip
        by_cases q4 : okV 3 v4
        · skip
          have q5 : ¬ okV 4 v5 := fun q5 => by
            obtain ⟨⟨k1, l1, rfl⟩, k2, l2, rfl⟩ := q1
            rcases q3 with ⟨-, k3, l3, rfl⟩ | ⟨q, -⟩ | ⟨q, -⟩
            · rcases q4 with ⟨q, -⟩ | ⟨-, k4, l4, l4b, rfl⟩ | ⟨q, -⟩
              · exact absurd q (by decide)
              · rcases q5 with ⟨q, -⟩ | ⟨q, -⟩ | ⟨-, k5, l5, l5b, rfl⟩
                · exact absurd q (by decide)
                · exact absurd q (by decide)
                · exact hv ⟨(k1, k2, k3, k4, k5), rfl, rfl, rfl, rfl, rfl, ⟨l1, l2, l3, ⟨l4, l4b⟩, l5, l5b⟩, fun z => q2 (congrArg nI z)⟩
              · exact absurd q (by decide)
            · exact absurd q (by decide)
            · exact absurd q (by decide)
          refine rn_iload_n 1 dX9_addEdge_0 rfl rfl rfl ?_
          refine rn_iload_n 2 dX9_addEdge_1 rfl rfl rfl ?_
          refine rn_csp mX9_areNodes [.int v1, .int v2] [] 5 (.int 1) dX9_addEdge_2 cs_X9_53 rfl rfl (by simp [Value.category]) rfl (c_mareNodes_t d mu h q1.1 q1.2) ?_
          refine rn_if_eq 39 8 dX9_addEdge_5 (by decide) rfl (fun c5 => absurd c5 (by decide)) (fun _ => ?_)
          refine rn_iload_n 9 dX9_addEdge_8 rfl rfl rfl ?_
          refine rn_iload_n 10 dX9_addEdge_9 rfl rfl rfl ?_
          refine rn_icmp_eq 39 13 dX9_addEdge_10 (by decide) rfl (fun c10 => absurd c10 (q2)) (fun _ => ?_)
          refine rn_iconst (v := 2) 14 dX9_addEdge_13 (by decide) rfl ?_
          refine rn_iload_n 15 dX9_addEdge_14 rfl rfl rfl ?_
          refine rn_csp mX9_isValue [.int 2, .int v3] [] 18 (.int 1) dX9_addEdge_15 cs_X9_56 rfl rfl (by simp [Value.category]) rfl (c_mv_t d mu h q3) ?_
          refine rn_if_eq 39 21 dX9_addEdge_18 (by decide) rfl (fun c18 => absurd c18 (by decide)) (fun _ => ?_)
          refine rn_iconst (v := 3) 22 dX9_addEdge_21 (by decide) rfl ?_
          refine rn_iload 24 dX9_addEdge_22 rfl rfl ?_
          refine rn_csp mX9_isValue [.int 3, .int v4] [] 27 (.int 1) dX9_addEdge_24 cs_X9_56 rfl rfl (by simp [Value.category]) rfl (c_mv_t d mu h q4) ?_
          refine rn_if_eq 39 30 dX9_addEdge_27 (by decide) rfl (fun c27 => absurd c27 (by decide)) (fun _ => ?_)
          refine rn_iconst (v := 4) 31 dX9_addEdge_30 (by decide) rfl ?_
          refine rn_iload 33 dX9_addEdge_31 rfl rfl ?_
          refine rn_csp mX9_isValue [.int 4, .int v5] [] 36 (.int 0) dX9_addEdge_33 cs_X9_56 rfl rfl (by simp [Value.category]) rfl (c_mv_f d mu h q5) ?_
          refine rn_if_ne 42 39 dX9_addEdge_36 (by decide) rfl (fun c36 => absurd (rfl) c36) (fun _ => ?_)
          refine rn_bipush (v := (-2)) 41 dX9_addEdge_39 (by decide) rfl ?_
          exact rn_iret rfl dX9_addEdge_41 (⟨rfl, hs0, fun _ _ => rfl⟩)
        · skip
          refine rn_iload_n 1 dX9_addEdge_0 rfl rfl rfl ?_
          refine rn_iload_n 2 dX9_addEdge_1 rfl rfl rfl ?_
          refine rn_csp mX9_areNodes [.int v1, .int v2] [] 5 (.int 1) dX9_addEdge_2 cs_X9_53 rfl rfl (by simp [Value.category]) rfl (c_mareNodes_t d mu h q1.1 q1.2) ?_
          refine rn_if_eq 39 8 dX9_addEdge_5 (by decide) rfl (fun c5 => absurd c5 (by decide)) (fun _ => ?_)
          refine rn_iload_n 9 dX9_addEdge_8 rfl rfl rfl ?_
          refine rn_iload_n 10 dX9_addEdge_9 rfl rfl rfl ?_
          refine rn_icmp_eq 39 13 dX9_addEdge_10 (by decide) rfl (fun c10 => absurd c10 (q2)) (fun _ => ?_)
          refine rn_iconst (v := 2) 14 dX9_addEdge_13 (by decide) rfl ?_
          refine rn_iload_n 15 dX9_addEdge_14 rfl rfl rfl ?_
          refine rn_csp mX9_isValue [.int 2, .int v3] [] 18 (.int 1) dX9_addEdge_15 cs_X9_56 rfl rfl (by simp [Value.category]) rfl (c_mv_t d mu h q3) ?_
          refine rn_if_eq 39 21 dX9_addEdge_18 (by decide) rfl (fun c18 => absurd c18 (by decide)) (fun _ => ?_)
          refine rn_iconst (v := 3) 22 dX9_addEdge_21 (by decide) rfl ?_
          refine rn_iload 24 dX9_addEdge_22 rfl rfl ?_
          refine rn_csp mX9_isValue [.int 3, .int v4] [] 27 (.int 0) dX9_addEdge_24 cs_X9_56 rfl rfl (by simp [Value.category]) rfl (c_mv_f d mu h q4) ?_
          refine rn_if_eq 39 30 dX9_addEdge_27 (by decide) rfl (fun _ => ?_) (fun c27 => absurd (by decide) c27)
          refine rn_bipush (v := (-2)) 41 dX9_addEdge_39 (by decide) rfl ?_
          exact rn_iret rfl dX9_addEdge_41 (⟨rfl, hs0, fun _ _ => rfl⟩)
      · skip
        refine rn_iload_n 1 dX9_addEdge_0 rfl rfl rfl ?_
        refine rn_iload_n 2 dX9_addEdge_1 rfl rfl rfl ?_
        refine rn_csp mX9_areNodes [.int v1, .int v2] [] 5 (.int 1) dX9_addEdge_2 cs_X9_53 rfl rfl (by simp [Value.category]) rfl (c_mareNodes_t d mu h q1.1 q1.2) ?_
        refine rn_if_eq 39 8 dX9_addEdge_5 (by decide) rfl (fun c5 => absurd c5 (by decide)) (fun _ => ?_)
        refine rn_iload_n 9 dX9_addEdge_8 rfl rfl rfl ?_
        refine rn_iload_n 10 dX9_addEdge_9 rfl rfl rfl ?_
        refine rn_icmp_eq 39 13 dX9_addEdge_10 (by decide) rfl (fun c10 => absurd c10 (q2)) (fun _ => ?_)
        refine rn_iconst (v := 2) 14 dX9_addEdge_13 (by decide) rfl ?_
        refine rn_iload_n 15 dX9_addEdge_14 rfl rfl rfl ?_
        refine rn_csp mX9_isValue [.int 2, .int v3] [] 18 (.int 0) dX9_addEdge_15 cs_X9_56 rfl rfl (by simp [Value.category]) rfl (c_mv_f d mu h q3) ?_
        refine rn_if_eq 39 21 dX9_addEdge_18 (by decide) rfl (fun _ => ?_) (fun c18 => absurd (by decide) c18)
        refine rn_bipush (v := (-2)) 41 dX9_addEdge_39 (by decide) rfl ?_
        exact rn_iret rfl dX9_addEdge_41 (⟨rfl, hs0, fun _ _ => rfl⟩)
  · skip
    refine rn_iload_n 1 dX9_addEdge_0 rfl rfl rfl ?_
    refine rn_iload_n 2 dX9_addEdge_1 rfl rfl rfl ?_
    refine rn_csp mX9_areNodes [.int v1, .int v2] [] 5 (.int 0) dX9_addEdge_2 cs_X9_53 rfl rfl (by simp [Value.category]) rfl (c_mareNodes_f d mu h q1) ?_
    refine rn_if_eq 39 8 dX9_addEdge_5 (by decide) rfl (fun _ => ?_) (fun c5 => absurd (by decide) c5)
    refine rn_bipush (v := (-2)) 41 dX9_addEdge_39 (by decide) rfl ?_
    exact rn_iret rfl dX9_addEdge_41 (⟨rfl, hs0, fun _ _ => rfl⟩)

set_option maxRecDepth 100000 in
set_option maxHeartbeats 2000000 in
theorem m_addEdge_f (d : Nat) {g : List Ed} {a : Nat} {hs : List Sg} {tx : List Nat} {f : Int32} {x : Ed} (hx : e_ok x) (hne : x.1 ≠ x.2.1) (hn : g.length = 16) : MC mX9_addEdge (d + 2) [.int (nI x.1), .int (nI x.2.1), .int (nI x.2.2.1), .int (nI x.2.2.2.1), .int (nI x.2.2.2.2)] (g, a, hs, tx, f) (g, a, hs, tx, f) (.int (-4)) := by
  intro mu h hs0
  obtain ⟨hg, ha, hh, ht, hf⟩ := id hs0
  simp only at hg ha hh ht hf
  refine gd_of rfl (Nat.le_of_ble_eq_true rfl) ?_
  show rn_R none mX9_addEdge (d + 2) 0 [some (.ref 22), some (.int (nI x.1)), some (.int (nI x.2.1)), some (.int (nI x.2.2.1)), some (.int (nI x.2.2.2.1)), some (.int (nI x.2.2.2.2))] [] mu h (fun r mu' _ => r = some (.int (-4)) ∧ mS (g, a, hs, tx, f) mu' ∧ ∀ c, c < 22 → mu' c = mu c)
  obtain ⟨k1, k2, k3, k4, k5, k6⟩ := id hx
  refine rn_iload_n 1 dX9_addEdge_0 rfl rfl rfl ?_
  refine rn_iload_n 2 dX9_addEdge_1 rfl rfl rfl ?_
  refine rn_csp mX9_areNodes [.int (nI x.1), .int (nI x.2.1)] [] 5 (.int 1) dX9_addEdge_2 cs_X9_53 rfl rfl (by simp [Value.category]) rfl (c_mareNodes_t d mu h ⟨_, k1, rfl⟩ ⟨_, k2, rfl⟩) ?_
  refine rn_if_eq 39 8 dX9_addEdge_5 (by decide) rfl (fun c5 => absurd c5 (by decide)) (fun _ => ?_)
  refine rn_iload_n 9 dX9_addEdge_8 rfl rfl rfl ?_
  refine rn_iload_n 10 dX9_addEdge_9 rfl rfl rfl ?_
  refine rn_icmp_eq 39 13 dX9_addEdge_10 (by decide) rfl (fun c10 => absurd c10 (fun q => hne ((nI_eq (by omega) (by omega)).mp q))) (fun _ => ?_)
  refine rn_iconst (v := 2) 14 dX9_addEdge_13 (by decide) rfl ?_
  refine rn_iload_n 15 dX9_addEdge_14 rfl rfl rfl ?_
  refine rn_csp mX9_isValue [.int 2, .int (nI x.2.2.1)] [] 18 (.int 1) dX9_addEdge_15 cs_X9_56 rfl rfl (by simp [Value.category]) rfl (c_mv_t d mu h (Or.inl ⟨rfl, _, k3, rfl⟩)) ?_
  refine rn_if_eq 39 21 dX9_addEdge_18 (by decide) rfl (fun c18 => absurd c18 (by decide)) (fun _ => ?_)
  refine rn_iconst (v := 3) 22 dX9_addEdge_21 (by decide) rfl ?_
  refine rn_iload 24 dX9_addEdge_22 rfl rfl ?_
  refine rn_csp mX9_isValue [.int 3, .int (nI x.2.2.2.1)] [] 27 (.int 1) dX9_addEdge_24 cs_X9_56 rfl rfl (by simp [Value.category]) rfl (c_mv_t d mu h (Or.inr (Or.inl ⟨rfl, _, k4.1, k4.2, rfl⟩))) ?_
  refine rn_if_eq 39 30 dX9_addEdge_27 (by decide) rfl (fun c27 => absurd c27 (by decide)) (fun _ => ?_)
  refine rn_iconst (v := 4) 31 dX9_addEdge_30 (by decide) rfl ?_
  refine rn_iload 33 dX9_addEdge_31 rfl rfl ?_
  refine rn_csp mX9_isValue [.int 4, .int (nI x.2.2.2.2)] [] 36 (.int 1) dX9_addEdge_33 cs_X9_56 rfl rfl (by simp [Value.category]) rfl (c_mv_t d mu h (Or.inr (Or.inr ⟨rfl, _, k5, k6, rfl⟩))) ?_
  refine rn_if_ne 42 39 dX9_addEdge_36 (by decide) rfl (fun _ => ?_) (fun c36 => absurd c36 (by decide))
  refine rn_aload_n 43 dX9_addEdge_42 rfl rfl rfl ?_
  refine rn_get 46 (.ref 23) dX9_addEdge_43 fl_X9_7 rfl rfl rfl rfl ?_
  refine rn_bipush (v := 80) 48 dX9_addEdge_46 (by decide) rfl ?_
  refine rn_iald 49 (mu 23 80) dX9_addEdge_48 rfl (vp_in_nI (n := 80) (by decide) (by decide)) rfl rfl ?_
  refine rn_bipush (v := 16) 51 dX9_addEdge_49 (by decide) rfl ?_
  refine rn_icmp_ne 57 54 dX9_addEdge_51 (by decide) rfl (fun c51 => absurd (by rw [hg.2.2.1, hn]; rfl) c51) (fun _ => ?_)
  refine rn_bipush (v := (-4)) 56 dX9_addEdge_54 (by decide) rfl ?_
  exact rn_iret rfl dX9_addEdge_56 (⟨rfl, hs0, fun _ _ => rfl⟩)

set_option maxRecDepth 100000 in
set_option maxHeartbeats 2000000 in
theorem m_addEdge_t (d : Nat) {g : List Ed} {a : Nat} {hs : List Sg} {tx : List Nat} {f : Int32} {x : Ed} (hx : e_ok x) (hne : x.1 ≠ x.2.1) (hn : g.length < 16) : MC mX9_addEdge (d + 2) [.int (nI x.1), .int (nI x.2.1), .int (nI x.2.2.1), .int (nI x.2.2.2.1), .int (nI x.2.2.2.2)] (g, a, hs, tx, f) (g ++ [x], a, hk hs (g, a), tx, f) (.int (nI g.length)) := by
  intro mu h hs0
  obtain ⟨hg, ha, hh, ht, hf⟩ := id hs0
  simp only at hg ha hh ht hf
  refine gd_of rfl (Nat.le_of_ble_eq_true rfl) ?_
  show rn_R none mX9_addEdge (d + 2) 0 [some (.ref 22), some (.int (nI x.1)), some (.int (nI x.2.1)), some (.int (nI x.2.2.1)), some (.int (nI x.2.2.2.1)), some (.int (nI x.2.2.2.2))] [] mu h (fun r mu' _ => r = some (.int (nI g.length)) ∧ mS (g ++ [x], a, hk hs (g, a), tx, f) mu' ∧ ∀ c, c < 22 → mu' c = mu c)
  obtain ⟨k1, k2, k3, k4, k5, k6⟩ := id hx
  refine rn_iload_n 1 dX9_addEdge_0 rfl rfl rfl ?_
  refine rn_iload_n 2 dX9_addEdge_1 rfl rfl rfl ?_
  refine rn_csp mX9_areNodes [.int (nI x.1), .int (nI x.2.1)] [] 5 (.int 1) dX9_addEdge_2 cs_X9_53 rfl rfl (by simp [Value.category]) rfl (c_mareNodes_t d mu h ⟨_, k1, rfl⟩ ⟨_, k2, rfl⟩) ?_
  refine rn_if_eq 39 8 dX9_addEdge_5 (by decide) rfl (fun c5 => absurd c5 (by decide)) (fun _ => ?_)
  refine rn_iload_n 9 dX9_addEdge_8 rfl rfl rfl ?_
  refine rn_iload_n 10 dX9_addEdge_9 rfl rfl rfl ?_
  refine rn_icmp_eq 39 13 dX9_addEdge_10 (by decide) rfl (fun c10 => absurd c10 (fun q => hne ((nI_eq (by omega) (by omega)).mp q))) (fun _ => ?_)
  refine rn_iconst (v := 2) 14 dX9_addEdge_13 (by decide) rfl ?_
  refine rn_iload_n 15 dX9_addEdge_14 rfl rfl rfl ?_
  refine rn_csp mX9_isValue [.int 2, .int (nI x.2.2.1)] [] 18 (.int 1) dX9_addEdge_15 cs_X9_56 rfl rfl (by simp [Value.category]) rfl (c_mv_t d mu h (Or.inl ⟨rfl, _, k3, rfl⟩)) ?_
  refine rn_if_eq 39 21 dX9_addEdge_18 (by decide) rfl (fun c18 => absurd c18 (by decide)) (fun _ => ?_)
  refine rn_iconst (v := 3) 22 dX9_addEdge_21 (by decide) rfl ?_
  refine rn_iload 24 dX9_addEdge_22 rfl rfl ?_
  refine rn_csp mX9_isValue [.int 3, .int (nI x.2.2.2.1)] [] 27 (.int 1) dX9_addEdge_24 cs_X9_56 rfl rfl (by simp [Value.category]) rfl (c_mv_t d mu h (Or.inr (Or.inl ⟨rfl, _, k4.1, k4.2, rfl⟩))) ?_
  refine rn_if_eq 39 30 dX9_addEdge_27 (by decide) rfl (fun c27 => absurd c27 (by decide)) (fun _ => ?_)
  refine rn_iconst (v := 4) 31 dX9_addEdge_30 (by decide) rfl ?_
  refine rn_iload 33 dX9_addEdge_31 rfl rfl ?_
  refine rn_csp mX9_isValue [.int 4, .int (nI x.2.2.2.2)] [] 36 (.int 1) dX9_addEdge_33 cs_X9_56 rfl rfl (by simp [Value.category]) rfl (c_mv_t d mu h (Or.inr (Or.inr ⟨rfl, _, k5, k6, rfl⟩))) ?_
  refine rn_if_ne 42 39 dX9_addEdge_36 (by decide) rfl (fun _ => ?_) (fun c36 => absurd c36 (by decide))
  refine rn_aload_n 43 dX9_addEdge_42 rfl rfl rfl ?_
  refine rn_get 46 (.ref 23) dX9_addEdge_43 fl_X9_7 rfl rfl rfl rfl ?_
  refine rn_bipush (v := 80) 48 dX9_addEdge_46 (by decide) rfl ?_
  refine rn_iald 49 (mu 23 80) dX9_addEdge_48 rfl (vp_in_nI (n := 80) (by decide) (by decide)) rfl rfl ?_
  refine rn_bipush (v := 16) 51 dX9_addEdge_49 (by decide) rfl ?_
  refine rn_icmp_ne 57 54 dX9_addEdge_51 (by decide) rfl (fun _ => ?_) (fun c51 => absurd c51 (by rw [hg.2.2.1]; exact fun q => absurd ((nI_eq (b := 16) (by omega) (by omega)).mp q) (by omega)))
  refine rn_aload_n 58 dX9_addEdge_57 rfl rfl rfl ?_
  refine rn_callV mX9_keeps [] [] dX9_addEdge_58 cv_X9_59 rfl rfl rfl (by simp [Value.category]) (c_keeps (d + 1) h hg ha hh) (fun r1 m1 h1 q1 _ => ?_)
  obtain ⟨e1, hh1, fr1, fr2⟩ := q1
  subst e1
  have hs1 := mS_kept hs0 hh1 fr1 fr2
  obtain ⟨hg1, ha1, -, ht1, hf1⟩ := id hs1
  simp only at hg1 ha1 ht1 hf1
  show rn_R _ mX9_addEdge _ 61 [some (.ref 22), some (.int (nI x.1)), some (.int (nI x.2.1)), some (.int (nI x.2.2.1)), some (.int (nI x.2.2.2.1)), some (.int (nI x.2.2.2.2))] [] m1 h1 _
  refine rn_aload_n 62 dX9_addEdge_61 rfl rfl rfl ?_
  refine rn_aload_n 63 dX9_addEdge_62 rfl rfl rfl ?_
  refine rn_get 66 (.ref 23) dX9_addEdge_63 fl_X9_7 rfl rfl rfl rfl ?_
  refine rn_bipush (v := 80) 68 dX9_addEdge_66 (by decide) rfl ?_
  refine rn_iald 69 (m1 23 80) dX9_addEdge_68 rfl (vp_in_nI (n := 80) (by decide) (by decide)) rfl rfl ?_
  rw [hg1.2.2.1]
  refine rn_iload_n 70 dX9_addEdge_69 rfl rfl rfl ?_
  refine rn_iload_n 71 dX9_addEdge_70 rfl rfl rfl ?_
  refine rn_iload_n 72 dX9_addEdge_71 rfl rfl rfl ?_
  refine rn_iload 74 dX9_addEdge_72 rfl rfl ?_
  refine rn_iload 76 dX9_addEdge_74 rfl rfl ?_
  refine rn_cvm mX9_lays [.int (nI g.length), .int (nI x.1), .int (nI x.2.1), .int (nI x.2.2.1), .int (nI x.2.2.2.1), .int (nI x.2.2.2.2)] [] 79 (none) (mu_r m1 23 (l5 (m1 23) g.length (nI x.1) (nI x.2.1) (nI x.2.2.1) (nI x.2.2.2.1) (nI x.2.2.2.2))) dX9_addEdge_76 cv_X9_62 rfl rfl rfl (by simp [Value.category]) rfl (c_lays (d + 1) m1 h1 hn (nI x.1) (nI x.2.1) (nI x.2.2.1) (nI x.2.2.2.1) (nI x.2.2.2.2)) ?_
  refine rn_aload_n 80 dX9_addEdge_79 rfl rfl rfl ?_
  refine rn_get 83 (.ref 23) dX9_addEdge_80 fl_X9_7 rfl rfl rfl rfl ?_
  refine rn_bipush (v := 80) 85 dX9_addEdge_83 (by decide) rfl ?_
  refine rn_dup2_11 86 dX9_addEdge_85 rfl rfl rfl ?_
  refine rn_iald 87 (nI g.length) dX9_addEdge_86 rfl (vp_in_nI (n := 80) (by decide) (by decide)) (by show l5 _ _ _ _ _ _ _ 80 = _; rw [l5_out (by omega)]; exact hg1.2.2.1) rfl ?_
  refine rn_iconst (v := 1) 88 dX9_addEdge_87 (by decide) rfl ?_
  refine rn_iadd 89 dX9_addEdge_88 rfl ?_
  rw [nI_1]
  refine rn_iast 90 dX9_addEdge_89 rfl (vp_in_nI (n := 80) (by decide) (by decide)) rfl ?_
  rw [show (80 : Int32).toNatClampNeg = 80 from rfl, mu_rs]
  refine rn_aload_n 91 dX9_addEdge_90 rfl rfl rfl ?_
  refine rn_get 94 (.ref 23) dX9_addEdge_91 fl_X9_7 rfl rfl rfl rfl ?_
  refine rn_bipush (v := 80) 96 dX9_addEdge_94 (by decide) rfl ?_
  refine rn_iald 97 (nI (g.length + 1)) dX9_addEdge_96 rfl (vp_in_nI (n := 80) (by decide) (by decide)) rfl rfl ?_
  refine rn_iconst (v := 1) 98 dX9_addEdge_97 (by decide) rfl ?_
  refine rn_isub 99 dX9_addEdge_98 rfl ?_
  exact rn_iret rfl dX9_addEdge_99 (⟨by rw [nI_pred], mS_g hs1 (mg_app hg1 hn hx rfl) ⟨by rw [mu_r_in, pk_un (by omega), l5_out (by omega)]; exact ha1.1, by simp only [List.length_append, List.length_cons, List.length_nil]; exact Nat.lt_of_lt_of_le ha1.2 (Nat.pow_le_pow_right (by omega) (by omega))⟩ (fun c c1 => by simp [mu_s, mu_r, c1]), fun c hc => by simp [mu_s, mu_r, show c ≠ 23 by omega]; exact fr1 c (by omega) (by omega)⟩)

set_option maxRecDepth 100000 in
set_option maxHeartbeats 2000000 in
theorem m_setEdge_b (d : Nat) {g : List Ed} {a : Nat} {hs : List Sg} {tx : List Nat} {f : Int32} {v1 v2 v3 : Int32} (hv : ¬ (isin v1 g.length ∧ okV v2 v3)) : MC mX9_setEdge (d + 2) [.int v1, .int v2, .int v3] (g, a, hs, tx, f) (g, a, hs, tx, f) (.int (-2)) := by
  intro mu h hs0
  obtain ⟨hg, ha, hh, ht, hf⟩ := id hs0
  simp only at hg ha hh ht hf
  refine gd_of rfl (Nat.le_of_ble_eq_true rfl) ?_
  show rn_R none mX9_setEdge (d + 2) 0 [some (.ref 22), some (.int v1), some (.int v2), some (.int v3), none] [] mu h (fun r mu' _ => r = some (.int (-2)) ∧ mS (g, a, hs, tx, f) mu' ∧ ∀ c, c < 22 → mu' c = mu c)
  by_cases q1 : isin v1 g.length
  · skip
    have q2 : ¬ okV v2 v3 := fun q => hv ⟨q1, q⟩
    obtain ⟨e, he, rfl⟩ := q1
    refine rn_aload_n 1 dX9_setEdge_0 rfl rfl rfl ?_
    refine rn_iload_n 2 dX9_setEdge_1 rfl rfl rfl ?_
    refine rn_cvp mX9_isEdge [.int (nI e)] [] 5 (.int 1) dX9_setEdge_2 cv_X9_66 rfl rfl rfl (by simp [Value.category]) rfl (c_isEdge_t (d) h hg he) ?_
    refine rn_if_eq 16 8 dX9_setEdge_5 (by decide) rfl (fun c5 => absurd c5 (by decide)) (fun _ => ?_)
    refine rn_iload_n 9 dX9_setEdge_8 rfl rfl rfl ?_
    refine rn_iload_n 10 dX9_setEdge_9 rfl rfl rfl ?_
    refine rn_csp mX9_isValue [.int v2, .int v3] [] 13 (.int 0) dX9_setEdge_10 cs_X9_56 rfl rfl (by simp [Value.category]) rfl (c_mv_f d mu h q2) ?_
    refine rn_if_ne 19 16 dX9_setEdge_13 (by decide) rfl (fun c13 => absurd (rfl) c13) (fun _ => ?_)
    refine rn_bipush (v := (-2)) 18 dX9_setEdge_16 (by decide) rfl ?_
    exact rn_iret rfl dX9_setEdge_18 (⟨rfl, hs0, fun _ _ => rfl⟩)
  · skip
    refine rn_aload_n 1 dX9_setEdge_0 rfl rfl rfl ?_
    refine rn_iload_n 2 dX9_setEdge_1 rfl rfl rfl ?_
    refine rn_cvp mX9_isEdge [.int v1] [] 5 (.int 0) dX9_setEdge_2 cv_X9_66 rfl rfl rfl (by simp [Value.category]) rfl (c_isEdge_f (d) h hg q1) ?_
    refine rn_if_eq 16 8 dX9_setEdge_5 (by decide) rfl (fun _ => ?_) (fun c5 => absurd (by decide) c5)
    refine rn_bipush (v := (-2)) 18 dX9_setEdge_16 (by decide) rfl ?_
    exact rn_iret rfl dX9_setEdge_18 (⟨rfl, hs0, fun _ _ => rfl⟩)

set_option maxRecDepth 100000 in
set_option maxHeartbeats 2000000 in
theorem m_setEdge2 (d : Nat) {g : List Ed} {a : Nat} {hs : List Sg} {tx : List Nat} {f : Int32} {e v : Nat} {x : Ed} (hx : g[e]? = some x) (h1 : 0 ≤ v) (h2 : v ≤ 99) : MC mX9_setEdge (d + 2) [.int (nI e), .int 2, .int (nI v)] (g, a, hs, tx, f) (g.set e (eS x 2 v), a, hk hs (g, a), tx, f) (.int (nI (eL g e))) := by
  intro mu h hs0
  obtain ⟨hg, ha, hh, ht, hf⟩ := id hs0
  simp only at hg ha hh ht hf
  refine gd_of rfl (Nat.le_of_ble_eq_true rfl) ?_
  show rn_R none mX9_setEdge (d + 2) 0 [some (.ref 22), some (.int (nI e)), some (.int 2), some (.int (nI v)), none] [] mu h (fun r mu' _ => r = some (.int (nI (eL g e))) ∧ mS (g.set e (eS x 2 v), a, hk hs (g, a), tx, f) mu' ∧ ∀ c, c < 22 → mu' c = mu c)
  have he : e < g.length := (List.getElem?_eq_some_iff.mp hx).1
  have h16 := hg.1
  refine rn_aload_n 1 dX9_setEdge_0 rfl rfl rfl ?_
  refine rn_iload_n 2 dX9_setEdge_1 rfl rfl rfl ?_
  refine rn_cvp mX9_isEdge [.int (nI e)] [] 5 (.int 1) dX9_setEdge_2 cv_X9_66 rfl rfl rfl (by simp [Value.category]) rfl (c_isEdge_t (d) h hg he) ?_
  refine rn_if_eq 16 8 dX9_setEdge_5 (by decide) rfl (fun c5 => absurd c5 (by decide)) (fun _ => ?_)
  refine rn_iload_n 9 dX9_setEdge_8 rfl rfl rfl ?_
  refine rn_iload_n 10 dX9_setEdge_9 rfl rfl rfl ?_
  refine rn_csp mX9_isValue [.int 2, .int (nI v)] [] 13 (.int 1) dX9_setEdge_10 cs_X9_56 rfl rfl (by simp [Value.category]) rfl (c_mv_t d mu h (Or.inl ⟨rfl, v, by omega, rfl⟩)) ?_
  refine rn_if_ne 19 16 dX9_setEdge_13 (by decide) rfl (fun _ => ?_) (fun c13 => absurd c13 (by decide))
  refine rn_aload_n 20 dX9_setEdge_19 rfl rfl rfl ?_
  refine rn_callV mX9_keeps [] [] dX9_setEdge_20 cv_X9_59 rfl rfl rfl (by simp [Value.category]) (c_keeps (d + 1) h hg ha hh) (fun r1 m1 h1_ q1 _ => ?_)
  obtain ⟨e1, hh1, fr1, fr2⟩ := q1
  subst e1
  have hs1 := mS_kept hs0 hh1 fr1 fr2
  obtain ⟨hg1, ha1, -, ht1, hf1⟩ := id hs1
  simp only at hg1 ha1 ht1 hf1
  show rn_R _ mX9_setEdge _ 23 [some (.ref 22), some (.int (nI e)), some (.int 2), some (.int (nI v)), none] [] m1 h1_ _
  refine rn_aload_n 24 dX9_setEdge_23 rfl rfl rfl ?_
  refine rn_iload_n 25 dX9_setEdge_24 rfl rfl rfl ?_
  refine rn_iload_n 26 dX9_setEdge_25 rfl rfl rfl ?_
  refine rn_cvp mX9_of [.int (nI e), .int 2] [] 29 (.int (nI (eL g e))) dX9_setEdge_26 cv_X9_46 rfl rfl rfl (by simp [Value.category]) rfl (c_ofe (d + 1) h1_ hg1 (w := 2) he (by omega)) ?_
  refine rn_istore 31 [some (.ref 22), some (.int (nI e)), some (.int 2), some (.int (nI v)), some (.int (nI (eL g e)))] dX9_setEdge_29 rfl (Nat.le_of_ble_eq_true rfl) rfl ?_
  refine rn_aload_n 32 dX9_setEdge_31 rfl rfl rfl ?_
  refine rn_get 35 (.ref 23) dX9_setEdge_32 fl_X9_7 rfl rfl rfl rfl ?_
  refine rn_iconst (v := 5) 36 dX9_setEdge_35 (by decide) rfl ?_
  refine rn_iload_n 37 dX9_setEdge_36 rfl rfl rfl ?_
  refine rn_imul 38 dX9_setEdge_37 rfl ?_
  refine rn_iload_n 39 dX9_setEdge_38 rfl rfl rfl ?_
  refine rn_iadd 40 dX9_setEdge_39 rfl ?_
  refine rn_iload_n 41 dX9_setEdge_40 rfl rfl rfl ?_
  rw [show 5 * nI e + 2 = nI (5 * e + 2) by rw [show (5 : Int32) = nI 5 from rfl, pk_mul]; exact nI_add _ 2]
  refine rn_iast 42 dX9_setEdge_41 rfl (vp_in_nI (by omega) (by omega)) rfl ?_
  rw [nI_clamp (by omega)]
  refine rn_iload 44 dX9_setEdge_42 rfl rfl ?_
  exact rn_iret rfl dX9_setEdge_44 (⟨rfl, mS_g hs1 (mg_set hg1 hx (by omega) (eS_ok (hg1.2.1 x (List.mem_of_getElem? hx)) (Or.inl ⟨rfl, h2⟩))) ⟨by show upd (m1 23) _ _ 81 = _; rw [pk_un (by omega)]; exact ha1.1, by rw [List.length_set]; exact ha1.2⟩ (fun c c1 => by simp [mu_s, mu_r, c1]), fun c hc => by simp [mu_s, mu_r, show c ≠ 23 by omega]; exact fr1 c (by omega) (by omega)⟩)

set_option maxRecDepth 100000 in
set_option maxHeartbeats 2000000 in
theorem m_setEdge3 (d : Nat) {g : List Ed} {a : Nat} {hs : List Sg} {tx : List Nat} {f : Int32} {e v : Nat} {x : Ed} (hx : g[e]? = some x) (h1 : 1 ≤ v) (h2 : v ≤ 100) : MC mX9_setEdge (d + 2) [.int (nI e), .int 3, .int (nI v)] (g, a, hs, tx, f) (g.set e (eS x 3 v), a, hk hs (g, a), tx, f) (.int (nI (eY g e))) := by
  intro mu h hs0
  obtain ⟨hg, ha, hh, ht, hf⟩ := id hs0
  simp only at hg ha hh ht hf
  refine gd_of rfl (Nat.le_of_ble_eq_true rfl) ?_
  show rn_R none mX9_setEdge (d + 2) 0 [some (.ref 22), some (.int (nI e)), some (.int 3), some (.int (nI v)), none] [] mu h (fun r mu' _ => r = some (.int (nI (eY g e))) ∧ mS (g.set e (eS x 3 v), a, hk hs (g, a), tx, f) mu' ∧ ∀ c, c < 22 → mu' c = mu c)
  have he : e < g.length := (List.getElem?_eq_some_iff.mp hx).1
  have h16 := hg.1
  refine rn_aload_n 1 dX9_setEdge_0 rfl rfl rfl ?_
  refine rn_iload_n 2 dX9_setEdge_1 rfl rfl rfl ?_
  refine rn_cvp mX9_isEdge [.int (nI e)] [] 5 (.int 1) dX9_setEdge_2 cv_X9_66 rfl rfl rfl (by simp [Value.category]) rfl (c_isEdge_t (d) h hg he) ?_
  refine rn_if_eq 16 8 dX9_setEdge_5 (by decide) rfl (fun c5 => absurd c5 (by decide)) (fun _ => ?_)
  refine rn_iload_n 9 dX9_setEdge_8 rfl rfl rfl ?_
  refine rn_iload_n 10 dX9_setEdge_9 rfl rfl rfl ?_
  refine rn_csp mX9_isValue [.int 3, .int (nI v)] [] 13 (.int 1) dX9_setEdge_10 cs_X9_56 rfl rfl (by simp [Value.category]) rfl (c_mv_t d mu h (Or.inr (Or.inl ⟨rfl, v, h1, h2, rfl⟩))) ?_
  refine rn_if_ne 19 16 dX9_setEdge_13 (by decide) rfl (fun _ => ?_) (fun c13 => absurd c13 (by decide))
  refine rn_aload_n 20 dX9_setEdge_19 rfl rfl rfl ?_
  refine rn_callV mX9_keeps [] [] dX9_setEdge_20 cv_X9_59 rfl rfl rfl (by simp [Value.category]) (c_keeps (d + 1) h hg ha hh) (fun r1 m1 h1_ q1 _ => ?_)
  obtain ⟨e1, hh1, fr1, fr2⟩ := q1
  subst e1
  have hs1 := mS_kept hs0 hh1 fr1 fr2
  obtain ⟨hg1, ha1, -, ht1, hf1⟩ := id hs1
  simp only at hg1 ha1 ht1 hf1
  show rn_R _ mX9_setEdge _ 23 [some (.ref 22), some (.int (nI e)), some (.int 3), some (.int (nI v)), none] [] m1 h1_ _
  refine rn_aload_n 24 dX9_setEdge_23 rfl rfl rfl ?_
  refine rn_iload_n 25 dX9_setEdge_24 rfl rfl rfl ?_
  refine rn_iload_n 26 dX9_setEdge_25 rfl rfl rfl ?_
  refine rn_cvp mX9_of [.int (nI e), .int 3] [] 29 (.int (nI (eY g e))) dX9_setEdge_26 cv_X9_46 rfl rfl rfl (by simp [Value.category]) rfl (c_ofe (d + 1) h1_ hg1 (w := 3) he (by omega)) ?_
  refine rn_istore 31 [some (.ref 22), some (.int (nI e)), some (.int 3), some (.int (nI v)), some (.int (nI (eY g e)))] dX9_setEdge_29 rfl (Nat.le_of_ble_eq_true rfl) rfl ?_
  refine rn_aload_n 32 dX9_setEdge_31 rfl rfl rfl ?_
  refine rn_get 35 (.ref 23) dX9_setEdge_32 fl_X9_7 rfl rfl rfl rfl ?_
  refine rn_iconst (v := 5) 36 dX9_setEdge_35 (by decide) rfl ?_
  refine rn_iload_n 37 dX9_setEdge_36 rfl rfl rfl ?_
  refine rn_imul 38 dX9_setEdge_37 rfl ?_
  refine rn_iload_n 39 dX9_setEdge_38 rfl rfl rfl ?_
  refine rn_iadd 40 dX9_setEdge_39 rfl ?_
  refine rn_iload_n 41 dX9_setEdge_40 rfl rfl rfl ?_
  rw [show 5 * nI e + 3 = nI (5 * e + 3) by rw [show (5 : Int32) = nI 5 from rfl, pk_mul]; exact nI_add _ 3]
  refine rn_iast 42 dX9_setEdge_41 rfl (vp_in_nI (by omega) (by omega)) rfl ?_
  rw [nI_clamp (by omega)]
  refine rn_iload 44 dX9_setEdge_42 rfl rfl ?_
  exact rn_iret rfl dX9_setEdge_44 (⟨rfl, mS_g hs1 (mg_set hg1 hx (by omega) (eS_ok (hg1.2.1 x (List.mem_of_getElem? hx)) (Or.inr (Or.inl ⟨rfl, h1, h2⟩)))) ⟨by show upd (m1 23) _ _ 81 = _; rw [pk_un (by omega)]; exact ha1.1, by rw [List.length_set]; exact ha1.2⟩ (fun c c1 => by simp [mu_s, mu_r, c1]), fun c hc => by simp [mu_s, mu_r, show c ≠ 23 by omega]; exact fr1 c (by omega) (by omega)⟩)

set_option maxRecDepth 100000 in
set_option maxHeartbeats 2000000 in
theorem m_setEdge4 (d : Nat) {g : List Ed} {a : Nat} {hs : List Sg} {tx : List Nat} {f : Int32} {e v : Nat} {x : Ed} (hx : g[e]? = some x) (h1 : 1 ≤ v) (h2 : v ≤ 9) : MC mX9_setEdge (d + 2) [.int (nI e), .int 4, .int (nI v)] (g, a, hs, tx, f) (g.set e (eS x 4 v), a, hk hs (g, a), tx, f) (.int (nI (eC g e))) := by
  intro mu h hs0
  obtain ⟨hg, ha, hh, ht, hf⟩ := id hs0
  simp only at hg ha hh ht hf
  refine gd_of rfl (Nat.le_of_ble_eq_true rfl) ?_
  show rn_R none mX9_setEdge (d + 2) 0 [some (.ref 22), some (.int (nI e)), some (.int 4), some (.int (nI v)), none] [] mu h (fun r mu' _ => r = some (.int (nI (eC g e))) ∧ mS (g.set e (eS x 4 v), a, hk hs (g, a), tx, f) mu' ∧ ∀ c, c < 22 → mu' c = mu c)
  have he : e < g.length := (List.getElem?_eq_some_iff.mp hx).1
  have h16 := hg.1
  refine rn_aload_n 1 dX9_setEdge_0 rfl rfl rfl ?_
  refine rn_iload_n 2 dX9_setEdge_1 rfl rfl rfl ?_
  refine rn_cvp mX9_isEdge [.int (nI e)] [] 5 (.int 1) dX9_setEdge_2 cv_X9_66 rfl rfl rfl (by simp [Value.category]) rfl (c_isEdge_t (d) h hg he) ?_
  refine rn_if_eq 16 8 dX9_setEdge_5 (by decide) rfl (fun c5 => absurd c5 (by decide)) (fun _ => ?_)
  refine rn_iload_n 9 dX9_setEdge_8 rfl rfl rfl ?_
  refine rn_iload_n 10 dX9_setEdge_9 rfl rfl rfl ?_
  refine rn_csp mX9_isValue [.int 4, .int (nI v)] [] 13 (.int 1) dX9_setEdge_10 cs_X9_56 rfl rfl (by simp [Value.category]) rfl (c_mv_t d mu h (Or.inr (Or.inr ⟨rfl, v, h1, h2, rfl⟩))) ?_
  refine rn_if_ne 19 16 dX9_setEdge_13 (by decide) rfl (fun _ => ?_) (fun c13 => absurd c13 (by decide))
  refine rn_aload_n 20 dX9_setEdge_19 rfl rfl rfl ?_
  refine rn_callV mX9_keeps [] [] dX9_setEdge_20 cv_X9_59 rfl rfl rfl (by simp [Value.category]) (c_keeps (d + 1) h hg ha hh) (fun r1 m1 h1_ q1 _ => ?_)
  obtain ⟨e1, hh1, fr1, fr2⟩ := q1
  subst e1
  have hs1 := mS_kept hs0 hh1 fr1 fr2
  obtain ⟨hg1, ha1, -, ht1, hf1⟩ := id hs1
  simp only at hg1 ha1 ht1 hf1
  show rn_R _ mX9_setEdge _ 23 [some (.ref 22), some (.int (nI e)), some (.int 4), some (.int (nI v)), none] [] m1 h1_ _
  refine rn_aload_n 24 dX9_setEdge_23 rfl rfl rfl ?_
  refine rn_iload_n 25 dX9_setEdge_24 rfl rfl rfl ?_
  refine rn_iload_n 26 dX9_setEdge_25 rfl rfl rfl ?_
  refine rn_cvp mX9_of [.int (nI e), .int 4] [] 29 (.int (nI (eC g e))) dX9_setEdge_26 cv_X9_46 rfl rfl rfl (by simp [Value.category]) rfl (c_ofe (d + 1) h1_ hg1 (w := 4) he (by omega)) ?_
  refine rn_istore 31 [some (.ref 22), some (.int (nI e)), some (.int 4), some (.int (nI v)), some (.int (nI (eC g e)))] dX9_setEdge_29 rfl (Nat.le_of_ble_eq_true rfl) rfl ?_
  refine rn_aload_n 32 dX9_setEdge_31 rfl rfl rfl ?_
  refine rn_get 35 (.ref 23) dX9_setEdge_32 fl_X9_7 rfl rfl rfl rfl ?_
  refine rn_iconst (v := 5) 36 dX9_setEdge_35 (by decide) rfl ?_
  refine rn_iload_n 37 dX9_setEdge_36 rfl rfl rfl ?_
  refine rn_imul 38 dX9_setEdge_37 rfl ?_
  refine rn_iload_n 39 dX9_setEdge_38 rfl rfl rfl ?_
  refine rn_iadd 40 dX9_setEdge_39 rfl ?_
  refine rn_iload_n 41 dX9_setEdge_40 rfl rfl rfl ?_
  rw [show 5 * nI e + 4 = nI (5 * e + 4) by rw [show (5 : Int32) = nI 5 from rfl, pk_mul]; exact nI_add _ 4]
  refine rn_iast 42 dX9_setEdge_41 rfl (vp_in_nI (by omega) (by omega)) rfl ?_
  rw [nI_clamp (by omega)]
  refine rn_iload 44 dX9_setEdge_42 rfl rfl ?_
  exact rn_iret rfl dX9_setEdge_44 (⟨rfl, mS_g hs1 (mg_set hg1 hx (by omega) (eS_ok (hg1.2.1 x (List.mem_of_getElem? hx)) (Or.inr (Or.inr ⟨rfl, h1, h2⟩)))) ⟨by show upd (m1 23) _ _ 81 = _; rw [pk_un (by omega)]; exact ha1.1, by rw [List.length_set]; exact ha1.2⟩ (fun c c1 => by simp [mu_s, mu_r, c1]), fun c hc => by simp [mu_s, mu_r, show c ≠ 23 by omega]; exact fr1 c (by omega) (by omega)⟩)

set_option maxRecDepth 100000 in
set_option maxHeartbeats 2000000 in
theorem m_edge_b (d : Nat) {g : List Ed} {a : Nat} {hs : List Sg} {tx : List Nat} {f : Int32} {v1 v2 : Int32} (hv : ¬ (isin v1 g.length ∧ isin v2 6)) : MC mX9_edge (d + 2) [.int v1, .int v2] (g, a, hs, tx, f) (g, a, hs, tx, f) (.int (-2)) := by
  intro mu h hs0
  obtain ⟨hg, ha, hh, ht, hf⟩ := id hs0
  simp only at hg ha hh ht hf
  refine gd_of rfl (Nat.le_of_ble_eq_true rfl) ?_
  show rn_R none mX9_edge (d + 2) 0 [some (.ref 22), some (.int v1), some (.int v2)] [] mu h (fun r mu' _ => r = some (.int (-2)) ∧ mS (g, a, hs, tx, f) mu' ∧ ∀ c, c < 22 → mu' c = mu c)
  by_cases q1 : isin v1 g.length
  · skip
    have q2 : ¬ isin v2 6 := fun q => hv ⟨q1, q⟩
    obtain ⟨e, he, rfl⟩ := q1
    refine rn_aload_n 1 dX9_edge_0 rfl rfl rfl ?_
    refine rn_iload_n 2 dX9_edge_1 rfl rfl rfl ?_
    refine rn_cvp mX9_isEdge [.int (nI e)] [] 5 (.int 1) dX9_edge_2 cv_X9_66 rfl rfl rfl (by simp [Value.category]) rfl (c_isEdge_t (d) h hg he) ?_
    refine rn_if_eq 17 8 dX9_edge_5 (by decide) rfl (fun c5 => absurd c5 (by decide)) (fun _ => ?_)
    refine rn_iload_n 9 dX9_edge_8 rfl rfl rfl ?_
    refine rn_iconst (v := 0) 10 dX9_edge_9 (by decide) rfl ?_
    refine rn_iconst (v := 5) 11 dX9_edge_10 (by decide) rfl ?_
    refine rn_csp mX9_in [.int v2, .int 0, .int 5] [] 14 (.int 0) dX9_edge_11 cs_X9_38 rfl rfl (by simp [Value.category]) rfl (c_in_f (d + 1) mu h (nisin (n := 5) (by omega) q2)) ?_
    refine rn_if_ne 20 17 dX9_edge_14 (by decide) rfl (fun c14 => absurd (rfl) c14) (fun _ => ?_)
    refine rn_bipush (v := (-2)) 19 dX9_edge_17 (by decide) rfl ?_
    exact rn_iret rfl dX9_edge_19 (⟨rfl, hs0, fun _ _ => rfl⟩)
  · skip
    refine rn_aload_n 1 dX9_edge_0 rfl rfl rfl ?_
    refine rn_iload_n 2 dX9_edge_1 rfl rfl rfl ?_
    refine rn_cvp mX9_isEdge [.int v1] [] 5 (.int 0) dX9_edge_2 cv_X9_66 rfl rfl rfl (by simp [Value.category]) rfl (c_isEdge_f (d) h hg q1) ?_
    refine rn_if_eq 17 8 dX9_edge_5 (by decide) rfl (fun _ => ?_) (fun c5 => absurd (by decide) c5)
    refine rn_bipush (v := (-2)) 19 dX9_edge_17 (by decide) rfl ?_
    exact rn_iret rfl dX9_edge_19 (⟨rfl, hs0, fun _ _ => rfl⟩)

set_option maxRecDepth 100000 in
set_option maxHeartbeats 2000000 in
theorem m_edge_p (d : Nat) {g : List Ed} {a : Nat} {hs : List Sg} {tx : List Nat} {f : Int32} {e w : Nat} (he : e < g.length) (hw : w < 5) : MC mX9_edge (d + 2) [.int (nI e), .int (nI w)] (g, a, hs, tx, f) (g, a, hs, tx, f) (.int (nI (eP g e w))) := by
  intro mu h hs0
  obtain ⟨hg, ha, hh, ht, hf⟩ := id hs0
  simp only at hg ha hh ht hf
  refine gd_of rfl (Nat.le_of_ble_eq_true rfl) ?_
  show rn_R none mX9_edge (d + 2) 0 [some (.ref 22), some (.int (nI e)), some (.int (nI w))] [] mu h (fun r mu' _ => r = some (.int (nI (eP g e w))) ∧ mS (g, a, hs, tx, f) mu' ∧ ∀ c, c < 22 → mu' c = mu c)
  refine rn_aload_n 1 dX9_edge_0 rfl rfl rfl ?_
  refine rn_iload_n 2 dX9_edge_1 rfl rfl rfl ?_
  refine rn_cvp mX9_isEdge [.int (nI e)] [] 5 (.int 1) dX9_edge_2 cv_X9_66 rfl rfl rfl (by simp [Value.category]) rfl (c_isEdge_t (d) h hg he) ?_
  refine rn_if_eq 17 8 dX9_edge_5 (by decide) rfl (fun c5 => absurd c5 (by decide)) (fun _ => ?_)
  refine rn_iload_n 9 dX9_edge_8 rfl rfl rfl ?_
  refine rn_iconst (v := 0) 10 dX9_edge_9 (by decide) rfl ?_
  refine rn_iconst (v := 5) 11 dX9_edge_10 (by decide) rfl ?_
  refine rn_csp mX9_in [.int (nI w), .int 0, .int 5] [] 14 (.int 1) dX9_edge_11 cs_X9_38 rfl rfl (by simp [Value.category]) rfl (c_in_t (d + 1) mu h (nI_pos (by omega)) (nI_nlt (a := 5) (by omega) (by omega))) ?_
  refine rn_if_ne 20 17 dX9_edge_14 (by decide) rfl (fun _ => ?_) (fun c14 => absurd c14 (by decide))
  refine rn_iload_n 21 dX9_edge_20 rfl rfl rfl ?_
  refine rn_iconst (v := 5) 22 dX9_edge_21 (by decide) rfl ?_
  refine rn_icmp_ge 34 25 dX9_edge_22 (by decide) rfl (fun c22 => absurd c22 (nI_ge (b := 5) (by omega) (by omega))) (fun _ => ?_)
  refine rn_aload_n 26 dX9_edge_25 rfl rfl rfl ?_
  refine rn_iload_n 27 dX9_edge_26 rfl rfl rfl ?_
  refine rn_iload_n 28 dX9_edge_27 rfl rfl rfl ?_
  refine rn_cvp mX9_of [.int (nI e), .int (nI w)] [] 31 (.int (nI (eP g e w))) dX9_edge_28 cv_X9_46 rfl rfl rfl (by simp [Value.category]) rfl (c_ofe (d + 1) h hg he hw) ?_
  refine rn_goto 45 dX9_edge_31 (by decide) ?_
  exact rn_iret rfl dX9_edge_45 (⟨rfl, hs0, fun _ _ => rfl⟩)

set_option maxRecDepth 100000 in
set_option maxHeartbeats 2000000 in
theorem m_edge_a (d : Nat) {g : List Ed} {a : Nat} {hs : List Sg} {tx : List Nat} {f : Int32} {e : Nat} (he : e < g.length) : MC mX9_edge (d + 2) [.int (nI e), .int 5] (g, a, hs, tx, f) (g, a, hs, tx, f) (.int (if a.testBit e then 1 else 0)) := by
  intro mu h hs0
  obtain ⟨hg, ha, hh, ht, hf⟩ := id hs0
  simp only at hg ha hh ht hf
  refine gd_of rfl (Nat.le_of_ble_eq_true rfl) ?_
  show rn_R none mX9_edge (d + 2) 0 [some (.ref 22), some (.int (nI e)), some (.int 5)] [] mu h (fun r mu' _ => r = some (.int (if a.testBit e then 1 else 0)) ∧ mS (g, a, hs, tx, f) mu' ∧ ∀ c, c < 22 → mu' c = mu c)
  have hp := pw_le hg.1
  have ha2 := ha.2
  have h16 := hg.1
  refine rn_aload_n 1 dX9_edge_0 rfl rfl rfl ?_
  refine rn_iload_n 2 dX9_edge_1 rfl rfl rfl ?_
  refine rn_cvp mX9_isEdge [.int (nI e)] [] 5 (.int 1) dX9_edge_2 cv_X9_66 rfl rfl rfl (by simp [Value.category]) rfl (c_isEdge_t (d) h hg he) ?_
  refine rn_if_eq 17 8 dX9_edge_5 (by decide) rfl (fun c5 => absurd c5 (by decide)) (fun _ => ?_)
  refine rn_iload_n 9 dX9_edge_8 rfl rfl rfl ?_
  refine rn_iconst (v := 0) 10 dX9_edge_9 (by decide) rfl ?_
  refine rn_iconst (v := 5) 11 dX9_edge_10 (by decide) rfl ?_
  refine rn_csp mX9_in [.int 5, .int 0, .int 5] [] 14 (.int 1) dX9_edge_11 cs_X9_38 rfl rfl (by simp [Value.category]) rfl (c_in_t (d + 1) mu h (by decide) (by decide)) ?_
  refine rn_if_ne 20 17 dX9_edge_14 (by decide) rfl (fun _ => ?_) (fun c14 => absurd c14 (by decide))
  refine rn_iload_n 21 dX9_edge_20 rfl rfl rfl ?_
  refine rn_iconst (v := 5) 22 dX9_edge_21 (by decide) rfl ?_
  refine rn_icmp_ge 34 25 dX9_edge_22 (by decide) rfl (fun _ => ?_) (fun c22 => absurd (by decide) c22)
  refine rn_aload_n 35 dX9_edge_34 rfl rfl rfl ?_
  refine rn_get 38 (.ref 23) dX9_edge_35 fl_X9_7 rfl rfl rfl rfl ?_
  refine rn_bipush (v := 81) 40 dX9_edge_38 (by decide) rfl ?_
  refine rn_iald 41 (mu 23 81) dX9_edge_40 rfl (vp_in_nI (n := 81) (by decide) (by decide)) rfl rfl ?_
  refine rn_iload_n 42 dX9_edge_41 rfl rfl rfl ?_
  refine rn_ishr 43 dX9_edge_42 rfl ?_
  refine rn_iconst (v := 1) 44 dX9_edge_43 (by decide) rfl ?_
  refine rn_iand 45 dX9_edge_44 rfl ?_
  exact rn_iret rfl dX9_edge_45 (⟨by rw [ha.1, nb_bit (by omega) (by omega)], hs0, fun _ _ => rfl⟩)

set_option maxRecDepth 100000 in
set_option maxHeartbeats 2000000 in
theorem m_clear (d : Nat) {g : List Ed} {a : Nat} {hs : List Sg} {tx : List Nat} {f : Int32}  : MC mX9_clear (d + 1) [] (g, a, hs, tx, f) ([], 0, hk hs (g, a), tx, f) (.int (nI g.length)) := by
  intro mu h hs0
  obtain ⟨hg, ha, hh, ht, hf⟩ := id hs0
  simp only at hg ha hh ht hf
  refine gd_of rfl (Nat.le_of_ble_eq_true rfl) ?_
  show rn_R none mX9_clear (d + 1) 0 [some (.ref 22), none] [] mu h (fun r mu' _ => r = some (.int (nI g.length)) ∧ mS ([], 0, hk hs (g, a), tx, f) mu' ∧ ∀ c, c < 22 → mu' c = mu c)
  refine rn_aload_n 1 dX9_clear_0 rfl rfl rfl ?_
  refine rn_callV mX9_keeps [] [] dX9_clear_1 cv_X9_59 rfl rfl rfl (by simp [Value.category]) (c_keeps (d) h hg ha hh) (fun r1 m1 h1 q1 _ => ?_)
  obtain ⟨e1, hh1, fr1, fr2⟩ := q1
  subst e1
  have hs1 := mS_kept hs0 hh1 fr1 fr2
  obtain ⟨hg1, ha1, -, ht1, hf1⟩ := id hs1
  simp only at hg1 ha1 ht1 hf1
  show rn_R _ mX9_clear _ 4 [some (.ref 22), none] [] m1 h1 _
  refine rn_aload_n 5 dX9_clear_4 rfl rfl rfl ?_
  refine rn_get 8 (.ref 23) dX9_clear_5 fl_X9_7 rfl rfl rfl rfl ?_
  refine rn_bipush (v := 80) 10 dX9_clear_8 (by decide) rfl ?_
  refine rn_iald 11 (m1 23 80) dX9_clear_10 rfl (vp_in_nI (n := 80) (by decide) (by decide)) rfl rfl ?_
  refine rn_istore_n 12 [some (.ref 22), some (.int (m1 23 80))] dX9_clear_11 rfl rfl (Nat.le_of_ble_eq_true rfl) rfl ?_
  refine rn_aload_n 13 dX9_clear_12 rfl rfl rfl ?_
  refine rn_get 16 (.ref 23) dX9_clear_13 fl_X9_7 rfl rfl rfl rfl ?_
  refine rn_bipush (v := 80) 18 dX9_clear_16 (by decide) rfl ?_
  refine rn_iconst (v := 0) 19 dX9_clear_18 (by decide) rfl ?_
  refine rn_iast 20 dX9_clear_19 rfl (vp_in_nI (n := 80) (by decide) (by decide)) rfl ?_
  rw [show (80 : Int32).toNatClampNeg = 80 from rfl]
  refine rn_aload_n 21 dX9_clear_20 rfl rfl rfl ?_
  refine rn_get 24 (.ref 23) dX9_clear_21 fl_X9_7 rfl rfl rfl rfl ?_
  refine rn_bipush (v := 81) 26 dX9_clear_24 (by decide) rfl ?_
  refine rn_iconst (v := 0) 27 dX9_clear_26 (by decide) rfl ?_
  refine rn_iast 28 dX9_clear_27 rfl (vp_in_nI (n := 81) (by decide) (by decide)) rfl ?_
  rw [show (81 : Int32).toNatClampNeg = 81 from rfl]
  refine rn_iload_n 29 dX9_clear_28 rfl rfl rfl ?_
  exact rn_iret rfl dX9_clear_29 (⟨by rw [hg1.2.2.1], mS_g hs1 ⟨by simp, by simp, rfl, by simp⟩ ⟨rfl, by simp⟩ (fun c c1 => by simp [mu_s, mu_r, c1]), fun c hc => by simp [mu_s, mu_r, show c ≠ 23 by omega]; exact fr1 c (by omega) (by omega)⟩)

set_option maxRecDepth 100000 in
set_option maxHeartbeats 2000000 in
theorem m_attack_b (d : Nat) {g : List Ed} {a : Nat} {hs : List Sg} {tx : List Nat} {f : Int32} {v1 v2 : Int32} (hv : ¬ isin v1 g.length) : MC mX9_attack (d + 2) [.int v1, .int v2] (g, a, hs, tx, f) (g, a, hs, tx, f) (.int (-2)) := by
  intro mu h hs0
  obtain ⟨hg, ha, hh, ht, hf⟩ := id hs0
  simp only at hg ha hh ht hf
  refine gd_of rfl (Nat.le_of_ble_eq_true rfl) ?_
  show rn_R none mX9_attack (d + 2) 0 [some (.ref 22), some (.int v1), some (.int v2)] [] mu h (fun r mu' _ => r = some (.int (-2)) ∧ mS (g, a, hs, tx, f) mu' ∧ ∀ c, c < 22 → mu' c = mu c)
  refine rn_aload_n 1 dX9_attack_0 rfl rfl rfl ?_
  refine rn_iload_n 2 dX9_attack_1 rfl rfl rfl ?_
  refine rn_cvp mX9_isEdge [.int v1] [] 5 (.int 0) dX9_attack_2 cv_X9_66 rfl rfl rfl (by simp [Value.category]) rfl (c_isEdge_f (d) h hg hv) ?_
  refine rn_if_ne 11 8 dX9_attack_5 (by decide) rfl (fun c5 => absurd (rfl) c5) (fun _ => ?_)
  refine rn_bipush (v := (-2)) 10 dX9_attack_8 (by decide) rfl ?_
  exact rn_iret rfl dX9_attack_10 (⟨rfl, hs0, fun _ _ => rfl⟩)

set_option maxRecDepth 100000 in
set_option maxHeartbeats 2000000 in
theorem m_attack_s0 (d : Nat) {g : List Ed} {a : Nat} {hs : List Sg} {tx : List Nat} {f : Int32} {e : Nat} (he : e < g.length) (hb : a.testBit e = false) : MC mX9_attack (d + 3) [.int (nI e), .int 0] (g, a, hs, tx, f) (g, a, hs, tx, f) (.int (-3)) := by
  intro mu h hs0
  obtain ⟨hg, ha, hh, ht, hf⟩ := id hs0
  simp only at hg ha hh ht hf
  refine gd_of rfl (Nat.le_of_ble_eq_true rfl) ?_
  show rn_R none mX9_attack (d + 3) 0 [some (.ref 22), some (.int (nI e)), some (.int 0)] [] mu h (fun r mu' _ => r = some (.int (-3)) ∧ mS (g, a, hs, tx, f) mu' ∧ ∀ c, c < 22 → mu' c = mu c)
  have hp := pw_le hg.1
  have ha2 := ha.2
  have h16 := hg.1
  have hm := c_mhas (d + 2) mu h (S := a) (e := e) (by omega) (by omega)
  rw [show a.testBit e = false from hb] at hm
  refine rn_aload_n 1 dX9_attack_0 rfl rfl rfl ?_
  refine rn_iload_n 2 dX9_attack_1 rfl rfl rfl ?_
  refine rn_cvp mX9_isEdge [.int (nI e)] [] 5 (.int 1) dX9_attack_2 cv_X9_66 rfl rfl rfl (by simp [Value.category]) rfl (c_isEdge_t (d + 1) h hg he) ?_
  refine rn_if_ne 11 8 dX9_attack_5 (by decide) rfl (fun _ => ?_) (fun c5 => absurd c5 (by decide))
  refine rn_aload_n 12 dX9_attack_11 rfl rfl rfl ?_
  refine rn_get 15 (.ref 23) dX9_attack_12 fl_X9_7 rfl rfl rfl rfl ?_
  refine rn_bipush (v := 81) 17 dX9_attack_15 (by decide) rfl ?_
  refine rn_iald 18 (mu 23 81) dX9_attack_17 rfl (vp_in_nI (n := 81) (by decide) (by decide)) rfl rfl ?_
  rw [ha.1]
  refine rn_iload_n 19 dX9_attack_18 rfl rfl rfl ?_
  refine rn_csp mX9_has [.int (nI a), .int (nI e)] [] 22 (.int (if false = true then 1 else 0)) dX9_attack_19 cs_X9_42 rfl rfl (by simp [Value.category]) rfl (hm) ?_
  refine rn_iload_n 23 dX9_attack_22 rfl rfl rfl ?_
  refine rn_icmp_ne 29 26 dX9_attack_23 (by decide) rfl (fun c23 => absurd (rfl) c23) (fun _ => ?_)
  refine rn_bipush (v := (-3)) 28 dX9_attack_26 (by decide) rfl ?_
  exact rn_iret rfl dX9_attack_28 (⟨rfl, hs0, fun _ _ => rfl⟩)

set_option maxRecDepth 100000 in
set_option maxHeartbeats 2000000 in
theorem m_attack_t0 (d : Nat) {g : List Ed} {a : Nat} {hs : List Sg} {tx : List Nat} {f : Int32} {e : Nat} (he : e < g.length) (hb : a.testBit e = true) : MC mX9_attack (d + 3) [.int (nI e), .int 0] (g, a, hs, tx, f) (g, a ^^^ 2 ^ e, hk hs (g, a), tx, f) (.int (nI (cS g (a ^^^ 2 ^ e) g.length))) := by
  intro mu h hs0
  obtain ⟨hg, ha, hh, ht, hf⟩ := id hs0
  simp only at hg ha hh ht hf
  refine gd_of rfl (Nat.le_of_ble_eq_true rfl) ?_
  show rn_R none mX9_attack (d + 3) 0 [some (.ref 22), some (.int (nI e)), some (.int 0)] [] mu h (fun r mu' _ => r = some (.int (nI (cS g (a ^^^ 2 ^ e) g.length))) ∧ mS (g, a ^^^ 2 ^ e, hk hs (g, a), tx, f) mu' ∧ ∀ c, c < 22 → mu' c = mu c)
  have hp := pw_le hg.1
  have ha2 := ha.2
  have h16 := hg.1
  have hm := c_mhas (d + 2) mu h (S := a) (e := e) (by omega) (by omega)
  rw [show a.testBit e = true from hb] at hm
  have hlt : a ^^^ 2 ^ e < 2 ^ g.length := Nat.xor_lt_two_pow ha.2 (Nat.pow_lt_pow_right (by omega) he)
  refine rn_aload_n 1 dX9_attack_0 rfl rfl rfl ?_
  refine rn_iload_n 2 dX9_attack_1 rfl rfl rfl ?_
  refine rn_cvp mX9_isEdge [.int (nI e)] [] 5 (.int 1) dX9_attack_2 cv_X9_66 rfl rfl rfl (by simp [Value.category]) rfl (c_isEdge_t (d + 1) h hg he) ?_
  refine rn_if_ne 11 8 dX9_attack_5 (by decide) rfl (fun _ => ?_) (fun c5 => absurd c5 (by decide))
  refine rn_aload_n 12 dX9_attack_11 rfl rfl rfl ?_
  refine rn_get 15 (.ref 23) dX9_attack_12 fl_X9_7 rfl rfl rfl rfl ?_
  refine rn_bipush (v := 81) 17 dX9_attack_15 (by decide) rfl ?_
  refine rn_iald 18 (mu 23 81) dX9_attack_17 rfl (vp_in_nI (n := 81) (by decide) (by decide)) rfl rfl ?_
  rw [ha.1]
  refine rn_iload_n 19 dX9_attack_18 rfl rfl rfl ?_
  refine rn_csp mX9_has [.int (nI a), .int (nI e)] [] 22 (.int (if true = true then 1 else 0)) dX9_attack_19 cs_X9_42 rfl rfl (by simp [Value.category]) rfl (hm) ?_
  refine rn_iload_n 23 dX9_attack_22 rfl rfl rfl ?_
  refine rn_icmp_ne 29 26 dX9_attack_23 (by decide) rfl (fun _ => ?_) (fun c23 => absurd c23 (by decide))
  refine rn_aload_n 30 dX9_attack_29 rfl rfl rfl ?_
  refine rn_callV mX9_keeps [] [] dX9_attack_30 cv_X9_59 rfl rfl rfl (by simp [Value.category]) (c_keeps (d + 2) h hg ha hh) (fun r1 m1 h1 q1 _ => ?_)
  obtain ⟨e1, hh1, fr1, fr2⟩ := q1
  subst e1
  have hs1 := mS_kept hs0 hh1 fr1 fr2
  obtain ⟨hg1, ha1, -, ht1, hf1⟩ := id hs1
  simp only at hg1 ha1 ht1 hf1
  show rn_R _ mX9_attack _ 33 [some (.ref 22), some (.int (nI e)), some (.int 0)] [] m1 h1 _
  refine rn_aload_n 34 dX9_attack_33 rfl rfl rfl ?_
  refine rn_get 37 (.ref 23) dX9_attack_34 fl_X9_7 rfl rfl rfl rfl ?_
  refine rn_bipush (v := 81) 39 dX9_attack_37 (by decide) rfl ?_
  refine rn_aload_n 40 dX9_attack_39 rfl rfl rfl ?_
  refine rn_get 43 (.ref 23) dX9_attack_40 fl_X9_7 rfl rfl rfl rfl ?_
  refine rn_bipush (v := 81) 45 dX9_attack_43 (by decide) rfl ?_
  refine rn_iald 46 (m1 23 81) dX9_attack_45 rfl (vp_in_nI (n := 81) (by decide) (by decide)) rfl rfl ?_
  refine rn_iconst (v := 1) 47 dX9_attack_46 (by decide) rfl ?_
  refine rn_iload_n 48 dX9_attack_47 rfl rfl rfl ?_
  refine rn_ishl 49 dX9_attack_48 rfl ?_
  refine rn_ixor 50 dX9_attack_49 rfl ?_
  rw [show m1 23 81 ^^^ (1 <<< (nI e &&& 31)) = nI (a ^^^ 2 ^ e) by rw [ha1.1, nb_1 (by omega), nb_xor]]
  refine rn_iast 51 dX9_attack_50 rfl (vp_in_nI (n := 81) (by decide) (by decide)) rfl ?_
  rw [show (81 : Int32).toNatClampNeg = 81 from rfl]
  refine rn_aload_n 52 dX9_attack_51 rfl rfl rfl ?_
  refine rn_aload_n 53 dX9_attack_52 rfl rfl rfl ?_
  refine rn_get 56 (.ref 23) dX9_attack_53 fl_X9_7 rfl rfl rfl rfl ?_
  refine rn_bipush (v := 81) 58 dX9_attack_56 (by decide) rfl ?_
  refine rn_iald 59 (nI (a ^^^ 2 ^ e)) dX9_attack_58 rfl (vp_in_nI (n := 81) (by decide) (by decide)) rfl rfl ?_
  refine rn_cvp mX9_costOf [.int (nI (a ^^^ 2 ^ e))] [] 62 (.int (nI (cS g (a ^^^ 2 ^ e) g.length))) dX9_attack_59 cv_X9_118 rfl rfl rfl (by simp [Value.category]) rfl (c_costOf d h1 (mg_81 hg1 (nI (a ^^^ 2 ^ e))) (S := a ^^^ 2 ^ e) (by omega)) ?_
  exact rn_iret rfl dX9_attack_62 (⟨rfl, mS_g hs1 (mg_81 hg1 _) ⟨rfl, hlt⟩ (fun c c1 => by simp [mu_s, mu_r, c1]), fun c hc => by simp [mu_s, mu_r, show c ≠ 23 by omega]; exact fr1 c (by omega) (by omega)⟩)

set_option maxRecDepth 100000 in
set_option maxHeartbeats 2000000 in
theorem m_attack_s1 (d : Nat) {g : List Ed} {a : Nat} {hs : List Sg} {tx : List Nat} {f : Int32} {e : Nat} (he : e < g.length) (hb : a.testBit e = true) : MC mX9_attack (d + 3) [.int (nI e), .int 1] (g, a, hs, tx, f) (g, a, hs, tx, f) (.int (-3)) := by
  intro mu h hs0
  obtain ⟨hg, ha, hh, ht, hf⟩ := id hs0
  simp only at hg ha hh ht hf
  refine gd_of rfl (Nat.le_of_ble_eq_true rfl) ?_
  show rn_R none mX9_attack (d + 3) 0 [some (.ref 22), some (.int (nI e)), some (.int 1)] [] mu h (fun r mu' _ => r = some (.int (-3)) ∧ mS (g, a, hs, tx, f) mu' ∧ ∀ c, c < 22 → mu' c = mu c)
  have hp := pw_le hg.1
  have ha2 := ha.2
  have h16 := hg.1
  have hm := c_mhas (d + 2) mu h (S := a) (e := e) (by omega) (by omega)
  rw [show a.testBit e = true from hb] at hm
  refine rn_aload_n 1 dX9_attack_0 rfl rfl rfl ?_
  refine rn_iload_n 2 dX9_attack_1 rfl rfl rfl ?_
  refine rn_cvp mX9_isEdge [.int (nI e)] [] 5 (.int 1) dX9_attack_2 cv_X9_66 rfl rfl rfl (by simp [Value.category]) rfl (c_isEdge_t (d + 1) h hg he) ?_
  refine rn_if_ne 11 8 dX9_attack_5 (by decide) rfl (fun _ => ?_) (fun c5 => absurd c5 (by decide))
  refine rn_aload_n 12 dX9_attack_11 rfl rfl rfl ?_
  refine rn_get 15 (.ref 23) dX9_attack_12 fl_X9_7 rfl rfl rfl rfl ?_
  refine rn_bipush (v := 81) 17 dX9_attack_15 (by decide) rfl ?_
  refine rn_iald 18 (mu 23 81) dX9_attack_17 rfl (vp_in_nI (n := 81) (by decide) (by decide)) rfl rfl ?_
  rw [ha.1]
  refine rn_iload_n 19 dX9_attack_18 rfl rfl rfl ?_
  refine rn_csp mX9_has [.int (nI a), .int (nI e)] [] 22 (.int (if true = true then 1 else 0)) dX9_attack_19 cs_X9_42 rfl rfl (by simp [Value.category]) rfl (hm) ?_
  refine rn_iload_n 23 dX9_attack_22 rfl rfl rfl ?_
  refine rn_icmp_ne 29 26 dX9_attack_23 (by decide) rfl (fun c23 => absurd (rfl) c23) (fun _ => ?_)
  refine rn_bipush (v := (-3)) 28 dX9_attack_26 (by decide) rfl ?_
  exact rn_iret rfl dX9_attack_28 (⟨rfl, hs0, fun _ _ => rfl⟩)

set_option maxRecDepth 100000 in
set_option maxHeartbeats 2000000 in
theorem m_attack_t1 (d : Nat) {g : List Ed} {a : Nat} {hs : List Sg} {tx : List Nat} {f : Int32} {e : Nat} (he : e < g.length) (hb : a.testBit e = false) : MC mX9_attack (d + 3) [.int (nI e), .int 1] (g, a, hs, tx, f) (g, a ^^^ 2 ^ e, hk hs (g, a), tx, f) (.int (nI (cS g (a ^^^ 2 ^ e) g.length))) := by
  intro mu h hs0
  obtain ⟨hg, ha, hh, ht, hf⟩ := id hs0
  simp only at hg ha hh ht hf
  refine gd_of rfl (Nat.le_of_ble_eq_true rfl) ?_
  show rn_R none mX9_attack (d + 3) 0 [some (.ref 22), some (.int (nI e)), some (.int 1)] [] mu h (fun r mu' _ => r = some (.int (nI (cS g (a ^^^ 2 ^ e) g.length))) ∧ mS (g, a ^^^ 2 ^ e, hk hs (g, a), tx, f) mu' ∧ ∀ c, c < 22 → mu' c = mu c)
  have hp := pw_le hg.1
  have ha2 := ha.2
  have h16 := hg.1
  have hm := c_mhas (d + 2) mu h (S := a) (e := e) (by omega) (by omega)
  rw [show a.testBit e = false from hb] at hm
  have hlt : a ^^^ 2 ^ e < 2 ^ g.length := Nat.xor_lt_two_pow ha.2 (Nat.pow_lt_pow_right (by omega) he)
  refine rn_aload_n 1 dX9_attack_0 rfl rfl rfl ?_
  refine rn_iload_n 2 dX9_attack_1 rfl rfl rfl ?_
  refine rn_cvp mX9_isEdge [.int (nI e)] [] 5 (.int 1) dX9_attack_2 cv_X9_66 rfl rfl rfl (by simp [Value.category]) rfl (c_isEdge_t (d + 1) h hg he) ?_
  refine rn_if_ne 11 8 dX9_attack_5 (by decide) rfl (fun _ => ?_) (fun c5 => absurd c5 (by decide))
  refine rn_aload_n 12 dX9_attack_11 rfl rfl rfl ?_
  refine rn_get 15 (.ref 23) dX9_attack_12 fl_X9_7 rfl rfl rfl rfl ?_
  refine rn_bipush (v := 81) 17 dX9_attack_15 (by decide) rfl ?_
  refine rn_iald 18 (mu 23 81) dX9_attack_17 rfl (vp_in_nI (n := 81) (by decide) (by decide)) rfl rfl ?_
  rw [ha.1]
  refine rn_iload_n 19 dX9_attack_18 rfl rfl rfl ?_
  refine rn_csp mX9_has [.int (nI a), .int (nI e)] [] 22 (.int (if false = true then 1 else 0)) dX9_attack_19 cs_X9_42 rfl rfl (by simp [Value.category]) rfl (hm) ?_
  refine rn_iload_n 23 dX9_attack_22 rfl rfl rfl ?_
  refine rn_icmp_ne 29 26 dX9_attack_23 (by decide) rfl (fun _ => ?_) (fun c23 => absurd c23 (by decide))
  refine rn_aload_n 30 dX9_attack_29 rfl rfl rfl ?_
  refine rn_callV mX9_keeps [] [] dX9_attack_30 cv_X9_59 rfl rfl rfl (by simp [Value.category]) (c_keeps (d + 2) h hg ha hh) (fun r1 m1 h1 q1 _ => ?_)
  obtain ⟨e1, hh1, fr1, fr2⟩ := q1
  subst e1
  have hs1 := mS_kept hs0 hh1 fr1 fr2
  obtain ⟨hg1, ha1, -, ht1, hf1⟩ := id hs1
  simp only at hg1 ha1 ht1 hf1
  show rn_R _ mX9_attack _ 33 [some (.ref 22), some (.int (nI e)), some (.int 1)] [] m1 h1 _
  refine rn_aload_n 34 dX9_attack_33 rfl rfl rfl ?_
  refine rn_get 37 (.ref 23) dX9_attack_34 fl_X9_7 rfl rfl rfl rfl ?_
  refine rn_bipush (v := 81) 39 dX9_attack_37 (by decide) rfl ?_
  refine rn_aload_n 40 dX9_attack_39 rfl rfl rfl ?_
  refine rn_get 43 (.ref 23) dX9_attack_40 fl_X9_7 rfl rfl rfl rfl ?_
  refine rn_bipush (v := 81) 45 dX9_attack_43 (by decide) rfl ?_
  refine rn_iald 46 (m1 23 81) dX9_attack_45 rfl (vp_in_nI (n := 81) (by decide) (by decide)) rfl rfl ?_
  refine rn_iconst (v := 1) 47 dX9_attack_46 (by decide) rfl ?_
  refine rn_iload_n 48 dX9_attack_47 rfl rfl rfl ?_
  refine rn_ishl 49 dX9_attack_48 rfl ?_
  refine rn_ixor 50 dX9_attack_49 rfl ?_
  rw [show m1 23 81 ^^^ (1 <<< (nI e &&& 31)) = nI (a ^^^ 2 ^ e) by rw [ha1.1, nb_1 (by omega), nb_xor]]
  refine rn_iast 51 dX9_attack_50 rfl (vp_in_nI (n := 81) (by decide) (by decide)) rfl ?_
  rw [show (81 : Int32).toNatClampNeg = 81 from rfl]
  refine rn_aload_n 52 dX9_attack_51 rfl rfl rfl ?_
  refine rn_aload_n 53 dX9_attack_52 rfl rfl rfl ?_
  refine rn_get 56 (.ref 23) dX9_attack_53 fl_X9_7 rfl rfl rfl rfl ?_
  refine rn_bipush (v := 81) 58 dX9_attack_56 (by decide) rfl ?_
  refine rn_iald 59 (nI (a ^^^ 2 ^ e)) dX9_attack_58 rfl (vp_in_nI (n := 81) (by decide) (by decide)) rfl rfl ?_
  refine rn_cvp mX9_costOf [.int (nI (a ^^^ 2 ^ e))] [] 62 (.int (nI (cS g (a ^^^ 2 ^ e) g.length))) dX9_attack_59 cv_X9_118 rfl rfl rfl (by simp [Value.category]) rfl (c_costOf d h1 (mg_81 hg1 (nI (a ^^^ 2 ^ e))) (S := a ^^^ 2 ^ e) (by omega)) ?_
  exact rn_iret rfl dX9_attack_62 (⟨rfl, mS_g hs1 (mg_81 hg1 _) ⟨rfl, hlt⟩ (fun c c1 => by simp [mu_s, mu_r, c1]), fun c hc => by simp [mu_s, mu_r, show c ≠ 23 by omega]; exact fr1 c (by omega) (by omega)⟩)

set_option maxRecDepth 100000 in
set_option maxHeartbeats 2000000 in
theorem m_setAttack_b (d : Nat) {g : List Ed} {a : Nat} {hs : List Sg} {tx : List Nat} {f : Int32} {v : Int32} (hv : ¬ isin v (2 ^ g.length)) : MC mX9_setAttack (d + 1) [.int v] (g, a, hs, tx, f) (g, a, hs, tx, f) (.int (-2)) := by
  intro mu h hs0
  obtain ⟨hg, ha, hh, ht, hf⟩ := id hs0
  simp only at hg ha hh ht hf
  refine gd_of rfl (Nat.le_of_ble_eq_true rfl) ?_
  show rn_R none mX9_setAttack (d + 1) 0 [some (.ref 22), some (.int v)] [] mu h (fun r mu' _ => r = some (.int (-2)) ∧ mS (g, a, hs, tx, f) mu' ∧ ∀ c, c < 22 → mu' c = mu c)
  refine rn_aload_n 1 dX9_setAttack_0 rfl rfl rfl ?_
  refine rn_iload_n 2 dX9_setAttack_1 rfl rfl rfl ?_
  refine rn_cvp mX9_isSet [.int v] [] 5 (.int 0) dX9_setAttack_2 cv_X9_121 rfl rfl rfl (by simp [Value.category]) rfl (c_isSet_f d h hg hv) ?_
  refine rn_if_ne 11 8 dX9_setAttack_5 (by decide) rfl (fun c5 => absurd (rfl) c5) (fun _ => ?_)
  refine rn_bipush (v := (-2)) 10 dX9_setAttack_8 (by decide) rfl ?_
  exact rn_iret rfl dX9_setAttack_10 (⟨rfl, hs0, fun _ _ => rfl⟩)

set_option maxRecDepth 100000 in
set_option maxHeartbeats 2000000 in
theorem m_setAttack_t (d : Nat) {g : List Ed} {a : Nat} {hs : List Sg} {tx : List Nat} {f : Int32} {S : Nat} (hS : S < 2 ^ g.length) : MC mX9_setAttack (d + 3) [.int (nI S)] (g, a, hs, tx, f) (g, S, hk hs (g, a), tx, f) (.int (nI (cS g S g.length))) := by
  intro mu h hs0
  obtain ⟨hg, ha, hh, ht, hf⟩ := id hs0
  simp only at hg ha hh ht hf
  refine gd_of rfl (Nat.le_of_ble_eq_true rfl) ?_
  show rn_R none mX9_setAttack (d + 3) 0 [some (.ref 22), some (.int (nI S))] [] mu h (fun r mu' _ => r = some (.int (nI (cS g S g.length))) ∧ mS (g, S, hk hs (g, a), tx, f) mu' ∧ ∀ c, c < 22 → mu' c = mu c)
  have hp := pw_le hg.1
  refine rn_aload_n 1 dX9_setAttack_0 rfl rfl rfl ?_
  refine rn_iload_n 2 dX9_setAttack_1 rfl rfl rfl ?_
  refine rn_cvp mX9_isSet [.int (nI S)] [] 5 (.int 1) dX9_setAttack_2 cv_X9_121 rfl rfl rfl (by simp [Value.category]) rfl (c_isSet_t (d + 2) h hg hS) ?_
  refine rn_if_ne 11 8 dX9_setAttack_5 (by decide) rfl (fun _ => ?_) (fun c5 => absurd c5 (by decide))
  refine rn_aload_n 12 dX9_setAttack_11 rfl rfl rfl ?_
  refine rn_callV mX9_keeps [] [] dX9_setAttack_12 cv_X9_59 rfl rfl rfl (by simp [Value.category]) (c_keeps (d + 2) h hg ha hh) (fun r1 m1 h1 q1 _ => ?_)
  obtain ⟨e1, hh1, fr1, fr2⟩ := q1
  subst e1
  have hs1 := mS_kept hs0 hh1 fr1 fr2
  obtain ⟨hg1, ha1, -, ht1, hf1⟩ := id hs1
  simp only at hg1 ha1 ht1 hf1
  show rn_R _ mX9_setAttack _ 15 [some (.ref 22), some (.int (nI S))] [] m1 h1 _
  refine rn_aload_n 16 dX9_setAttack_15 rfl rfl rfl ?_
  refine rn_get 19 (.ref 23) dX9_setAttack_16 fl_X9_7 rfl rfl rfl rfl ?_
  refine rn_bipush (v := 81) 21 dX9_setAttack_19 (by decide) rfl ?_
  refine rn_iload_n 22 dX9_setAttack_21 rfl rfl rfl ?_
  refine rn_iast 23 dX9_setAttack_22 rfl (vp_in_nI (n := 81) (by decide) (by decide)) rfl ?_
  rw [show (81 : Int32).toNatClampNeg = 81 from rfl]
  refine rn_aload_n 24 dX9_setAttack_23 rfl rfl rfl ?_
  refine rn_iload_n 25 dX9_setAttack_24 rfl rfl rfl ?_
  refine rn_cvp mX9_costOf [.int (nI S)] [] 28 (.int (nI (cS g S g.length))) dX9_setAttack_25 cv_X9_118 rfl rfl rfl (by simp [Value.category]) rfl (c_costOf d h1 (mg_81 hg1 (nI S)) (S := S) (by omega)) ?_
  exact rn_iret rfl dX9_setAttack_28 (⟨rfl, mS_g hs1 (mg_81 hg1 _) ⟨rfl, hS⟩ (fun c c1 => by simp [mu_s, mu_r, c1]), fun c hc => by simp [mu_s, mu_r, show c ≠ 23 by omega]; exact fr1 c (by omega) (by omega)⟩)

set_option maxRecDepth 100000 in
set_option maxHeartbeats 2000000 in
theorem m_undo_b (d : Nat) {g : List Ed} {a : Nat} {hs : List Sg} {tx : List Nat} {f : Int32}  : MC mX9_undo d [] (g, a, [], tx, f) (g, a, [], tx, f) (.int (-3)) := by
  intro mu h hs0
  obtain ⟨hg, ha, hh, ht, hf⟩ := id hs0
  simp only at hg ha hh ht hf
  refine gd_of rfl (Nat.le_of_ble_eq_true rfl) ?_
  show rn_R none mX9_undo d 0 [some (.ref 22), none] [] mu h (fun r mu' _ => r = some (.int (-3)) ∧ mS (g, a, [], tx, f) mu' ∧ ∀ c, c < 22 → mu' c = mu c)
  refine rn_aload_n 1 dX9_undo_0 rfl rfl rfl ?_
  refine rn_get 4 (.int (mu 22 2)) dX9_undo_1 fl_X9_50 rfl rfl rfl rfl ?_
  refine rn_if_ne 10 7 dX9_undo_4 (by decide) rfl (fun c4 => absurd (by rw [hh.2.1]; rfl) c4) (fun _ => ?_)
  refine rn_bipush (v := (-3)) 9 dX9_undo_7 (by decide) rfl ?_
  exact rn_iret rfl dX9_undo_9 (⟨rfl, hs0, fun _ _ => rfl⟩)

set_option maxRecDepth 100000 in
set_option maxHeartbeats 2000000 in
theorem lp_mundo (d : Nat) {mu : Nat → Nat → Int32} (h : Int64) {u : Nat} (hu : u < 12) (hm : mu 22 2 = nI u) : ∀ (k e : Nat), e + k = 82 → rn_R none mX9_undo d 22 [some (.ref 22), some (.int (nI e))] [] (mu_r mu 23 (cpm (mu 24) (mu 23) (82 * u) 0 e)) h (pq (some (.int (nI u))) (mu_r mu 23 (cpm (mu 24) (mu 23) (82 * u) 0 82)) h) := by
  intro k
  induction k with
  | zero =>
    intro e hek
    refine rn_iload_n 23 dX9_undo_22 rfl rfl rfl ?_
    refine rn_bipush (v := 82) 25 dX9_undo_23 (by decide) rfl ?_
    refine rn_icmp_ge 54 28 dX9_undo_25 (by decide) rfl (fun _ => ?_) (fun c25 => absurd (nI_le (a := 82) (by omega) (by omega)) c25)
    refine rn_aload_n 55 dX9_undo_54 rfl rfl rfl ?_
    refine rn_get 58 (.int (mu 22 2)) dX9_undo_55 fl_X9_50 rfl rfl rfl rfl ?_
    exact rn_iret rfl dX9_undo_58 (⟨by rw [hm], by rw [show e = 82 by omega], rfl⟩)
  | succ k ih =>
    intro e hek
    refine rn_iload_n 23 dX9_undo_22 rfl rfl rfl ?_
    refine rn_bipush (v := 82) 25 dX9_undo_23 (by decide) rfl ?_
    refine rn_icmp_ge 54 28 dX9_undo_25 (by decide) rfl (fun c25 => absurd c25 (nI_ge (b := 82) (by omega) (by omega))) (fun _ => ?_)
    refine rn_aload_n 29 dX9_undo_28 rfl rfl rfl ?_
    refine rn_get 32 (.ref 23) dX9_undo_29 fl_X9_7 rfl rfl rfl rfl ?_
    refine rn_iload_n 33 dX9_undo_32 rfl rfl rfl ?_
    refine rn_aload_n 34 dX9_undo_33 rfl rfl rfl ?_
    refine rn_get 37 (.ref 24) dX9_undo_34 fl_X9_13 rfl rfl rfl rfl ?_
    refine rn_bipush (v := 82) 39 dX9_undo_37 (by decide) rfl ?_
    refine rn_aload_n 40 dX9_undo_39 rfl rfl rfl ?_
    refine rn_get 43 (.int (mu 22 2)) dX9_undo_40 fl_X9_50 rfl rfl rfl rfl ?_
    refine rn_imul 44 dX9_undo_43 rfl ?_
    refine rn_iload_n 45 dX9_undo_44 rfl rfl rfl ?_
    refine rn_iadd 46 dX9_undo_45 rfl ?_
    rw [show 82 * mu 22 2 + nI e = nI (82 * u + e) by rw [hm, show (82 : Int32) = nI 82 from rfl, pk_mul, nI_add]]
    refine rn_iald 47 (mu 24 (82 * u + e)) dX9_undo_46 rfl (vp_in_nI (by omega) (by omega)) (congrArg (mu 24) (nI_clamp (by omega))) rfl ?_
    refine rn_iast 48 dX9_undo_47 rfl (vp_in_nI (by omega) (by omega)) rfl ?_
    rw [nI_clamp (by omega), mu_rs]
    have ec := cpm_1 (mu 24) (mu 23) (82 * u) 0 e
    rw [Nat.zero_add] at ec
    rw [ec]
    refine rn_iinc (v := (nI (e + 1))) 51 [some (.ref 22), some (.int (nI (e + 1)))] dX9_undo_48 rfl (nI_1 _) rfl rfl ?_
    refine rn_goto 22 dX9_undo_51 (by decide) ?_
    exact ih (e + 1) (by omega)

set_option maxRecDepth 100000 in
set_option maxHeartbeats 2000000 in
theorem m_undo_t (d : Nat) {g : List Ed} {a : Nat} {hs : List Sg} {tx : List Nat} {f : Int32} {x : Sg} : MC mX9_undo d [] (g, a, hs ++ [x], tx, f) (x.1, x.2, hs, tx, f) (.int (nI hs.length)) := by
  intro mu h hs0
  obtain ⟨hg, ha, hh, ht, hf⟩ := id hs0
  simp only at hg ha hh ht hf
  refine gd_of rfl (Nat.le_of_ble_eq_true rfl) ?_
  show rn_R none mX9_undo d 0 [some (.ref 22), none] [] mu h (fun r mu' _ => r = some (.int (nI hs.length)) ∧ mS (x.1, x.2, hs, tx, f) mu' ∧ ∀ c, c < 22 → mu' c = mu c)
  obtain ⟨hl, hu, hrows⟩ := id hh
  simp only [List.length_append, List.length_cons, List.length_nil] at hl hu
  have hx := hrows hs.length x (by simp)
  refine rn_aload_n 1 dX9_undo_0 rfl rfl rfl ?_
  refine rn_get 4 (.int (mu 22 2)) dX9_undo_1 fl_X9_50 rfl rfl rfl rfl ?_
  refine rn_if_ne 10 7 dX9_undo_4 (by decide) rfl (fun _ => ?_) (fun c4 => absurd c4 (by rw [hu]; exact fun q => absurd ((nI_eq (b := 0) (by omega) (by omega)).mp q) (by omega)))
  refine rn_aload_n 11 dX9_undo_10 rfl rfl rfl ?_
  refine rn_dup 12 dX9_undo_11 rfl rfl ?_
  refine rn_get 15 (.int (mu 22 2)) dX9_undo_12 fl_X9_50 rfl rfl rfl rfl ?_
  refine rn_iconst (v := 1) 16 dX9_undo_15 (by decide) rfl ?_
  refine rn_isub 17 dX9_undo_16 rfl ?_
  rw [show mu 22 2 - 1 = nI hs.length by rw [hu]; exact nI_pred _]
  refine rn_put 20 dX9_undo_17 fp_X9_50 rfl rfl rfl rfl rfl ?_
  refine rn_iconst (v := 0) 21 dX9_undo_20 (by decide) rfl ?_
  refine rn_istore_n 22 [some (.ref 22), some (.int 0)] dX9_undo_21 rfl rfl (Nat.le_of_ble_eq_true rfl) rfl ?_
  have z := lp_mundo d (mu := mu_s mu 22 2 (nI hs.length)) h (u := hs.length) (by omega) rfl 82 0 (by omega)
  rw [cpm_0, mu_r_id] at z
  refine rn_mono z ?_
  rintro r m2 h2 ⟨rfl, rfl, rfl⟩
  have z2 := mr_to (x := x) (mu := mu_r (mu_s mu 22 2 (nI hs.length)) 23 (cpm (mu 24) (mu 23) (82 * hs.length) 0 82)) (mr_move hx (fun j hj => by show cpm _ _ _ _ _ (0 + j) = _; unfold cpm; rw [if_pos (by omega)]; congr 1; omega))
  refine ⟨rfl, ⟨z2.1, z2.2, ⟨by show hs.length ≤ 12; omega, rfl, fun i y hy => hrows i y (by rw [List.getElem?_append_left (List.getElem?_eq_some_iff.mp hy).1]; exact hy)⟩, mt_of ht rfl rfl, hf⟩, fun c hc => by simp [mu_s, mu_r, show c ≠ 22 by omega, show c ≠ 23 by omega]⟩
