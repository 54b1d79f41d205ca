/-! BOTH SIDES OF A CALL -/
/-- on every state that both hold, both answer alike and come to one state -/
def OP (yx ym : ym_T) (av : List Value) : Prop := ∀ s : Sx, ∃ (ans : Value) (s' : Sx), XC yx 100 av s s' ans ∧ MC ym 100 av s s' ans
theorem op_addEdge (v1 v2 v3 v4 v5 : Int32) : OP mX8_addEdge mX9_addEdge [.int v1, .int v2, .int v3, .int v4, .int v5] := by
  rintro ⟨g, a, hs, tx, f⟩
  by_cases hv : ∃ x, vE v1 v2 v3 v4 v5 x
  · obtain ⟨x, rfl, rfl, rfl, rfl, rfl, hx, hne⟩ := hv
    rcases Nat.lt_trichotomy g.length 16 with q | q | q
    · exact ⟨_, _, x_addEdge_t 97 hx hne q, m_addEdge_t 98 hx hne q⟩
    · exact ⟨_, _, x_addEdge_f 97 hx hne q, m_addEdge_f 98 hx hne q⟩
    · exact ⟨.null, (g, a, hs, tx, f), fun mu h hz => absurd hz.1.1 (by show ¬ g.length ≤ 16; omega), fun mu h hz => absurd hz.1.1 (by show ¬ g.length ≤ 16; omega)⟩
  · exact ⟨_, _, x_addEdge_b 98 hv, m_addEdge_b 98 hv⟩
theorem op_removeEdge (v : Int32) : OP mX8_removeEdge mX9_removeEdge [.int v] := by
  rintro ⟨g, a, hs, tx, f⟩
  by_cases hv : isin v g.length
  · obtain ⟨e, he, rfl⟩ := hv
    exact ⟨_, _, x_removeEdge_t 97 he, m_removeEdge_t 98 he⟩
  · exact ⟨_, _, x_removeEdge_b 99 hv, m_removeEdge_b 98 hv⟩
theorem op_setEdge (v1 v2 v3 : Int32) : OP mX8_setEdge mX9_setEdge [.int v1, .int v2, .int v3] := by
  rintro ⟨g, a, hs, tx, f⟩
  by_cases hv : isin v1 g.length ∧ okV v2 v3
  · obtain ⟨⟨e, he, rfl⟩, hv⟩ := hv
    obtain ⟨x, hx⟩ := g_at he
    rcases hv with ⟨rfl, k, h1, rfl⟩ | ⟨rfl, k, h1, h2, rfl⟩ | ⟨rfl, k, h1, h2, rfl⟩
    · exact ⟨_, _, x_setEdge2 97 hx (Nat.zero_le k) (by omega), m_setEdge2 98 hx (Nat.zero_le k) (by omega)⟩
    · exact ⟨_, _, x_setEdge3 97 hx h1 h2, m_setEdge3 98 hx h1 h2⟩
    · exact ⟨_, _, x_setEdge4 97 hx h1 h2, m_setEdge4 98 hx h1 h2⟩
  · exact ⟨_, _, x_setEdge_b 99 hv, m_setEdge_b 98 hv⟩
theorem op_edge (v1 v2 : Int32) : OP mX8_edge mX9_edge [.int v1, .int v2] := by
  rintro ⟨g, a, hs, tx, f⟩
  by_cases hv : isin v1 g.length ∧ isin v2 6
  · obtain ⟨⟨e, he, rfl⟩, w, hw, rfl⟩ := hv
    rcases Nat.lt_or_ge w 5 with q | q
    · exact ⟨_, _, x_edge_p 98 he q, m_edge_p 98 he q⟩
    · obtain rfl : w = 5 := by omega
      exact ⟨_, _, x_edge_a 99 he, m_edge_a 98 he⟩
  · exact ⟨_, _, x_edge_b 99 hv, m_edge_b 98 hv⟩
theorem op_clear : OP mX8_clear mX9_clear [] := by
  rintro ⟨g, a, hs, tx, f⟩
  exact ⟨_, _, x_clear 97, m_clear 99⟩
theorem op_type (v : Int32) : OP mX8_type mX9_type [.int v] := by
  rintro ⟨g, a, hs, tx, f⟩
  by_cases hv : isin v 128
  · obtain ⟨b, hb, rfl⟩ := hv
    rcases Nat.lt_trichotomy tx.length 110 with q | q | q
    · exact ⟨_, _, x_type_t 99 hb q, m_type_t 99 hb q⟩
    · exact ⟨_, _, x_type_f 99 hb q, m_type_f 99 hb q⟩
    · exact ⟨.null, (g, a, hs, tx, f), fun mu h hz => absurd hz.2.2.2.1.1 (by show ¬ tx.length ≤ 110; omega), fun mu h hz => absurd hz.2.2.2.1.1 (by show ¬ tx.length ≤ 110; omega)⟩
  · exact ⟨_, _, x_type_b 100 hv, m_type_b 99 hv⟩
theorem op_clearText : OP mX8_clearText mX9_clearText [] := by
  rintro ⟨g, a, hs, tx, f⟩
  exact ⟨_, _, x_clearText 100, m_clearText 100⟩
theorem op_attack (v : Int32) (b : Int32) (hb : b = 0 ∨ b = 1) : OP mX8_attack mX9_attack [.int v, .int b] := by
  rintro ⟨g, a, hs, tx, f⟩
  by_cases hv : isin v g.length
  · obtain ⟨e, he, rfl⟩ := hv
    rcases hb with rfl | rfl
    · cases hbit : a.testBit e with
      | true => exact ⟨_, _, x_attack_t0 97 he hbit, m_attack_t0 97 he hbit⟩
      | false => exact ⟨_, _, x_attack_s0 97 he hbit, m_attack_s0 97 he hbit⟩
    · cases hbit : a.testBit e with
      | true => exact ⟨_, _, x_attack_s1 97 he hbit, m_attack_s1 97 he hbit⟩
      | false => exact ⟨_, _, x_attack_t1 97 he hbit, m_attack_t1 97 he hbit⟩
  · exact ⟨_, _, x_attack_b 99 hv, m_attack_b 98 hv⟩
theorem op_setAttack (v : Int32) : OP mX8_setAttack mX9_setAttack [.int v] := by
  rintro ⟨g, a, hs, tx, f⟩
  by_cases hv : isin v (2 ^ g.length)
  · obtain ⟨S, hS, rfl⟩ := hv
    exact ⟨_, _, x_setAttack_t 97 hS, m_setAttack_t 97 hS⟩
  · exact ⟨_, _, x_setAttack_b 98 hv, m_setAttack_b 99 hv⟩
theorem op_finding : OP mX8_finding mX9_finding [] := by
  rintro ⟨g, a, hs, tx, f⟩
  exact ⟨_, _, x_finding 100, m_finding 100⟩
theorem op_undo : OP mX8_undo mX9_undo [] := by
  rintro ⟨g, a, hs, tx, f⟩
  rcases List.eq_nil_or_concat hs with rfl | ⟨hs', x, rfl⟩
  · exact ⟨_, _, x_undo_b (hs := []) 99, m_undo_b (hs := []) 100⟩
  · rw [List.concat_eq_append]
    exact ⟨_, _, x_undo_t 97, m_undo_t 100⟩
