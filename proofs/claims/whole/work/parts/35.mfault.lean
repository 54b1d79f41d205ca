/-! THE TEXT: the reference's fault -/
/-- at a place q, with 'good' g, e edges read: the rest as it was -/
def FM (tx : List Nat) (mu0 : Nat → Nat → Int32) (q : Nat) (g : Int32) (e : Nat) (m : Nat → Nat → Int32) : Prop := mt tx m ∧ m 22 8 = nI q ∧ m 22 9 = g ∧ m 22 7 = nI e ∧ (∀ c, c ≠ 22 → c ≠ 26 → m c = mu0 c) ∧ ∀ j, j ≠ 7 → j ≠ 8 → j ≠ 9 → m 22 j = mu0 22 j
theorem FM_26 {tx : List Nat} {mu0 m : Nat → Nat → Int32} {q e : Nat} {g : Int32} (h : FM tx mu0 q g e m) (i : Nat) (v : Int32) : FM tx mu0 q g e (mu_s m 26 i v) := by
  obtain ⟨h1, h2, h3, h4, h5, h6⟩ := h
  exact ⟨mt_of (mu' := mu_s m 26 i v) h1 rfl rfl, h2, h3, h4, fun c c1 c2 => by simp [mu_s, c2]; exact h5 c c1 c2, h6⟩
theorem FM_9 {tx : List Nat} {mu0 m : Nat → Nat → Int32} {q e : Nat} {g : Int32} (h : FM tx mu0 q g e m) (g' : Int32) : FM tx mu0 q g' e (mu_s m 22 9 g') := by
  obtain ⟨h1, h2, h3, h4, h5, h6⟩ := h
  exact ⟨mt_of (mu' := mu_s m 22 9 g') h1 rfl rfl, h2, rfl, h4, fun c c1 c2 => by simp [mu_s, c1]; exact h5 c c1 c2, fun j j7 j8 j9 => by show upd (m 22) 9 g' j = _; rw [pk_un j9]; exact h6 j j7 j8 j9⟩
theorem FM_8 {tx : List Nat} {mu0 m : Nat → Nat → Int32} {q e : Nat} {g : Int32} (h : FM tx mu0 q g e m) (q' : Nat) : FM tx mu0 q' g e (mu_s m 22 8 (nI q')) := by
  obtain ⟨h1, h2, h3, h4, h5, h6⟩ := h
  exact ⟨mt_of (mu' := mu_s m 22 8 (nI q')) h1 rfl rfl, rfl, h3, h4, fun c c1 c2 => by simp [mu_s, c1]; exact h5 c c1 c2, fun j j7 j8 j9 => by show upd (m 22) 8 (nI q') j = _; rw [pk_un j8]; exact h6 j j7 j8 j9⟩
theorem FM_7 {tx : List Nat} {mu0 m : Nat → Nat → Int32} {q e : Nat} {g : Int32} (h : FM tx mu0 q g e m) (e' : Nat) : FM tx mu0 q g e' (mu_s m 22 7 (nI e')) := by
  obtain ⟨h1, h2, h3, h4, h5, h6⟩ := h
  exact ⟨mt_of (mu' := mu_s m 22 7 (nI e')) h1 rfl rfl, h2, h3, rfl, fun c c1 c2 => by simp [mu_s, c1]; exact h5 c c1 c2, fun j j7 j8 j9 => by show upd (m 22) 7 (nI e') j = _; rw [pk_un j7]; exact h6 j j7 j8 j9⟩
def m5 (es : List Ed) (f : Nat → Int32) : Prop := ∀ (i : Nat) (x : Ed), es[i]? = some x → f (5 * i) = nI x.1 ∧ f (5 * i + 1) = nI x.2.1 ∧ f (5 * i + 2) = nI x.2.2.1 ∧ f (5 * i + 3) = nI x.2.2.2.1 ∧ f (5 * i + 4) = nI x.2.2.2.2
theorem m5_app {es : List Ed} {f : Nat → Int32} (h : m5 es f) (x : Ed) : m5 (es ++ [x]) (l5 f es.length (nI x.1) (nI x.2.1) (nI x.2.2.1) (nI x.2.2.2.1) (nI x.2.2.2.2)) := by
  intro i y hy
  by_cases hi : i < es.length
  · rw [List.getElem?_append_left hi] at hy
    rw [l5_out (by omega), l5_out (by omega), l5_out (by omega), l5_out (by omega), l5_out (by omega)]
    exact h i y hy
  · have hl := (List.getElem?_eq_some_iff.mp hy).1
    simp at hl
    have he : i = es.length := by omega
    subst he
    rw [List.getElem?_append_right (Nat.le_refl _), Nat.sub_self] at hy
    cases hy
    exact l5_in _ _ _ _ _ _ _
def QM (mu0 : Nat → Nat → Int32) (z : Option Nat × List Ed) : rn_Q := fun r mu' _ => r = some (.int (oI z.1)) ∧ (∀ c, c ≠ 22 → c ≠ 26 → mu' c = mu0 c) ∧ (∀ j, j ≠ 7 → j ≠ 8 → j ≠ 9 → mu' 22 j = mu0 22 j) ∧ (z.1 = none → mu' 22 7 = nI z.2.length ∧ m5 z.2 (mu' 26))

set_option maxRecDepth 100000 in
set_option maxHeartbeats 2000000 in
theorem tl_19 (d : Nat) {tx : List Nat} {mu0 : Nat → Nat → Int32} {q e : Nat} {acc : List Ed} (hq : q ≤ tx.length) (he : e < 17) : ∀ (m : Nat → Nat → Int32) (h : Int64), FM tx mu0 q 0 e m → rn_R none mX9_fault (d + 5) 19 [some (.ref 22)] [] m h (QM mu0 (some q, acc)) := by
  intro m h hF
  obtain ⟨k1, k2, k3, k4, k5, k6⟩ := id hF
  have h110 := k1.1
  refine rn_aload_n 20 dX9_fault_19 rfl rfl rfl ?_
  refine rn_get 23 (.int (m 22 9)) dX9_fault_20 fl_X9_83 rfl rfl rfl rfl ?_
  refine rn_if_eq 183 26 dX9_fault_23 (by decide) rfl (fun _ => ?_) (fun c23 => absurd (k3) c23)
  refine rn_aload_n 184 dX9_fault_183 rfl rfl rfl ?_
  refine rn_get 187 (.int (m 22 9)) dX9_fault_184 fl_X9_83 rfl rfl rfl rfl ?_
  refine rn_if_eq 194 190 dX9_fault_187 (by decide) rfl (fun _ => ?_) (fun c187 => absurd (k3) c187)
  refine rn_aload_n 195 dX9_fault_194 rfl rfl rfl ?_
  refine rn_get 198 (.int (m 22 8)) dX9_fault_195 fl_X9_73 rfl rfl rfl rfl ?_
  exact rn_iret rfl dX9_fault_198 (⟨by rw [k2]; rfl, k5, k6, fun z => by cases z⟩)

set_option maxRecDepth 100000 in
set_option maxHeartbeats 2000000 in
theorem tl_169 (d : Nat) {tx : List Nat} {mu0 : Nat → Nat → Int32} {q e : Nat} {acc : List Ed} (hq : q ≤ tx.length) (he : e < 16) : ∀ (m : Nat → Nat → Int32) (h : Int64) (v : Int32), FM tx mu0 q 0 e m → rn_R none mX9_fault (d + 5) 169 [some (.ref 22)] [.int v, .int (nI (5 * e + 4)), .ref 26] m h (QM mu0 (some q, acc)) := by
  intro m h v hF
  obtain ⟨k1, k2, k3, k4, k5, k6⟩ := id hF
  have h110 := k1.1
  refine rn_iast 170 dX9_fault_169 rfl (vp_in_nI (by omega) (by omega)) rfl ?_
  rw [nI_clamp (by omega)]
  refine rn_aload_n 171 dX9_fault_170 rfl rfl rfl ?_
  refine rn_dup 172 dX9_fault_171 rfl rfl ?_
  refine rn_get 175 (.int (m 22 7)) dX9_fault_172 fl_X9_98 rfl rfl rfl rfl ?_
  refine rn_iconst (v := 1) 176 dX9_fault_175 (by decide) rfl ?_
  refine rn_iadd 177 dX9_fault_176 rfl ?_
  rw [show m 22 7 + 1 = nI (e + 1) by rw [k4, nI_1]]
  refine rn_put 180 dX9_fault_177 fp_X9_98 rfl rfl rfl rfl rfl ?_
  refine rn_goto 19 dX9_fault_180 (by decide) ?_
  exact tl_19 d hq (by omega) _ h (FM_7 (FM_26 hF _ _) (e + 1))

set_option maxRecDepth 100000 in
set_option maxHeartbeats 2000000 in
theorem tl_153 (d : Nat) {tx : List Nat} {mu0 : Nat → Nat → Int32} {q e : Nat} {acc : List Ed} (hq : q ≤ tx.length) (he : e < 16) : ∀ (m : Nat → Nat → Int32) (h : Int64), FM tx mu0 q 0 e m → rn_R none mX9_fault (d + 5) 153 [some (.ref 22)] [] m h (QM mu0 (some q, acc)) := by
  intro m h hF
  obtain ⟨k1, k2, k3, k4, k5, k6⟩ := id hF
  have h110 := k1.1
  refine rn_aload_n 154 dX9_fault_153 rfl rfl rfl ?_
  refine rn_get 157 (.ref 26) dX9_fault_154 fl_X9_23 rfl rfl rfl rfl ?_
  refine rn_iconst (v := 5) 158 dX9_fault_157 (by decide) rfl ?_
  refine rn_aload_n 159 dX9_fault_158 rfl rfl rfl ?_
  refine rn_get 162 (.int (m 22 7)) dX9_fault_159 fl_X9_98 rfl rfl rfl rfl ?_
  refine rn_imul 163 dX9_fault_162 rfl ?_
  refine rn_iconst (v := 4) 164 dX9_fault_163 (by decide) rfl ?_
  refine rn_iadd 165 dX9_fault_164 rfl ?_
  rw [show (5 * (m 22 7)) + 4 = nI (5 * e + 4) by rw [k4, show (5 : Int32) = nI 5 from rfl, pk_mul]; exact nI_add _ 4]
  refine rn_aload_n 166 dX9_fault_165 rfl rfl rfl ?_
  refine rn_cvj mX9_digit [] [.int (nI (5 * e + 4)), .ref 26] 169 (mu_s m 22 9 0) dX9_fault_166 cv_X9_112 rfl rfl rfl (by simp [Value.category]) rfl (c_mdigit_f (d + 1) h k1 k2 hq (Or.inl k3)) (fun v => ?_)
  exact tl_169 d hq he _ h v (FM_9 hF 0)

set_option maxRecDepth 100000 in
set_option maxHeartbeats 2000000 in
theorem tl_146 (d : Nat) {tx : List Nat} {mu0 : Nat → Nat → Int32} {q e : Nat} {acc : List Ed} (hq : q ≤ tx.length) (he : e < 16) : ∀ (m : Nat → Nat → Int32) (h : Int64) (v : Int32), FM tx mu0 q 0 e m → rn_R none mX9_fault (d + 5) 146 [some (.ref 22)] [.int v, .int (nI (5 * e + 3)), .ref 26] m h (QM mu0 (some q, acc)) := by
  intro m h v hF
  obtain ⟨k1, k2, k3, k4, k5, k6⟩ := id hF
  have h110 := k1.1
  refine rn_iast 147 dX9_fault_146 rfl (vp_in_nI (by omega) (by omega)) rfl ?_
  rw [nI_clamp (by omega)]
  refine rn_aload_n 148 dX9_fault_147 rfl rfl rfl ?_
  refine rn_bipush (v := 58) 150 dX9_fault_148 (by decide) rfl ?_
  refine rn_cvm mX9_sign [.int 58] [] 153 (none) (mu_s (mu_s m 26 (5 * e + 3) v) 22 9 0) dX9_fault_150 cv_X9_105 rfl rfl rfl (by simp [Value.category]) rfl (c_sign_f (d + 1) (mu := mu_s m 26 (5 * e + 3) v) h (FM_26 hF (5 * e + 3) v).1 k2 hq (c := 58) (by omega) (Or.inl k3)) ?_
  exact tl_153 d hq he _ h (FM_9 (FM_26 hF _ _) 0)

set_option maxRecDepth 100000 in
set_option maxHeartbeats 2000000 in
theorem tl_130 (d : Nat) {tx : List Nat} {mu0 : Nat → Nat → Int32} {q e : Nat} {acc : List Ed} (hq : q ≤ tx.length) (he : e < 16) : ∀ (m : Nat → Nat → Int32) (h : Int64), FM tx mu0 q 0 e m → rn_R none mX9_fault (d + 5) 130 [some (.ref 22)] [] m h (QM mu0 (some q, acc)) := by
  intro m h hF
  obtain ⟨k1, k2, k3, k4, k5, k6⟩ := id hF
  have h110 := k1.1
  refine rn_aload_n 131 dX9_fault_130 rfl rfl rfl ?_
  refine rn_get 134 (.ref 26) dX9_fault_131 fl_X9_23 rfl rfl rfl rfl ?_
  refine rn_iconst (v := 5) 135 dX9_fault_134 (by decide) rfl ?_
  refine rn_aload_n 136 dX9_fault_135 rfl rfl rfl ?_
  refine rn_get 139 (.int (m 22 7)) dX9_fault_136 fl_X9_98 rfl rfl rfl rfl ?_
  refine rn_imul 140 dX9_fault_139 rfl ?_
  refine rn_iconst (v := 3) 141 dX9_fault_140 (by decide) rfl ?_
  refine rn_iadd 142 dX9_fault_141 rfl ?_
  rw [show (5 * (m 22 7)) + 3 = nI (5 * e + 3) by rw [k4, show (5 : Int32) = nI 5 from rfl, pk_mul]; exact nI_add _ 3]
  refine rn_aload_n 143 dX9_fault_142 rfl rfl rfl ?_
  refine rn_cvm mX9_delay [] [.int (nI (5 * e + 3)), .ref 26] 146 (some (.int 0)) (mu_s m 22 9 0) dX9_fault_143 cv_X9_109 rfl rfl rfl (by simp [Value.category]) rfl (c_delay_f d h k1 k2 hq (Or.inl k3)) ?_
  exact tl_146 d hq he _ h 0 (FM_9 hF 0)

set_option maxRecDepth 100000 in
set_option maxHeartbeats 2000000 in
theorem tl_123 (d : Nat) {tx : List Nat} {mu0 : Nat → Nat → Int32} {q e : Nat} {acc : List Ed} (hq : q ≤ tx.length) (he : e < 16) : ∀ (m : Nat → Nat → Int32) (h : Int64) (v : Int32), FM tx mu0 q 0 e m → rn_R none mX9_fault (d + 5) 123 [some (.ref 22)] [.int v, .int (nI (5 * e + 2)), .ref 26] m h (QM mu0 (some q, acc)) := by
  intro m h v hF
  obtain ⟨k1, k2, k3, k4, k5, k6⟩ := id hF
  have h110 := k1.1
  refine rn_iast 124 dX9_fault_123 rfl (vp_in_nI (by omega) (by omega)) rfl ?_
  rw [nI_clamp (by omega)]
  refine rn_aload_n 125 dX9_fault_124 rfl rfl rfl ?_
  refine rn_bipush (v := 43) 127 dX9_fault_125 (by decide) rfl ?_
  refine rn_cvm mX9_sign [.int 43] [] 130 (none) (mu_s (mu_s m 26 (5 * e + 2) v) 22 9 0) dX9_fault_127 cv_X9_105 rfl rfl rfl (by simp [Value.category]) rfl (c_sign_f (d + 1) (mu := mu_s m 26 (5 * e + 2) v) h (FM_26 hF (5 * e + 2) v).1 k2 hq (c := 43) (by omega) (Or.inl k3)) ?_
  exact tl_130 d hq he _ h (FM_9 (FM_26 hF _ _) 0)

set_option maxRecDepth 100000 in
set_option maxHeartbeats 2000000 in
theorem tl_105 (d : Nat) {tx : List Nat} {mu0 : Nat → Nat → Int32} {q e : Nat} {acc : List Ed} (hq : q ≤ tx.length) (he : e < 16) : ∀ (m : Nat → Nat → Int32) (h : Int64) (v : Int32), FM tx mu0 q 0 e m → rn_R none mX9_fault (d + 5) 105 [some (.ref 22)] [.int v, .int (nI (5 * e + 1)), .ref 26] m h (QM mu0 (some q, acc)) := by
  intro m h v hF
  obtain ⟨k1, k2, k3, k4, k5, k6⟩ := id hF
  have h110 := k1.1
  refine rn_iast 106 dX9_fault_105 rfl (vp_in_nI (by omega) (by omega)) rfl ?_
  rw [nI_clamp (by omega)]
  refine rn_aload_n 107 dX9_fault_106 rfl rfl rfl ?_
  refine rn_get 110 (.ref 26) dX9_fault_107 fl_X9_23 rfl rfl rfl rfl ?_
  refine rn_iconst (v := 5) 111 dX9_fault_110 (by decide) rfl ?_
  refine rn_aload_n 112 dX9_fault_111 rfl rfl rfl ?_
  refine rn_get 115 (.int (m 22 7)) dX9_fault_112 fl_X9_98 rfl rfl rfl rfl ?_
  refine rn_imul 116 dX9_fault_115 rfl ?_
  refine rn_iconst (v := 2) 117 dX9_fault_116 (by decide) rfl ?_
  refine rn_iadd 118 dX9_fault_117 rfl ?_
  rw [show (5 * (m 22 7)) + 2 = nI (5 * e + 2) by rw [k4, show (5 : Int32) = nI 5 from rfl, pk_mul]; exact nI_add _ 2]
  refine rn_aload_n 119 dX9_fault_118 rfl rfl rfl ?_
  refine rn_iconst (v := 0) 120 dX9_fault_119 (by decide) rfl ?_
  refine rn_cvm mX9_number [.int 0] [.int (nI (5 * e + 2)), .ref 26] 123 (some (.int 0)) (mu_s (mu_s m 26 (5 * e + 1) v) 22 9 0) dX9_fault_120 cv_X9_94 rfl rfl rfl (by simp [Value.category]) rfl (c_num_f (d + 1) (mu := mu_s m 26 (5 * e + 1) v) h (FM_26 hF (5 * e + 1) v).1 k2 hq (Or.inl k3)) ?_
  exact tl_123 d hq he _ h 0 (FM_9 (FM_26 hF _ _) 0)

set_option maxRecDepth 100000 in
set_option maxHeartbeats 2000000 in
theorem tl_77 (d : Nat) {tx : List Nat} {mu0 : Nat → Nat → Int32} {q e : Nat} {acc : List Ed} (hq : q ≤ tx.length) (he : e < 16) : ∀ (m : Nat → Nat → Int32) (h : Int64) (v : Int32), FM tx mu0 q 0 e m → rn_R none mX9_fault (d + 5) 77 [some (.ref 22)] [.int v, .int (nI (5 * e + 0)), .ref 26] m h (QM mu0 (some q, acc)) := by
  intro m h v hF
  obtain ⟨k1, k2, k3, k4, k5, k6⟩ := id hF
  have h110 := k1.1
  refine rn_iast 78 dX9_fault_77 rfl (vp_in_nI (by omega) (by omega)) rfl ?_
  rw [nI_clamp (by omega)]
  refine rn_aload_n 79 dX9_fault_78 rfl rfl rfl ?_
  refine rn_get 82 (.ref 26) dX9_fault_79 fl_X9_23 rfl rfl rfl rfl ?_
  refine rn_iconst (v := 5) 83 dX9_fault_82 (by decide) rfl ?_
  refine rn_aload_n 84 dX9_fault_83 rfl rfl rfl ?_
  refine rn_get 87 (.int (m 22 7)) dX9_fault_84 fl_X9_98 rfl rfl rfl rfl ?_
  refine rn_imul 88 dX9_fault_87 rfl ?_
  refine rn_iconst (v := 1) 89 dX9_fault_88 (by decide) rfl ?_
  refine rn_iadd 90 dX9_fault_89 rfl ?_
  rw [show (5 * (m 22 7)) + 1 = nI (5 * e + 1) by rw [k4, show (5 : Int32) = nI 5 from rfl, pk_mul]; exact nI_add _ 1]
  refine rn_aload_n 91 dX9_fault_90 rfl rfl rfl ?_
  refine rn_aload_n 92 dX9_fault_91 rfl rfl rfl ?_
  refine rn_get 95 (.ref 26) dX9_fault_92 fl_X9_23 rfl rfl rfl rfl ?_
  refine rn_iconst (v := 5) 96 dX9_fault_95 (by decide) rfl ?_
  refine rn_aload_n 97 dX9_fault_96 rfl rfl rfl ?_
  refine rn_get 100 (.int (m 22 7)) dX9_fault_97 fl_X9_98 rfl rfl rfl rfl ?_
  refine rn_imul 101 dX9_fault_100 rfl ?_
  rw [show 5 * (m 22 7) = nI (5 * e + 0) by rw [k4, show (5 : Int32) = nI 5 from rfl, pk_mul]; rfl]
  refine rn_iald 102 (v) dX9_fault_101 rfl (vp_in_nI (by omega) (by omega)) (by rw [nI_clamp (by omega)]; exact pk_us) rfl ?_
  refine rn_cvj mX9_node [.int (v)] [.int (nI (5 * e + 1)), .ref 26] 105 (mu_s (mu_s m 26 (5 * e + 0) v) 22 9 0) dX9_fault_102 cv_X9_101 rfl rfl rfl (by simp [Value.category]) rfl (c_node_f (d + 1) (mu := mu_s m 26 (5 * e + 0) v) h (FM_26 hF (5 * e + 0) v).1 k2 hq (Or.inl k3)) (fun v2 => ?_)
  exact tl_105 d hq he _ h _ (FM_9 (FM_26 hF _ _) 0)
