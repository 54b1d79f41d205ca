/-! DISTANCES: the reference's ways, its loops over repairs and edges -/
def bi (b : Bool) : Int32 := if b then 1 else 0

set_option maxRecDepth 100000 in
set_option maxHeartbeats 2000000 in
theorem tw_192 (d : Nat) {s0 : Int32} {S rep e r : Nat} {b o1 o2 : Bool} {mu : Nat → Nat → Int32} {h : Int64} {Q : rn_Q} (kk : rn_R none mX9_ways d 64 [some (.ref 22), some (.int s0), some (.int (nI S)), some (.int (nI rep)), some (.int (bi (b || o1 || o2))), some (.int (nI e)), some (.int (nI (r + 1))), none, none, none, none] [] mu h Q) : rn_R none mX9_ways d 192 [some (.ref 22), some (.int s0), some (.int (nI S)), some (.int (nI rep)), some (.int (bi b)), some (.int (nI e)), some (.int (nI r)), none, none, some (.int (bi o1)), some (.int (bi o2))] [] mu h Q := by
  cases b <;> cases o1 <;> cases o2
  · skip
    refine rn_iload 194 dX9_ways_192 rfl rfl ?_
    refine rn_if_ne 207 197 dX9_ways_194 (by decide) rfl (fun c194 => absurd (rfl) c194) (fun _ => ?_)
    refine rn_iload 199 dX9_ways_197 rfl rfl ?_
    refine rn_if_ne 207 202 dX9_ways_199 (by decide) rfl (fun c199 => absurd (rfl) c199) (fun _ => ?_)
    refine rn_iload 204 dX9_ways_202 rfl rfl ?_
    refine rn_if_eq 211 207 dX9_ways_204 (by decide) rfl (fun _ => ?_) (fun c204 => absurd (rfl) c204)
    refine rn_iconst (v := 0) 212 dX9_ways_211 (by decide) rfl ?_
    refine rn_istore 214 [some (.ref 22), some (.int s0), some (.int (nI S)), some (.int (nI rep)), some (.int 0), some (.int (nI e)), some (.int (nI r)), none, none, some (.int (bi false)), some (.int (bi false))] dX9_ways_212 rfl (Nat.le_of_ble_eq_true rfl) rfl ?_
    refine rn_iinc (v := (nI (r + 1))) 217 [some (.ref 22), some (.int s0), some (.int (nI S)), some (.int (nI rep)), some (.int 0), some (.int (nI e)), some (.int (nI (r + 1))), none, none, some (.int (bi false)), some (.int (bi false))] dX9_ways_214 rfl (nI_1 _) rfl rfl ?_
    refine rn_goto 64 dX9_ways_217 (by decide) ?_
    refine rn_drop 9 [some (.ref 22), some (.int s0), some (.int (nI S)), some (.int (nI rep)), some (.int 0), some (.int (nI e)), some (.int (nI (r + 1))), none, none, none, some (.int (bi false))] rfl ?_
    refine rn_drop 10 [some (.ref 22), some (.int s0), some (.int (nI S)), some (.int (nI rep)), some (.int 0), some (.int (nI e)), some (.int (nI (r + 1))), none, none, none, none] rfl ?_
    exact kk
  · skip
    refine rn_iload 194 dX9_ways_192 rfl rfl ?_
    refine rn_if_ne 207 197 dX9_ways_194 (by decide) rfl (fun c194 => absurd (rfl) c194) (fun _ => ?_)
    refine rn_iload 199 dX9_ways_197 rfl rfl ?_
    refine rn_if_ne 207 202 dX9_ways_199 (by decide) rfl (fun c199 => absurd (rfl) c199) (fun _ => ?_)
    refine rn_iload 204 dX9_ways_202 rfl rfl ?_
    refine rn_if_eq 211 207 dX9_ways_204 (by decide) rfl (fun c204 => absurd c204 (by decide)) (fun _ => ?_)
    refine rn_iconst (v := 1) 208 dX9_ways_207 (by decide) rfl ?_
    refine rn_goto 212 dX9_ways_208 (by decide) ?_
    refine rn_istore 214 [some (.ref 22), some (.int s0), some (.int (nI S)), some (.int (nI rep)), some (.int 1), some (.int (nI e)), some (.int (nI r)), none, none, some (.int (bi false)), some (.int (bi true))] dX9_ways_212 rfl (Nat.le_of_ble_eq_true rfl) rfl ?_
    refine rn_iinc (v := (nI (r + 1))) 217 [some (.ref 22), some (.int s0), some (.int (nI S)), some (.int (nI rep)), some (.int 1), some (.int (nI e)), some (.int (nI (r + 1))), none, none, some (.int (bi false)), some (.int (bi true))] dX9_ways_214 rfl (nI_1 _) rfl rfl ?_
    refine rn_goto 64 dX9_ways_217 (by decide) ?_
    refine rn_drop 9 [some (.ref 22), some (.int s0), some (.int (nI S)), some (.int (nI rep)), some (.int 1), some (.int (nI e)), some (.int (nI (r + 1))), none, none, none, some (.int (bi true))] rfl ?_
    refine rn_drop 10 [some (.ref 22), some (.int s0), some (.int (nI S)), some (.int (nI rep)), some (.int 1), some (.int (nI e)), some (.int (nI (r + 1))), none, none, none, none] rfl ?_
    exact kk
  · skip
    refine rn_iload 194 dX9_ways_192 rfl rfl ?_
    refine rn_if_ne 207 197 dX9_ways_194 (by decide) rfl (fun c194 => absurd (rfl) c194) (fun _ => ?_)
    refine rn_iload 199 dX9_ways_197 rfl rfl ?_
    refine rn_if_ne 207 202 dX9_ways_199 (by decide) rfl (fun _ => ?_) (fun c199 => absurd c199 (by decide))
    refine rn_iconst (v := 1) 208 dX9_ways_207 (by decide) rfl ?_
    refine rn_goto 212 dX9_ways_208 (by decide) ?_
    refine rn_istore 214 [some (.ref 22), some (.int s0), some (.int (nI S)), some (.int (nI rep)), some (.int 1), some (.int (nI e)), some (.int (nI r)), none, none, some (.int (bi true)), some (.int (bi false))] dX9_ways_212 rfl (Nat.le_of_ble_eq_true rfl) rfl ?_
    refine rn_iinc (v := (nI (r + 1))) 217 [some (.ref 22), some (.int s0), some (.int (nI S)), some (.int (nI rep)), some (.int 1), some (.int (nI e)), some (.int (nI (r + 1))), none, none, some (.int (bi true)), some (.int (bi false))] dX9_ways_214 rfl (nI_1 _) rfl rfl ?_
    refine rn_goto 64 dX9_ways_217 (by decide) ?_
    refine rn_drop 9 [some (.ref 22), some (.int s0), some (.int (nI S)), some (.int (nI rep)), some (.int 1), some (.int (nI e)), some (.int (nI (r + 1))), none, none, none, some (.int (bi false))] rfl ?_
    refine rn_drop 10 [some (.ref 22), some (.int s0), some (.int (nI S)), some (.int (nI rep)), some (.int 1), some (.int (nI e)), some (.int (nI (r + 1))), none, none, none, none] rfl ?_
    exact kk
  · skip
    refine rn_iload 194 dX9_ways_192 rfl rfl ?_
    refine rn_if_ne 207 197 dX9_ways_194 (by decide) rfl (fun c194 => absurd (rfl) c194) (fun _ => ?_)
    refine rn_iload 199 dX9_ways_197 rfl rfl ?_
    refine rn_if_ne 207 202 dX9_ways_199 (by decide) rfl (fun _ => ?_) (fun c199 => absurd c199 (by decide))
    refine rn_iconst (v := 1) 208 dX9_ways_207 (by decide) rfl ?_
    refine rn_goto 212 dX9_ways_208 (by decide) ?_
    refine rn_istore 214 [some (.ref 22), some (.int s0), some (.int (nI S)), some (.int (nI rep)), some (.int 1), some (.int (nI e)), some (.int (nI r)), none, none, some (.int (bi true)), some (.int (bi true))] dX9_ways_212 rfl (Nat.le_of_ble_eq_true rfl) rfl ?_
    refine rn_iinc (v := (nI (r + 1))) 217 [some (.ref 22), some (.int s0), some (.int (nI S)), some (.int (nI rep)), some (.int 1), some (.int (nI e)), some (.int (nI (r + 1))), none, none, some (.int (bi true)), some (.int (bi true))] dX9_ways_214 rfl (nI_1 _) rfl rfl ?_
    refine rn_goto 64 dX9_ways_217 (by decide) ?_
    refine rn_drop 9 [some (.ref 22), some (.int s0), some (.int (nI S)), some (.int (nI rep)), some (.int 1), some (.int (nI e)), some (.int (nI (r + 1))), none, none, none, some (.int (bi true))] rfl ?_
    refine rn_drop 10 [some (.ref 22), some (.int s0), some (.int (nI S)), some (.int (nI rep)), some (.int 1), some (.int (nI e)), some (.int (nI (r + 1))), none, none, none, none] rfl ?_
    exact kk
  · skip
    refine rn_iload 194 dX9_ways_192 rfl rfl ?_
    refine rn_if_ne 207 197 dX9_ways_194 (by decide) rfl (fun _ => ?_) (fun c194 => absurd c194 (by decide))
    refine rn_iconst (v := 1) 208 dX9_ways_207 (by decide) rfl ?_
    refine rn_goto 212 dX9_ways_208 (by decide) ?_
    refine rn_istore 214 [some (.ref 22), some (.int s0), some (.int (nI S)), some (.int (nI rep)), some (.int 1), some (.int (nI e)), some (.int (nI r)), none, none, some (.int (bi false)), some (.int (bi false))] dX9_ways_212 rfl (Nat.le_of_ble_eq_true rfl) rfl ?_
    refine rn_iinc (v := (nI (r + 1))) 217 [some (.ref 22), some (.int s0), some (.int (nI S)), some (.int (nI rep)), some (.int 1), some (.int (nI e)), some (.int (nI (r + 1))), none, none, some (.int (bi false)), some (.int (bi false))] dX9_ways_214 rfl (nI_1 _) rfl rfl ?_
    refine rn_goto 64 dX9_ways_217 (by decide) ?_
    refine rn_drop 9 [some (.ref 22), some (.int s0), some (.int (nI S)), some (.int (nI rep)), some (.int 1), some (.int (nI e)), some (.int (nI (r + 1))), none, none, none, some (.int (bi false))] rfl ?_
    refine rn_drop 10 [some (.ref 22), some (.int s0), some (.int (nI S)), some (.int (nI rep)), some (.int 1), some (.int (nI e)), some (.int (nI (r + 1))), none, none, none, none] rfl ?_
    exact kk
  · skip
    refine rn_iload 194 dX9_ways_192 rfl rfl ?_
    refine rn_if_ne 207 197 dX9_ways_194 (by decide) rfl (fun _ => ?_) (fun c194 => absurd c194 (by decide))
    refine rn_iconst (v := 1) 208 dX9_ways_207 (by decide) rfl ?_
    refine rn_goto 212 dX9_ways_208 (by decide) ?_
    refine rn_istore 214 [some (.ref 22), some (.int s0), some (.int (nI S)), some (.int (nI rep)), some (.int 1), some (.int (nI e)), some (.int (nI r)), none, none, some (.int (bi false)), some (.int (bi true))] dX9_ways_212 rfl (Nat.le_of_ble_eq_true rfl) rfl ?_
    refine rn_iinc (v := (nI (r + 1))) 217 [some (.ref 22), some (.int s0), some (.int (nI S)), some (.int (nI rep)), some (.int 1), some (.int (nI e)), some (.int (nI (r + 1))), none, none, some (.int (bi false)), some (.int (bi true))] dX9_ways_214 rfl (nI_1 _) rfl rfl ?_
    refine rn_goto 64 dX9_ways_217 (by decide) ?_
    refine rn_drop 9 [some (.ref 22), some (.int s0), some (.int (nI S)), some (.int (nI rep)), some (.int 1), some (.int (nI e)), some (.int (nI (r + 1))), none, none, none, some (.int (bi true))] rfl ?_
    refine rn_drop 10 [some (.ref 22), some (.int s0), some (.int (nI S)), some (.int (nI rep)), some (.int 1), some (.int (nI e)), some (.int (nI (r + 1))), none, none, none, none] rfl ?_
    exact kk
  · skip
    refine rn_iload 194 dX9_ways_192 rfl rfl ?_
    refine rn_if_ne 207 197 dX9_ways_194 (by decide) rfl (fun _ => ?_) (fun c194 => absurd c194 (by decide))
    refine rn_iconst (v := 1) 208 dX9_ways_207 (by decide) rfl ?_
    refine rn_goto 212 dX9_ways_208 (by decide) ?_
    refine rn_istore 214 [some (.ref 22), some (.int s0), some (.int (nI S)), some (.int (nI rep)), some (.int 1), some (.int (nI e)), some (.int (nI r)), none, none, some (.int (bi true)), some (.int (bi false))] dX9_ways_212 rfl (Nat.le_of_ble_eq_true rfl) rfl ?_
    refine rn_iinc (v := (nI (r + 1))) 217 [some (.ref 22), some (.int s0), some (.int (nI S)), some (.int (nI rep)), some (.int 1), some (.int (nI e)), some (.int (nI (r + 1))), none, none, some (.int (bi true)), some (.int (bi false))] dX9_ways_214 rfl (nI_1 _) rfl rfl ?_
    refine rn_goto 64 dX9_ways_217 (by decide) ?_
    refine rn_drop 9 [some (.ref 22), some (.int s0), some (.int (nI S)), some (.int (nI rep)), some (.int 1), some (.int (nI e)), some (.int (nI (r + 1))), none, none, none, some (.int (bi false))] rfl ?_
    refine rn_drop 10 [some (.ref 22), some (.int s0), some (.int (nI S)), some (.int (nI rep)), some (.int 1), some (.int (nI e)), some (.int (nI (r + 1))), none, none, none, none] rfl ?_
    exact kk
  · skip
    refine rn_iload 194 dX9_ways_192 rfl rfl ?_
    refine rn_if_ne 207 197 dX9_ways_194 (by decide) rfl (fun _ => ?_) (fun c194 => absurd c194 (by decide))
    refine rn_iconst (v := 1) 208 dX9_ways_207 (by decide) rfl ?_
    refine rn_goto 212 dX9_ways_208 (by decide) ?_
    refine rn_istore 214 [some (.ref 22), some (.int s0), some (.int (nI S)), some (.int (nI rep)), some (.int 1), some (.int (nI e)), some (.int (nI r)), none, none, some (.int (bi true)), some (.int (bi true))] dX9_ways_212 rfl (Nat.le_of_ble_eq_true rfl) rfl ?_
    refine rn_iinc (v := (nI (r + 1))) 217 [some (.ref 22), some (.int s0), some (.int (nI S)), some (.int (nI rep)), some (.int 1), some (.int (nI e)), some (.int (nI (r + 1))), none, none, some (.int (bi true)), some (.int (bi true))] dX9_ways_214 rfl (nI_1 _) rfl rfl ?_
    refine rn_goto 64 dX9_ways_217 (by decide) ?_
    refine rn_drop 9 [some (.ref 22), some (.int s0), some (.int (nI S)), some (.int (nI rep)), some (.int 1), some (.int (nI e)), some (.int (nI (r + 1))), none, none, none, some (.int (bi true))] rfl ?_
    refine rn_drop 10 [some (.ref 22), some (.int s0), some (.int (nI S)), some (.int (nI rep)), some (.int 1), some (.int (nI e)), some (.int (nI (r + 1))), none, none, none, none] rfl ?_
    exact kk

set_option maxRecDepth 100000 in
set_option maxHeartbeats 2000000 in
theorem tw_150 (d : Nat) {g : List Ed} {s0 : Int32} {S rep e r H : Nat} {b o1 : Bool} {AA : Nat → Nat} {mu : Nat → Nat → Int32} {h : Int64} {Q : rn_Q} (hg : mg g mu) (hA : RA AA mu) (he : e < g.length) (hrep : rep ≤ 3) (hr : r ≤ rep) (hH : H < 9999) (kk : ∀ mu' : Nat → Nat → Int32, RA (if r < rep then wx (4 * eT g e + r + 1) (H + eL g e) AA else AA) mu' → (∀ c, c ≠ 27 → mu' c = mu c) → rn_R none mX9_ways (d + 1) 64 [some (.ref 22), some (.int s0), some (.int (nI S)), some (.int (nI rep)), some (.int (bi (b || o1 || decide (r < rep ∧ H + eL g e < AA (4 * eT g e + r + 1))))), some (.int (nI e)), some (.int (nI (r + 1))), none, none, none, none] [] mu' h Q) : rn_R none mX9_ways (d + 1) 150 [some (.ref 22), some (.int s0), some (.int (nI S)), some (.int (nI rep)), some (.int (bi b)), some (.int (nI e)), some (.int (nI r)), some (.int (nI H)), some (.int (nI (4 * eT g e + r))), some (.int (bi o1)), none] [] mu h Q := by
  have hok := e_at hg.2.1 he
  have h16 := hg.1
  by_cases qr : r < rep
  · skip
    rw [if_pos qr] at kk
    have hl := c_lessens d h hA (k := 4 * eT g e + r + 1) (v := H + eL g e) (by omega) (by omega)
    have hR := RA_wx hA (k := 4 * eT g e + r + 1) (v := H + eL g e) (by omega)
    refine rn_iload 152 dX9_ways_150 rfl rfl ?_
    refine rn_sipush (v := 9999) 155 dX9_ways_152 (by decide) rfl ?_
    refine rn_icmp_ge 189 158 dX9_ways_155 (by decide) rfl (fun c155 => absurd c155 (nI_ge (b := 9999) (by omega) (by omega))) (fun _ => ?_)
    refine rn_iload 160 dX9_ways_158 rfl rfl ?_
    refine rn_iload_n 161 dX9_ways_160 rfl rfl rfl ?_
    refine rn_icmp_ge 189 164 dX9_ways_161 (by decide) rfl (fun c161 => absurd c161 (nI_ge qr (by omega))) (fun _ => ?_)
    refine rn_aload_n 165 dX9_ways_164 rfl rfl rfl ?_
    refine rn_iload 167 dX9_ways_165 rfl rfl ?_
    refine rn_iconst (v := 1) 168 dX9_ways_167 (by decide) rfl ?_
    refine rn_iadd 169 dX9_ways_168 rfl ?_
    rw [nI_1]
    refine rn_iload 171 dX9_ways_169 rfl rfl ?_
    refine rn_aload_n 172 dX9_ways_171 rfl rfl rfl ?_
    refine rn_iload 174 dX9_ways_172 rfl rfl ?_
    refine rn_iconst (v := 2) 175 dX9_ways_174 (by decide) rfl ?_
    refine rn_cvp mX9_of [.int (nI e), .int 2] [.int (nI H), .int (nI (4 * eT g e + r + 1)), .ref 22] 178 (.int (nI (eL g e))) dX9_ways_175 cv_X9_46 rfl rfl rfl (by simp [Value.category]) rfl (c_ofe d h hg (w := 2) he (by omega)) ?_
    refine rn_iadd 179 dX9_ways_178 rfl ?_
    rw [nI_add]
    refine rn_cvm mX9_lessens [.int (nI (4 * eT g e + r + 1)), .int (nI (H + eL g e))] [] 182 (some (.int (if H + eL g e < AA (4 * eT g e + r + 1) then 1 else 0))) (mu_s mu 27 (4 * eT g e + r + 1) (nI (if H + eL g e < AA (4 * eT g e + r + 1) then H + eL g e else AA (4 * eT g e + r + 1)))) dX9_ways_179 cv_X9_127 rfl rfl rfl (by simp [Value.category]) rfl (hl) ?_
    by_cases q : H + eL g e < AA (4 * eT g e + r + 1)
    · skip
      rw [decide_eq_true (show r < rep ∧ H + eL g e < AA (4 * eT g e + r + 1) from ⟨qr, q⟩)] at kk
      refine rn_if_eq 189 185 dX9_ways_182 (by decide) rfl (fun c182 => absurd c182 (by rw [if_pos q]; decide)) (fun _ => ?_)
      refine rn_iconst (v := 1) 186 dX9_ways_185 (by decide) rfl ?_
      refine rn_goto 190 dX9_ways_186 (by decide) ?_
      refine rn_istore 192 [some (.ref 22), some (.int s0), some (.int (nI S)), some (.int (nI rep)), some (.int (bi b)), some (.int (nI e)), some (.int (nI r)), some (.int (nI H)), some (.int (nI (4 * eT g e + r))), some (.int (bi o1)), some (.int 1)] dX9_ways_190 rfl (Nat.le_of_ble_eq_true rfl) rfl ?_
      refine rn_drop 7 [some (.ref 22), some (.int s0), some (.int (nI S)), some (.int (nI rep)), some (.int (bi b)), some (.int (nI e)), some (.int (nI r)), none, some (.int (nI (4 * eT g e + r))), some (.int (bi o1)), some (.int 1)] rfl ?_
      refine rn_drop 8 [some (.ref 22), some (.int s0), some (.int (nI S)), some (.int (nI rep)), some (.int (bi b)), some (.int (nI e)), some (.int (nI r)), none, none, some (.int (bi o1)), some (.int 1)] rfl ?_
      exact tw_192 (d + 1) (o1 := o1) (o2 := true) (kk _ hR (fun c hc => by simp [mu_s, hc]))
    · skip
      rw [decide_eq_false (fun z => q z.2)] at kk
      refine rn_if_eq 189 185 dX9_ways_182 (by decide) rfl (fun _ => ?_) (fun c182 => absurd (by rw [if_neg q]) c182)
      refine rn_iconst (v := 0) 190 dX9_ways_189 (by decide) rfl ?_
      refine rn_istore 192 [some (.ref 22), some (.int s0), some (.int (nI S)), some (.int (nI rep)), some (.int (bi b)), some (.int (nI e)), some (.int (nI r)), some (.int (nI H)), some (.int (nI (4 * eT g e + r))), some (.int (bi o1)), some (.int 0)] dX9_ways_190 rfl (Nat.le_of_ble_eq_true rfl) rfl ?_
      refine rn_drop 7 [some (.ref 22), some (.int s0), some (.int (nI S)), some (.int (nI rep)), some (.int (bi b)), some (.int (nI e)), some (.int (nI r)), none, some (.int (nI (4 * eT g e + r))), some (.int (bi o1)), some (.int 0)] rfl ?_
      refine rn_drop 8 [some (.ref 22), some (.int s0), some (.int (nI S)), some (.int (nI rep)), some (.int (bi b)), some (.int (nI e)), some (.int (nI r)), none, none, some (.int (bi o1)), some (.int 0)] rfl ?_
      exact tw_192 (d + 1) (o1 := o1) (o2 := false) (kk _ hR (fun c hc => by simp [mu_s, hc]))
  · skip
    rw [if_neg qr, decide_eq_false (fun z => qr z.1)] at kk
    refine rn_iload 152 dX9_ways_150 rfl rfl ?_
    refine rn_sipush (v := 9999) 155 dX9_ways_152 (by decide) rfl ?_
    refine rn_icmp_ge 189 158 dX9_ways_155 (by decide) rfl (fun c155 => absurd c155 (nI_ge (b := 9999) (by omega) (by omega))) (fun _ => ?_)
    refine rn_iload 160 dX9_ways_158 rfl rfl ?_
    refine rn_iload_n 161 dX9_ways_160 rfl rfl rfl ?_
    refine rn_icmp_ge 189 164 dX9_ways_161 (by decide) rfl (fun _ => ?_) (fun c161 => absurd (nI_le (by omega) (by omega)) c161)
    refine rn_iconst (v := 0) 190 dX9_ways_189 (by decide) rfl ?_
    refine rn_istore 192 [some (.ref 22), some (.int s0), some (.int (nI S)), some (.int (nI rep)), some (.int (bi b)), some (.int (nI e)), some (.int (nI r)), some (.int (nI H)), some (.int (nI (4 * eT g e + r))), some (.int (bi o1)), some (.int 0)] dX9_ways_190 rfl (Nat.le_of_ble_eq_true rfl) rfl ?_
    refine rn_drop 7 [some (.ref 22), some (.int s0), some (.int (nI S)), some (.int (nI rep)), some (.int (bi b)), some (.int (nI e)), some (.int (nI r)), none, some (.int (nI (4 * eT g e + r))), some (.int (bi o1)), some (.int 0)] rfl ?_
    refine rn_drop 8 [some (.ref 22), some (.int s0), some (.int (nI S)), some (.int (nI rep)), some (.int (bi b)), some (.int (nI e)), some (.int (nI r)), none, none, some (.int (bi o1)), some (.int 0)] rfl ?_
    exact tw_192 (d + 1) (o1 := o1) (o2 := false) (kk mu hA (fun _ _ => rfl))
