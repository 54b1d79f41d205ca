/-! THE STATES: what the class holds, what the reference holds -/
/-- edges, present attack, history (oldest first), text, finding -/
abbrev Sx : Type := List Ed × Nat × List Sg × List Nat × Int32
def xt (tx : List Nat) (mu : Nat → Nat → Int32) : Prop := tx.length ≤ 110 ∧ mu 5 2 = nI tx.length ∧ (∀ b ∈ tx, b < 128) ∧ ∀ (i b : Nat), tx[i]? = some b → mu 6 i = nI b
def xS (s : Sx) (mu : Nat → Nat → Int32) : Prop := xg s.1 mu ∧ xa s.1 s.2.1 mu ∧ xh s.2.2.1 mu ∧ xt s.2.2.2.1 mu ∧ mu 0 8 = s.2.2.2.2
/-- a call of the class: the answer, the state behind it; the reference's cells stay -/
def XC (y : ym_T) (d : Nat) (av : List Value) (s s' : Sx) (ans : Value) : Prop := ∀ (mu : Nat → Nat → Int32) (h : Int64), xS s mu → gd_G y d (.ref 0 :: av) mu h (fun r mu' _ => r = some ans ∧ xS s' mu' ∧ ∀ c, 22 ≤ c → mu' c = mu c)
theorem xt_of {tx : List Nat} {mu mu' : Nat → Nat → Int32} (h : xt tx mu) (h5 : mu' 5 2 = mu 5 2) (h6 : mu' 6 = mu 6) : xt tx mu' := ⟨h.1, by rw [h5]; exact h.2.1, h.2.2.1, fun i b hb => by rw [h6]; exact h.2.2.2 i b hb⟩
/-- behind History.keep -/
theorem xS_kept {g : List Ed} {a : Nat} {hs : List Sg} {tx : List Nat} {f : Int32} {mu mu' : Nat → Nat → Int32} (h : xS (g, a, hs, tx, f) mu) (hh : xh (hk hs (g, a)) mu') (fr : ∀ c, c ≠ 3 → c ≠ 4 → mu' c = mu c) : xS (g, a, hk hs (g, a), tx, f) mu' := by
  obtain ⟨h1, h2, h3, h4, h5⟩ := h
  simp only at h1 h2 h3 h4 h5
  have e0 := fr 0 (by omega) (by omega)
  have e1 := fr 1 (by omega) (by omega)
  have e2 := fr 2 (by omega) (by omega)
  have e5 := fr 5 (by omega) (by omega)
  have e6 := fr 6 (by omega) (by omega)
  exact ⟨xg_of h1 (by rw [e1]) e2, ⟨by rw [e1]; exact h2.1, h2.2⟩, hh, xt_of h4 (by rw [e5]) e6, by rw [e0]; exact h5⟩

set_option maxRecDepth 100000 in
set_option maxHeartbeats 2000000 in
theorem c_areNodes_t (d : Nat) (mu : Nat → Nat → Int32) (h : Int64) {u v : Int32} (hu : isin u 8) (hv : isin v 8) : gd_G mX8_areNodes (d + 1) [.int u, .int v] mu h (pq (some (.int 1)) mu h) := by
  refine gd_of rfl (Nat.le_of_ble_eq_true rfl) ?_
  show rn_R none mX8_areNodes (d + 1) 0 [some (.int u), some (.int v)] [] mu h (pq (some (.int 1)) mu h)
  obtain ⟨a, ha, rfl⟩ := hu
  obtain ⟨b, hb, rfl⟩ := hv
  refine rn_iload_n 1 dX8_areNodes_0 rfl rfl rfl ?_
  refine rn_bipush (v := 7) 3 dX8_areNodes_1 (by decide) rfl ?_
  refine rn_csp mX8_isWithin [.int (nI a), .int 7] [] 6 (.int 1) dX8_areNodes_3 cs_X8_164 rfl rfl (by simp [Value.category]) rfl (c_isWithin_t d mu h a 7 (by omega) (by omega)) ?_
  refine rn_if_eq 22 9 dX8_areNodes_6 (by decide) rfl (fun c6 => absurd c6 (by decide)) (fun _ => ?_)
  refine rn_iload_n 10 dX8_areNodes_9 rfl rfl rfl ?_
  refine rn_bipush (v := 7) 12 dX8_areNodes_10 (by decide) rfl ?_
  refine rn_csp mX8_isWithin [.int (nI b), .int 7] [] 15 (.int 1) dX8_areNodes_12 cs_X8_164 rfl rfl (by simp [Value.category]) rfl (c_isWithin_t d mu h b 7 (by omega) (by omega)) ?_
  refine rn_if_eq 22 18 dX8_areNodes_15 (by decide) rfl (fun c15 => absurd c15 (by decide)) (fun _ => ?_)
  refine rn_iconst (v := 1) 19 dX8_areNodes_18 (by decide) rfl ?_
  refine rn_goto 23 dX8_areNodes_19 (by decide) ?_
  exact rn_zret rfl dX8_areNodes_23 rfl (⟨rfl, rfl, rfl⟩)

set_option maxRecDepth 100000 in
set_option maxHeartbeats 2000000 in
theorem c_areNodes_f (d : Nat) (mu : Nat → Nat → Int32) (h : Int64) {u v : Int32} (hn : ¬ (isin u 8 ∧ isin v 8)) : gd_G mX8_areNodes (d + 1) [.int u, .int v] mu h (pq (some (.int 0)) mu h) := by
  refine gd_of rfl (Nat.le_of_ble_eq_true rfl) ?_
  show rn_R none mX8_areNodes (d + 1) 0 [some (.int u), some (.int v)] [] mu h (pq (some (.int 0)) mu h)
  by_cases hu : isin u 8
  · skip
    have hv : ¬ isin v 8 := fun q => hn ⟨hu, q⟩
    obtain ⟨a, ha, rfl⟩ := hu
    refine rn_iload_n 1 dX8_areNodes_0 rfl rfl rfl ?_
    refine rn_bipush (v := 7) 3 dX8_areNodes_1 (by decide) rfl ?_
    refine rn_csp mX8_isWithin [.int (nI a), .int 7] [] 6 (.int 1) dX8_areNodes_3 cs_X8_164 rfl rfl (by simp [Value.category]) rfl (c_isWithin_t d mu h a 7 (by omega) (by omega)) ?_
    refine rn_if_eq 22 9 dX8_areNodes_6 (by decide) rfl (fun c6 => absurd c6 (by decide)) (fun _ => ?_)
    refine rn_iload_n 10 dX8_areNodes_9 rfl rfl rfl ?_
    refine rn_bipush (v := 7) 12 dX8_areNodes_10 (by decide) rfl ?_
    refine rn_csp mX8_isWithin [.int v, .int 7] [] 15 (.int 0) dX8_areNodes_12 cs_X8_164 rfl rfl (by simp [Value.category]) rfl (c_isWithin_f d mu h v 7 hv (by omega)) ?_
    refine rn_if_eq 22 18 dX8_areNodes_15 (by decide) rfl (fun _ => ?_) (fun c15 => absurd (by decide) c15)
    refine rn_iconst (v := 0) 23 dX8_areNodes_22 (by decide) rfl ?_
    exact rn_zret rfl dX8_areNodes_23 rfl (⟨rfl, rfl, rfl⟩)
  · skip
    refine rn_iload_n 1 dX8_areNodes_0 rfl rfl rfl ?_
    refine rn_bipush (v := 7) 3 dX8_areNodes_1 (by decide) rfl ?_
    refine rn_csp mX8_isWithin [.int u, .int 7] [] 6 (.int 0) dX8_areNodes_3 cs_X8_164 rfl rfl (by simp [Value.category]) rfl (c_isWithin_f d mu h u 7 hu (by omega)) ?_
    refine rn_if_eq 22 9 dX8_areNodes_6 (by decide) rfl (fun _ => ?_) (fun c6 => absurd (by decide) c6)
    refine rn_iconst (v := 0) 23 dX8_areNodes_22 (by decide) rfl ?_
    exact rn_zret rfl dX8_areNodes_23 rfl (⟨rfl, rfl, rfl⟩)

theorem by_n : ∀ b, b < 128 → vp_nar .byte ((nI b).toInt8.toInt32) = nI b := by decide +kernel
theorem xt_app {tx : List Nat} {mu mu' : Nat → Nat → Int32} (ht : xt tx mu) (hn : tx.length < 110) {b : Nat} (hb : b < 128) (h5 : mu' 5 2 = nI (tx.length + 1)) (h6 : mu' 6 = upd (mu 6) tx.length (nI b)) : xt (tx ++ [b]) mu' := by
  refine ⟨by simp; omega, by simpa using h5, fun c hc => ?_, fun i c hc => ?_⟩
  · rcases List.mem_append.mp hc with q | q
    · exact ht.2.2.1 c q
    · rw [List.mem_singleton.mp q]; exact hb
  · rw [h6]
    by_cases hi : i < tx.length
    · rw [List.getElem?_append_left hi] at hc
      rw [pk_un (by omega)]
      exact ht.2.2.2 i c hc
    · have hl := (List.getElem?_eq_some_iff.mp hc).1
      simp at hl
      have he : i = tx.length := by omega
      subst he
      rw [List.getElem?_append_right (Nat.le_refl _), Nat.sub_self] at hc
      cases hc
      rw [pk_us]

set_option maxRecDepth 100000 in
set_option maxHeartbeats 2000000 in
theorem c_tappend_t (d : Nat) {tx : List Nat} {mu : Nat → Nat → Int32} (h : Int64) (ht : xt tx mu) (hn : tx.length < 110) {b : Nat} (hb : b < 128) : gd_G mX6_append d [.ref 5, .int (nI b)] mu h (pq (some (.int 1)) (mu_s (mu_s mu 6 tx.length (nI b)) 5 2 (nI (tx.length + 1))) h) := by
  refine gd_of rfl (Nat.le_of_ble_eq_true rfl) ?_
  show rn_R none mX6_append d 0 [some (.ref 5), some (.int (nI b))] [] mu h (pq (some (.int 1)) (mu_s (mu_s mu 6 tx.length (nI b)) 5 2 (nI (tx.length + 1))) h)
  refine rn_aload_n 1 dX6_append_0 rfl rfl rfl ?_
  refine rn_get 4 (.int (mu 5 2)) dX6_append_1 fl_X6_19 rfl rfl rfl rfl ?_
  refine rn_bipush (v := 110) 6 dX6_append_4 (by decide) rfl ?_
  refine rn_icmp_lt 11 9 dX6_append_6 (by decide) rfl (fun _ => ?_) (fun c6 => absurd (by rw [ht.2.1]; exact nI_lt (b := 110) hn (by omega)) c6)
  refine rn_aload_n 12 dX6_append_11 rfl rfl rfl ?_
  refine rn_get 15 (.ref 6) dX6_append_12 fl_X6_9 rfl rfl rfl rfl ?_
  refine rn_aload_n 16 dX6_append_15 rfl rfl rfl ?_
  refine rn_get 19 (.int (mu 5 2)) dX6_append_16 fl_X6_19 rfl rfl rfl rfl ?_
  refine rn_iload_n 20 dX6_append_19 rfl rfl rfl ?_
  refine rn_i2b 21 dX6_append_20 rfl ?_
  refine rn_bast 22 dX6_append_21 rfl (by rw [ht.2.1]; exact vp_in_nI (by omega) (by omega)) rfl ?_
  rw [show (mu 5 2).toNatClampNeg = tx.length by rw [ht.2.1]; exact nI_clamp (by omega), by_n b hb]
  refine rn_aload_n 23 dX6_append_22 rfl rfl rfl ?_
  refine rn_dup 24 dX6_append_23 rfl rfl ?_
  refine rn_get 27 (.int (mu 5 2)) dX6_append_24 fl_X6_19 rfl rfl rfl rfl ?_
  refine rn_iconst (v := 1) 28 dX6_append_27 (by decide) rfl ?_
  refine rn_iadd 29 dX6_append_28 rfl ?_
  rw [show mu 5 2 + 1 = nI (tx.length + 1) by rw [ht.2.1, nI_1]]
  refine rn_put 32 dX6_append_29 fp_X6_19 rfl rfl rfl rfl rfl ?_
  refine rn_iconst (v := 1) 33 dX6_append_32 (by decide) rfl ?_
  exact rn_zret rfl dX6_append_33 rfl (⟨rfl, rfl, rfl⟩)

set_option maxRecDepth 100000 in
set_option maxHeartbeats 2000000 in
theorem c_tappend_f (d : Nat) {tx : List Nat} {mu : Nat → Nat → Int32} (h : Int64) (ht : xt tx mu) (hn : tx.length = 110) {b : Nat} : gd_G mX6_append d [.ref 5, .int (nI b)] mu h (pq (some (.int 0)) mu h) := by
  refine gd_of rfl (Nat.le_of_ble_eq_true rfl) ?_
  show rn_R none mX6_append d 0 [some (.ref 5), some (.int (nI b))] [] mu h (pq (some (.int 0)) mu h)
  refine rn_aload_n 1 dX6_append_0 rfl rfl rfl ?_
  refine rn_get 4 (.int (mu 5 2)) dX6_append_1 fl_X6_19 rfl rfl rfl rfl ?_
  refine rn_bipush (v := 110) 6 dX6_append_4 (by decide) rfl ?_
  refine rn_icmp_lt 11 9 dX6_append_6 (by decide) rfl (fun c6 => absurd c6 (by rw [ht.2.1]; exact nI_nlt (b := 110) (by omega) (by omega))) (fun _ => ?_)
  refine rn_iconst (v := 0) 10 dX6_append_9 (by decide) rfl ?_
  exact rn_zret rfl dX6_append_10 rfl (⟨rfl, rfl, rfl⟩)

set_option maxRecDepth 100000 in
set_option maxHeartbeats 2000000 in
theorem x_finding (d : Nat) {g : List Ed} {a : Nat} {hs : List Sg} {tx : List Nat} {f : Int32}  : XC mX8_finding d [] (g, a, hs, tx, f) (g, a, hs, tx, f) (.int f) := by
  intro mu h hs0
  obtain ⟨hg, ha, hh, ht, hf⟩ := id hs0
  simp only at hg ha hh ht hf
  refine gd_of rfl (Nat.le_of_ble_eq_true rfl) ?_
  show rn_R none mX8_finding d 0 [some (.ref 0)] [] mu h (fun r mu' _ => r = some (.int f) ∧ xS (g, a, hs, tx, f) mu' ∧ ∀ c, 22 ≤ c → mu' c = mu c)
  refine rn_aload_n 1 dX8_finding_0 rfl rfl rfl ?_
  refine rn_get 4 (.int (mu 0 8)) dX8_finding_1 fl_X8_71 rfl rfl rfl rfl ?_
  exact rn_iret rfl dX8_finding_4 (⟨by rw [hf], hs0, fun _ _ => rfl⟩)

set_option maxRecDepth 100000 in
set_option maxHeartbeats 2000000 in
theorem x_clearText (d : Nat) {g : List Ed} {a : Nat} {hs : List Sg} {tx : List Nat} {f : Int32}  : XC mX8_clearText d [] (g, a, hs, tx, f) (g, a, hs, [], f) (.int (nI tx.length)) := by
  intro mu h hs0
  obtain ⟨hg, ha, hh, ht, hf⟩ := id hs0
  simp only at hg ha hh ht hf
  refine gd_of rfl (Nat.le_of_ble_eq_true rfl) ?_
  show rn_R none mX8_clearText d 0 [some (.ref 0), none] [] mu h (fun r mu' _ => r = some (.int (nI tx.length)) ∧ xS (g, a, hs, [], f) mu' ∧ ∀ c, 22 ≤ c → mu' c = mu c)
  refine rn_aload_n 1 dX8_clearText_0 rfl rfl rfl ?_
  refine rn_get 4 (.ref 5) dX8_clearText_1 fl_X8_26 rfl rfl rfl rfl ?_
  refine rn_get 7 (.int (mu 5 2)) dX8_clearText_4 fl_X8_119 rfl rfl rfl rfl ?_
  refine rn_istore_n 8 [some (.ref 0), some (.int (mu 5 2))] dX8_clearText_7 rfl rfl (Nat.le_of_ble_eq_true rfl) rfl ?_
  refine rn_aload_n 9 dX8_clearText_8 rfl rfl rfl ?_
  refine rn_get 12 (.ref 5) dX8_clearText_9 fl_X8_26 rfl rfl rfl rfl ?_
  refine rn_iconst (v := 0) 13 dX8_clearText_12 (by decide) rfl ?_
  refine rn_put 16 dX8_clearText_13 fp_X8_119 rfl rfl rfl rfl rfl ?_
  refine rn_iload_n 17 dX8_clearText_16 rfl rfl rfl ?_
  exact rn_iret rfl dX8_clearText_17 (⟨by rw [ht.2.1], ⟨hg, ha, hh, ⟨by simp, rfl, by simp, by simp⟩, hf⟩, fun c hc => by simp [mu_s, show c ≠ 5 by omega]⟩)

set_option maxRecDepth 100000 in
set_option maxHeartbeats 2000000 in
theorem x_type_b (d : Nat) {g : List Ed} {a : Nat} {hs : List Sg} {tx : List Nat} {f : Int32} {v : Int32} (hv : ¬ isin v 128) : XC mX8_type d [.int v] (g, a, hs, tx, f) (g, a, hs, tx, f) (.int (-2)) := by
  intro mu h hs0
  obtain ⟨hg, ha, hh, ht, hf⟩ := id hs0
  simp only at hg ha hh ht hf
  refine gd_of rfl (Nat.le_of_ble_eq_true rfl) ?_
  show rn_R none mX8_type d 0 [some (.ref 0), some (.int v)] [] mu h (fun r mu' _ => r = some (.int (-2)) ∧ xS (g, a, hs, tx, f) mu' ∧ ∀ c, 22 ≤ c → mu' c = mu c)
  refine rn_iload_n 1 dX8_type_0 rfl rfl rfl ?_
  refine rn_if_lt 10 4 dX8_type_1 (by decide) rfl (fun c1 => ?_) (fun c1 => ?_)
  · skip
    refine rn_bipush (v := (-2)) 12 dX8_type_10 (by decide) rfl ?_
    exact rn_iret rfl dX8_type_12 (⟨rfl, hs0, fun _ _ => rfl⟩)
  · skip
    refine rn_iload_n 5 dX8_type_4 rfl rfl rfl ?_
    refine rn_bipush (v := 127) 7 dX8_type_5 (by decide) rfl ?_
    refine rn_icmp_le 13 10 dX8_type_7 (by decide) rfl (fun c7 => absurd c7 (fun q => hv (isin_of' (n := 127) (by omega) c1 (Int32.not_lt.mpr q)))) (fun _ => ?_)
    refine rn_bipush (v := (-2)) 12 dX8_type_10 (by decide) rfl ?_
    exact rn_iret rfl dX8_type_12 (⟨rfl, hs0, fun _ _ => rfl⟩)

set_option maxRecDepth 100000 in
set_option maxHeartbeats 2000000 in
theorem x_type_f (d : Nat) {g : List Ed} {a : Nat} {hs : List Sg} {tx : List Nat} {f : Int32} {b : Nat} (hb : b < 128) (hn : tx.length = 110) : XC mX8_type (d + 1) [.int (nI b)] (g, a, hs, tx, f) (g, a, hs, tx, f) (.int (-4)) := by
  intro mu h hs0
  obtain ⟨hg, ha, hh, ht, hf⟩ := id hs0
  simp only at hg ha hh ht hf
  refine gd_of rfl (Nat.le_of_ble_eq_true rfl) ?_
  show rn_R none mX8_type (d + 1) 0 [some (.ref 0), some (.int (nI b))] [] mu h (fun r mu' _ => r = some (.int (-4)) ∧ xS (g, a, hs, tx, f) mu' ∧ ∀ c, 22 ≤ c → mu' c = mu c)
  refine rn_iload_n 1 dX8_type_0 rfl rfl rfl ?_
  refine rn_if_lt 10 4 dX8_type_1 (by decide) rfl (fun c1 => absurd c1 (nI_pos (by omega))) (fun _ => ?_)
  refine rn_iload_n 5 dX8_type_4 rfl rfl rfl ?_
  refine rn_bipush (v := 127) 7 dX8_type_5 (by decide) rfl ?_
  refine rn_icmp_le 13 10 dX8_type_7 (by decide) rfl (fun _ => ?_) (fun c7 => absurd (nI_le (b := 127) (by omega) (by omega)) c7)
  refine rn_aload_n 14 dX8_type_13 rfl rfl rfl ?_
  refine rn_get 17 (.ref 5) dX8_type_14 fl_X8_26 rfl rfl rfl rfl ?_
  refine rn_iload_n 18 dX8_type_17 rfl rfl rfl ?_
  refine rn_cvp mX6_append [.int (nI b)] [] 21 (.int 0) dX8_type_18 cv_X8_117 rfl rfl rfl (by simp [Value.category]) rfl (c_tappend_f d h ht hn) ?_
  refine rn_if_eq 34 24 dX8_type_21 (by decide) rfl (fun _ => ?_) (fun c21 => absurd (by decide) c21)
  refine rn_bipush (v := (-4)) 36 dX8_type_34 (by decide) rfl ?_
  exact rn_iret rfl dX8_type_36 (⟨rfl, hs0, fun _ _ => rfl⟩)

set_option maxRecDepth 100000 in
set_option maxHeartbeats 2000000 in
theorem x_type_t (d : Nat) {g : List Ed} {a : Nat} {hs : List Sg} {tx : List Nat} {f : Int32} {b : Nat} (hb : b < 128) (hn : tx.length < 110) : XC mX8_type (d + 1) [.int (nI b)] (g, a, hs, tx, f) (g, a, hs, tx ++ [b], f) (.int (nI (tx.length + 1))) := by
  intro mu h hs0
  obtain ⟨hg, ha, hh, ht, hf⟩ := id hs0
  simp only at hg ha hh ht hf
  refine gd_of rfl (Nat.le_of_ble_eq_true rfl) ?_
  show rn_R none mX8_type (d + 1) 0 [some (.ref 0), some (.int (nI b))] [] mu h (fun r mu' _ => r = some (.int (nI (tx.length + 1))) ∧ xS (g, a, hs, tx ++ [b], f) mu' ∧ ∀ c, 22 ≤ c → mu' c = mu c)
  refine rn_iload_n 1 dX8_type_0 rfl rfl rfl ?_
  refine rn_if_lt 10 4 dX8_type_1 (by decide) rfl (fun c1 => absurd c1 (nI_pos (by omega))) (fun _ => ?_)
  refine rn_iload_n 5 dX8_type_4 rfl rfl rfl ?_
  refine rn_bipush (v := 127) 7 dX8_type_5 (by decide) rfl ?_
  refine rn_icmp_le 13 10 dX8_type_7 (by decide) rfl (fun _ => ?_) (fun c7 => absurd (nI_le (b := 127) (by omega) (by omega)) c7)
  refine rn_aload_n 14 dX8_type_13 rfl rfl rfl ?_
  refine rn_get 17 (.ref 5) dX8_type_14 fl_X8_26 rfl rfl rfl rfl ?_
  refine rn_iload_n 18 dX8_type_17 rfl rfl rfl ?_
  refine rn_cvm mX6_append [.int (nI b)] [] 21 (some (.int 1)) (mu_s (mu_s mu 6 tx.length (nI b)) 5 2 (nI (tx.length + 1))) dX8_type_18 cv_X8_117 rfl rfl rfl (by simp [Value.category]) rfl (c_tappend_t d h ht hn hb) ?_
  refine rn_if_eq 34 24 dX8_type_21 (by decide) rfl (fun c21 => absurd c21 (by decide)) (fun _ => ?_)
  refine rn_aload_n 25 dX8_type_24 rfl rfl rfl ?_
  refine rn_get 28 (.ref 5) dX8_type_25 fl_X8_26 rfl rfl rfl rfl ?_
  refine rn_get 31 (.int (nI (tx.length + 1))) dX8_type_28 fl_X8_119 rfl rfl rfl rfl ?_
  refine rn_goto 36 dX8_type_31 (by decide) ?_
  exact rn_iret rfl dX8_type_36 (⟨rfl, ⟨hg, ha, hh, xt_app ht hn hb rfl rfl, hf⟩, fun c hc => by simp [mu_s, show c ≠ 5 by omega, show c ≠ 6 by omega]⟩)
