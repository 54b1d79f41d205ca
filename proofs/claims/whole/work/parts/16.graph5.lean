/-! THE GRAPH, changed: append, empty, delete, setPart -/
theorem xg_app {g : List Ed} {mu : Nat → Nat → Int32} (hg : xg g mu) (hn : g.length < 16) {x : Ed} (hx : e_ok x) {c : Int32} (hc : pk_ok x c) : xg (g ++ [x]) (mu_s (mu_s mu 2 g.length c) 1 1 (nI (g.length + 1))) := by
  refine ⟨by simp; omega, fun y hy => ?_, by simp [mu_s, upd], fun i y hy => ?_⟩
  · rcases List.mem_append.mp hy with q | q
    · exact hg.2.1 y q
    · rw [List.mem_singleton.mp q]; exact hx
  · show pk_ok y (upd (mu 2) g.length c i)
    by_cases hi : i < g.length
    · rw [List.getElem?_append_left hi] at hy
      rw [pk_un (by omega)]
      exact hg.2.2.2 i y hy
    · have hl := (List.getElem?_eq_some_iff.mp hy).1
      simp at hl
      have he : i = g.length := by omega
      subst he
      rw [List.getElem?_append_right (Nat.le_refl _), Nat.sub_self] at hy
      cases hy
      rw [pk_us]
      exact hc
def dlr (f : Nat → Int32) (e i : Nat) : Nat → Int32 := fun j => if e ≤ j ∧ j < i then f (j + 1) else f j
theorem dlr_0 (f : Nat → Int32) (e : Nat) : dlr f e e = f := by
  funext j
  unfold dlr
  rw [if_neg (by omega)]
theorem dlr_1 (f : Nat → Int32) {e i : Nat} (h : e ≤ i) : upd (dlr f e i) i (f (i + 1)) = dlr f e (i + 1) := by
  funext j
  unfold upd dlr
  by_cases hj : j = i
  · subst hj; rw [if_pos rfl, if_pos (by omega)]
  · rw [if_neg hj]
    by_cases h2 : e ≤ j ∧ j < i
    · rw [if_pos h2, if_pos (by omega)]
    · rw [if_neg h2, if_neg (by omega)]
/-- a set, its edge e taken out, those behind it moved -/
def dl (a e : Nat) : Nat := a % 2 ^ e ||| (a / 2 ^ (e + 1)) * 2 ^ e
theorem dl_bit (a e i : Nat) : (dl a e).testBit i = if i < e then a.testBit i else a.testBit (i + 1) := by
  unfold dl
  rw [Nat.testBit_or, Nat.testBit_mod_two_pow, Nat.mul_comm, Nat.testBit_two_pow_mul, ← Nat.shiftRight_eq_div_pow, Nat.testBit_shiftRight]
  by_cases hi : i < e
  · simp [hi, show ¬ e ≤ i by omega]
  · simp [hi, show e ≤ i by omega, show e + 1 + (i - e) = i + 1 by omega]
theorem dl_lt {a e n : Nat} (ha : a < 2 ^ n) (he : e < n) : dl a e < 2 ^ (n - 1) := by
  apply Nat.lt_pow_two_of_testBit
  intro i hi
  rw [dl_bit]
  by_cases h1 : i < e
  · omega
  · rw [if_neg h1]
    exact Nat.testBit_lt_two_pow (Nat.lt_of_lt_of_le ha (Nat.pow_le_pow_right (by omega) (by omega)))
theorem xg_del {g : List Ed} {mu mu' : Nat → Nat → Int32} (hg : xg g mu) {e : Nat} (he : e < g.length) (h1 : mu' 1 1 = nI (g.length - 1)) (h2 : mu' 2 = dlr (mu 2) e (g.length - 1)) : xg (g.eraseIdx e) mu' := by
  have hl : (g.eraseIdx e).length = g.length - 1 := List.length_eraseIdx_of_lt he
  refine ⟨by rw [hl]; have := hg.1; omega, fun y hy => hg.2.1 y (List.mem_of_mem_eraseIdx hy), by rw [hl, h1], fun i y hy => ?_⟩
  have hi : i < g.length - 1 := by rw [← hl]; exact (List.getElem?_eq_some_iff.mp hy).1
  rw [h2]
  rw [List.getElem?_eraseIdx] at hy
  unfold dlr
  by_cases h3 : i < e
  · rw [if_pos h3] at hy
    rw [if_neg (by omega)]
    exact hg.2.2.2 i y hy
  · rw [if_neg h3] at hy
    rw [if_pos (by omega)]
    exact hg.2.2.2 (i + 1) y hy

set_option maxRecDepth 100000 in
set_option maxHeartbeats 2000000 in
theorem c_append (d : Nat) {g : List Ed} {mu : Nat → Nat → Int32} (h : Int64) (hg : xg g mu) (hn : g.length < 16) (c : Int32) : gd_G mX2_append d [.ref 1, .int c] mu h (pq none (mu_s (mu_s mu 2 g.length c) 1 1 (nI (g.length + 1))) h) := by
  refine gd_of rfl (Nat.le_of_ble_eq_true rfl) ?_
  show rn_R none mX2_append d 0 [some (.ref 1), some (.int c)] [] mu h (pq none (mu_s (mu_s mu 2 g.length c) 1 1 (nI (g.length + 1))) h)
  refine rn_aload_n 1 dX2_append_0 rfl rfl rfl ?_
  refine rn_get 4 (.int (mu 1 1)) dX2_append_1 fl_X2_15 rfl rfl rfl rfl ?_
  refine rn_bipush (v := 16) 6 dX2_append_4 (by decide) rfl ?_
  refine rn_icmp_ge 29 9 dX2_append_6 (by decide) rfl (fun c6 => absurd c6 (by rw [hg.2.2.1]; exact nI_ge (b := 16) hn (by omega))) (fun _ => ?_)
  refine rn_aload_n 10 dX2_append_9 rfl rfl rfl ?_
  refine rn_get 13 (.ref 2) dX2_append_10 fl_X2_9 rfl rfl rfl rfl ?_
  refine rn_aload_n 14 dX2_append_13 rfl rfl rfl ?_
  refine rn_get 17 (.int (mu 1 1)) dX2_append_14 fl_X2_15 rfl rfl rfl rfl ?_
  refine rn_iload_n 18 dX2_append_17 rfl rfl rfl ?_
  refine rn_iast 19 dX2_append_18 rfl (by rw [hg.2.2.1]; exact vp_in_nI (by omega) (by omega)) rfl ?_
  rw [show (mu 1 1).toNatClampNeg = g.length by rw [hg.2.2.1]; exact nI_clamp (by omega)]
  refine rn_aload_n 20 dX2_append_19 rfl rfl rfl ?_
  refine rn_dup 21 dX2_append_20 rfl rfl ?_
  refine rn_get 24 (.int (mu 1 1)) dX2_append_21 fl_X2_15 rfl rfl rfl rfl ?_
  refine rn_iconst (v := 1) 25 dX2_append_24 (by decide) rfl ?_
  refine rn_iadd 26 dX2_append_25 rfl ?_
  rw [show mu 1 1 + 1 = nI (g.length + 1) by rw [hg.2.2.1, nI_1]]
  refine rn_put 29 dX2_append_26 fp_X2_15 rfl rfl rfl rfl rfl ?_
  exact rn_vret rfl dX2_append_29 (⟨rfl, rfl, rfl⟩)

set_option maxRecDepth 100000 in
set_option maxHeartbeats 2000000 in
theorem c_empty (d : Nat) (mu : Nat → Nat → Int32) (h : Int64) : gd_G mX2_empty d [.ref 1] mu h (pq none (mu_s (mu_s mu 1 1 0) 1 2 0) h) := by
  refine gd_of rfl (Nat.le_of_ble_eq_true rfl) ?_
  show rn_R none mX2_empty d 0 [some (.ref 1)] [] mu h (pq none (mu_s (mu_s mu 1 1 0) 1 2 0) h)
  refine rn_aload_n 1 dX2_empty_0 rfl rfl rfl ?_
  refine rn_iconst (v := 0) 2 dX2_empty_1 (by decide) rfl ?_
  refine rn_put 5 dX2_empty_2 fp_X2_15 rfl rfl rfl rfl rfl ?_
  refine rn_aload_n 6 dX2_empty_5 rfl rfl rfl ?_
  refine rn_iconst (v := 0) 7 dX2_empty_6 (by decide) rfl ?_
  refine rn_put 10 dX2_empty_7 fp_X2_19 rfl rfl rfl rfl rfl ?_
  exact rn_vret rfl dX2_empty_10 (⟨rfl, rfl, rfl⟩)

set_option maxRecDepth 100000 in
set_option maxHeartbeats 2000000 in
theorem lp_delete (d : Nat) {g : List Ed} {mu : Nat → Nat → Int32} (h : Int64) (hg : xg g mu) {a : Nat} (ha : xa g a mu) {e : Nat} (he : e < g.length) : ∀ (k i : Nat), i + k + 1 = g.length → e ≤ i → rn_R none mX2_delete (d + 1) 11 [some (.ref 1), some (.int (nI e)), some (.int (nI i))] [] (mu_r mu 2 (dlr (mu 2) e i)) h (pq none (mu_s (mu_s (mu_r mu 2 (dlr (mu 2) e (g.length - 1))) 1 1 (nI (g.length - 1))) 1 2 (nI (dl a e))) h) := by
  have h16 := hg.1
  intro k
  induction k with
  | zero =>
    intro i hik hei
    refine rn_iload_n 12 dX2_delete_11 rfl rfl rfl ?_
    refine rn_iconst (v := 1) 13 dX2_delete_12 (by decide) rfl ?_
    refine rn_iadd 14 dX2_delete_13 rfl ?_
    refine rn_aload_n 15 dX2_delete_14 rfl rfl rfl ?_
    refine rn_get 18 (.int (mu 1 1)) dX2_delete_15 fl_X2_15 rfl rfl rfl rfl ?_
    refine rn_icmp_ge 41 21 dX2_delete_18 (by decide) rfl (fun _ => ?_) (fun c18 => absurd (by rw [hg.2.2.1, nI_1]; exact nI_le (by omega) (by omega)) c18)
    refine rn_aload_n 42 dX2_delete_41 rfl rfl rfl ?_
    refine rn_dup 43 dX2_delete_42 rfl rfl ?_
    refine rn_get 46 (.int (mu 1 1)) dX2_delete_43 fl_X2_15 rfl rfl rfl rfl ?_
    refine rn_iconst (v := 1) 47 dX2_delete_46 (by decide) rfl ?_
    refine rn_isub 48 dX2_delete_47 rfl ?_
    rw [show mu 1 1 - 1 = nI (g.length - 1) by rw [hg.2.2.1, nI_sub1 (by omega)]]
    refine rn_put 51 dX2_delete_48 fp_X2_15 rfl rfl rfl rfl rfl ?_
    refine rn_aload_n 52 dX2_delete_51 rfl rfl rfl ?_
    refine rn_get 55 (.int (mu 1 2)) dX2_delete_52 fl_X2_19 rfl rfl rfl rfl ?_
    refine rn_iconst (v := 1) 56 dX2_delete_55 (by decide) rfl ?_
    refine rn_iload_n 57 dX2_delete_56 rfl rfl rfl ?_
    refine rn_ishl 58 dX2_delete_57 rfl ?_
    refine rn_iconst (v := 1) 59 dX2_delete_58 (by decide) rfl ?_
    refine rn_isub 60 dX2_delete_59 rfl ?_
    refine rn_iand 61 dX2_delete_60 rfl ?_
    refine rn_istore_n 62 [some (.ref 1), some (.int (nI e)), some (.int ((mu 1 2) &&& ((1 <<< ((nI e) &&& 31)) - 1)))] dX2_delete_61 rfl rfl (Nat.le_of_ble_eq_true rfl) rfl ?_
    refine rn_aload_n 63 dX2_delete_62 rfl rfl rfl ?_
    refine rn_iload_n 64 dX2_delete_63 rfl rfl rfl ?_
    refine rn_aload_n 65 dX2_delete_64 rfl rfl rfl ?_
    refine rn_get 68 (.int (mu 1 2)) dX2_delete_65 fl_X2_19 rfl rfl rfl rfl ?_
    refine rn_iload_n 69 dX2_delete_68 rfl rfl rfl ?_
    refine rn_iconst (v := 1) 70 dX2_delete_69 (by decide) rfl ?_
    refine rn_iadd 71 dX2_delete_70 rfl ?_
    refine rn_ishr 72 dX2_delete_71 rfl ?_
    refine rn_iload_n 73 dX2_delete_72 rfl rfl rfl ?_
    refine rn_ishl 74 dX2_delete_73 rfl ?_
    refine rn_ior 75 dX2_delete_74 rfl ?_
    have ea : ((mu 1 2) &&& ((1 <<< ((nI e) &&& 31)) - 1)) ||| (((mu 1 2) >>> (((nI e) + 1) &&& 31)) <<< ((nI e) &&& 31)) = nI (dl a e) := by
      have hp := pw_le hg.1
      have ha2 := ha.2
      have e1 : a / 2 ^ (e + 1) * 2 ^ e ≤ a := by
        have z1 : a / 2 ^ (e + 1) * 2 ^ (e + 1) ≤ a := Nat.div_mul_le_self a _
        have z2 : 2 ^ (e + 1) = 2 ^ e * 2 := Nat.pow_succ 2 e
        rw [z2] at z1 ⊢
        have z3 : a / (2 ^ e * 2) * (2 ^ e * 2) = a / (2 ^ e * 2) * 2 ^ e * 2 := (Nat.mul_assoc _ _ _).symm
        omega
      rw [ha.1, nb_1 (by omega), nI_sub1 (pw_pos _), nb_and, Nat.and_two_pow_sub_one_eq_mod, nI_1, nb_shr (by omega) (by omega), nb_shl (by omega) (by omega), nb_or]
      rfl
    rw [ea]
    refine rn_put 78 dX2_delete_75 fp_X2_19 rfl rfl rfl rfl rfl ?_
    exact rn_vret rfl dX2_delete_78 (⟨rfl, by rw [show i = g.length - 1 by omega], rfl⟩)
  | succ k ih =>
    intro i hik hei
    refine rn_iload_n 12 dX2_delete_11 rfl rfl rfl ?_
    refine rn_iconst (v := 1) 13 dX2_delete_12 (by decide) rfl ?_
    refine rn_iadd 14 dX2_delete_13 rfl ?_
    refine rn_aload_n 15 dX2_delete_14 rfl rfl rfl ?_
    refine rn_get 18 (.int (mu 1 1)) dX2_delete_15 fl_X2_15 rfl rfl rfl rfl ?_
    refine rn_icmp_ge 41 21 dX2_delete_18 (by decide) rfl (fun c18 => absurd c18 (by rw [hg.2.2.1, nI_1]; exact nI_ge (by omega) (by omega))) (fun _ => ?_)
    refine rn_aload_n 22 dX2_delete_21 rfl rfl rfl ?_
    refine rn_get 25 (.ref 2) dX2_delete_22 fl_X2_9 rfl rfl rfl rfl ?_
    refine rn_iload_n 26 dX2_delete_25 rfl rfl rfl ?_
    refine rn_aload_n 27 dX2_delete_26 rfl rfl rfl ?_
    refine rn_get 30 (.ref 2) dX2_delete_27 fl_X2_9 rfl rfl rfl rfl ?_
    refine rn_iload_n 31 dX2_delete_30 rfl rfl rfl ?_
    refine rn_iconst (v := 1) 32 dX2_delete_31 (by decide) rfl ?_
    refine rn_iadd 33 dX2_delete_32 rfl ?_
    refine rn_iald 34 (mu 2 (i + 1)) dX2_delete_33 rfl (by rw [nI_1]; exact vp_in_nI (by omega) (by omega)) (by rw [nI_1, nI_clamp (by omega)]; show dlr (mu 2) e i (i + 1) = _; unfold dlr; rw [if_neg (by omega)]) rfl ?_
    refine rn_iast 35 dX2_delete_34 rfl (vp_in_nI (by omega) (by omega)) rfl ?_
    rw [nI_clamp (by omega), mu_rs, dlr_1 _ hei]
    refine rn_iinc (v := (nI (i + 1))) 38 [some (.ref 1), some (.int (nI e)), some (.int (nI (i + 1)))] dX2_delete_35 rfl (nI_1 _) rfl rfl ?_
    refine rn_goto 11 dX2_delete_38 (by decide) ?_
    exact ih (i + 1) (by omega) (by omega)

set_option maxRecDepth 100000 in
set_option maxHeartbeats 2000000 in
theorem c_delete (d : Nat) {g : List Ed} {mu : Nat → Nat → Int32} (h : Int64) (hg : xg g mu) {a : Nat} (ha : xa g a mu) {e : Nat} (he : e < g.length) : gd_G mX2_delete (d + 1) [.ref 1, .int (nI e)] mu h (pq none (mu_s (mu_s (mu_r mu 2 (dlr (mu 2) e (g.length - 1))) 1 1 (nI (g.length - 1))) 1 2 (nI (dl a e))) h) := by
  refine gd_of rfl (Nat.le_of_ble_eq_true rfl) ?_
  show rn_R none mX2_delete (d + 1) 0 [some (.ref 1), some (.int (nI e)), none] [] mu h (pq none (mu_s (mu_s (mu_r mu 2 (dlr (mu 2) e (g.length - 1))) 1 1 (nI (g.length - 1))) 1 2 (nI (dl a e))) h)
  refine rn_aload_n 1 dX2_delete_0 rfl rfl rfl ?_
  refine rn_iload_n 2 dX2_delete_1 rfl rfl rfl ?_
  refine rn_cvp mX2_has [.int (nI e)] [] 5 (.int 1) dX2_delete_2 cv_X2_26 rfl rfl rfl (by simp [Value.category]) rfl (c_has_t d h hg he) ?_
  refine rn_if_ne 9 8 dX2_delete_5 (by decide) rfl (fun _ => ?_) (fun c5 => absurd c5 (by decide))
  refine rn_iload_n 10 dX2_delete_9 rfl rfl rfl ?_
  refine rn_istore_n 11 [some (.ref 1), some (.int (nI e)), some (.int (nI e))] dX2_delete_10 rfl rfl (Nat.le_of_ble_eq_true rfl) rfl ?_
  have z := lp_delete d h hg ha he (g.length - 1 - e) e (by omega) (Nat.le_refl e)
  rw [dlr_0, mu_r_id] at z
  exact z
