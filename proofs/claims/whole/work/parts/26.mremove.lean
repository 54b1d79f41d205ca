/-! THE REFERENCE's removeEdge -/
theorem md_step (x k : Nat) : x % 2 ^ (k + 1) = x % 2 ^ k ||| (if x.testBit k then 2 ^ k else 0) := by
  apply tb_ext
  intro i
  rw [Nat.testBit_or, Nat.testBit_mod_two_pow, Nat.testBit_mod_two_pow]
  cases hb : x.testBit k with
  | true =>
    rw [if_pos rfl, tb_pow]
    by_cases h1 : i < k
    · simp [h1, show i < k + 1 by omega, show ¬ k = i by omega]
    · by_cases h2 : k = i
      · subst h2; simp [hb]
      · simp [h1, h2, show ¬ i < k + 1 by omega]
  | false =>
    simp only [Bool.false_eq_true, if_false, Nat.zero_testBit, Bool.or_false]
    by_cases h1 : i < k
    · simp [h1, show i < k + 1 by omega]
    · by_cases h2 : k = i
      · subst h2; simp [hb]
      · simp [h1, show ¬ i < k + 1 by omega]
/-- how many places of the new set are laid before edge e -/
def rk (r e : Nat) : Nat := if e ≤ r then e else e - 1
def sh5 (f : Nat → Int32) (b k : Nat) : Nat → Int32 := fun j => if b ≤ j ∧ j < k then f (j + 5) else f j
theorem sh5_0 (f : Nat → Int32) (b : Nat) : sh5 f b b = f := by
  funext j
  unfold sh5
  rw [if_neg (by omega)]
theorem sh5_1 (f : Nat → Int32) {b k : Nat} (h : b ≤ k) : upd (sh5 f b k) k (f (k + 5)) = sh5 f b (k + 1) := by
  funext j
  unfold upd sh5
  by_cases hj : j = k
  · subst hj; rw [if_pos rfl, if_pos (by omega)]
  · rw [if_neg hj]
    by_cases h2 : b ≤ j ∧ j < k
    · rw [if_pos h2, if_pos (by omega)]
    · rw [if_neg h2, if_neg (by omega)]
theorem mg_del {g : List Ed} {mu mu' : Nat → Nat → Int32} (hg : mg g mu) {r : Nat} (hr : r < g.length) (h80 : mu' 23 80 = nI (g.length - 1)) (h3 : ∀ j, j < 80 → mu' 23 j = sh5 (mu 23) (5 * r) (5 * (g.length - 1)) j) : mg (g.eraseIdx r) mu' := by
  have hl : (g.eraseIdx r).length = g.length - 1 := List.length_eraseIdx_of_lt hr
  have h16 := hg.1
  refine ⟨by rw [hl]; omega, fun y hy => hg.2.1 y (List.mem_of_mem_eraseIdx hy), by rw [hl, h80], fun i y hy => ?_⟩
  have hi : i < g.length - 1 := by rw [← hl]; exact (List.getElem?_eq_some_iff.mp hy).1
  rw [List.getElem?_eraseIdx] at hy
  rw [h3 (5 * i) (by omega), h3 (5 * i + 1) (by omega), h3 (5 * i + 2) (by omega), h3 (5 * i + 3) (by omega), h3 (5 * i + 4) (by omega)]
  unfold sh5
  by_cases h4 : i < r
  · rw [if_pos h4] at hy
    rw [if_neg (by omega), if_neg (by omega), if_neg (by omega), if_neg (by omega), if_neg (by omega)]
    exact hg.2.2.2 i y hy
  · rw [if_neg h4] at hy
    rw [if_pos (by omega), if_pos (by omega), if_pos (by omega), if_pos (by omega), if_pos (by omega)]
    exact hg.2.2.2 (i + 1) y hy

set_option maxRecDepth 100000 in
set_option maxHeartbeats 2000000 in
theorem lp_mrem1 (d : Nat) {g : List Ed} {a r : Nat} {mu : Nat → Nat → Int32} (h : Int64) (hg : mg g mu) (ha : ma g a mu) (hr : r < g.length) {Q : rn_Q} (kk : rn_R none mX9_removeEdge (d + 1) 80 [some (.ref 22), some (.int (nI r)), some (.int (nI (dl a r))), none, none] [] mu h Q) : ∀ (k e : Nat), e + k = g.length → rn_R none mX9_removeEdge (d + 1) 19 [some (.ref 22), some (.int (nI r)), some (.int (nI (dl a r % 2 ^ rk r e))), some (.int (nI e)), none] [] mu h Q := by
  have h16 := hg.1
  have hp := pw_le hg.1
  have ha2 := ha.2
  have hdl := dl_lt ha.2 hr
  intro k
  induction k with
  | zero =>
    intro e hek
    refine rn_iload_n 20 dX9_removeEdge_19 rfl rfl rfl ?_
    refine rn_aload_n 21 dX9_removeEdge_20 rfl rfl rfl ?_
    refine rn_get 24 (.ref 23) dX9_removeEdge_21 fl_X9_7 rfl rfl rfl rfl ?_
    refine rn_bipush (v := 80) 26 dX9_removeEdge_24 (by decide) rfl ?_
    refine rn_iald 27 (mu 23 80) dX9_removeEdge_26 rfl (vp_in_nI (n := 80) (by decide) (by decide)) rfl rfl ?_
    refine rn_icmp_ge 80 30 dX9_removeEdge_27 (by decide) rfl (fun _ => ?_) (fun c27 => absurd (by rw [hg.2.2.1]; exact nI_le (by omega) (by omega)) c27)
    rw [show dl a r % 2 ^ rk r e = dl a r by rw [show rk r e = g.length - 1 by unfold rk; rw [if_neg (by omega)]; omega]; exact Nat.mod_eq_of_lt hdl]
    refine rn_drop 3 [some (.ref 22), some (.int (nI r)), some (.int (nI (dl a r))), none, none] rfl ?_
    exact kk
  | succ k ih =>
    intro e hek
    have hlt : e < g.length := by omega
    have hm := c_mhas d mu h (S := a) (e := e) (by omega) (by omega)
    refine rn_iload_n 20 dX9_removeEdge_19 rfl rfl rfl ?_
    refine rn_aload_n 21 dX9_removeEdge_20 rfl rfl rfl ?_
    refine rn_get 24 (.ref 23) dX9_removeEdge_21 fl_X9_7 rfl rfl rfl rfl ?_
    refine rn_bipush (v := 80) 26 dX9_removeEdge_24 (by decide) rfl ?_
    refine rn_iald 27 (mu 23 80) dX9_removeEdge_26 rfl (vp_in_nI (n := 80) (by decide) (by decide)) rfl rfl ?_
    refine rn_icmp_ge 80 30 dX9_removeEdge_27 (by decide) rfl (fun c27 => absurd c27 (by rw [hg.2.2.1]; exact nI_ge hlt (by omega))) (fun _ => ?_)
    refine rn_iload_n 31 dX9_removeEdge_30 rfl rfl rfl ?_
    refine rn_iload_n 32 dX9_removeEdge_31 rfl rfl rfl ?_
    rcases Nat.lt_trichotomy e r with q | q | q
    · skip
      have hr1 : rk r e = e := if_pos (by omega)
      have hr2 : rk r (e + 1) = e + 1 := if_pos (by omega)
      have hd : (dl a r).testBit e = a.testBit e := by rw [dl_bit, if_pos q]
      refine rn_icmp_ge 39 35 dX9_removeEdge_32 (by decide) rfl (fun c32 => absurd c32 (nI_ge q (by omega))) (fun _ => ?_)
      refine rn_iload_n 36 dX9_removeEdge_35 rfl rfl rfl ?_
      refine rn_goto 42 dX9_removeEdge_36 (by decide) ?_
      refine rn_istore 44 [some (.ref 22), some (.int (nI r)), some (.int (nI (dl a r % 2 ^ rk r e))), some (.int (nI e)), some (.int (nI e))] dX9_removeEdge_42 rfl (Nat.le_of_ble_eq_true rfl) rfl ?_
      refine rn_iload_n 45 dX9_removeEdge_44 rfl rfl rfl ?_
      refine rn_iload_n 46 dX9_removeEdge_45 rfl rfl rfl ?_
      refine rn_iload_n 47 dX9_removeEdge_46 rfl rfl rfl ?_
      refine rn_icmp_eq 71 50 dX9_removeEdge_47 (by decide) rfl (fun c47 => absurd c47 (fun z => absurd ((nI_eq (by omega) (by omega)).mp z) (by omega))) (fun _ => ?_)
      refine rn_aload_n 51 dX9_removeEdge_50 rfl rfl rfl ?_
      refine rn_get 54 (.ref 23) dX9_removeEdge_51 fl_X9_7 rfl rfl rfl rfl ?_
      refine rn_bipush (v := 81) 56 dX9_removeEdge_54 (by decide) rfl ?_
      refine rn_iald 57 (mu 23 81) dX9_removeEdge_56 rfl (vp_in_nI (n := 81) (by decide) (by decide)) rfl rfl ?_
      rw [ha.1]
      refine rn_iload_n 58 dX9_removeEdge_57 rfl rfl rfl ?_
      cases hb : a.testBit e with
      | true =>
        rw [hb] at hm hd
        refine rn_csp mX9_has [.int (nI a), .int (nI e)] [.int (nI (dl a r % 2 ^ rk r e))] 61 (.int (if true = true then 1 else 0)) dX9_removeEdge_58 cs_X9_42 rfl rfl (by simp [Value.category]) rfl (hm) ?_
        refine rn_if_eq 71 64 dX9_removeEdge_61 (by decide) rfl (fun c61 => absurd c61 (by decide)) (fun _ => ?_)
        refine rn_iconst (v := 1) 65 dX9_removeEdge_64 (by decide) rfl ?_
        refine rn_iload 67 dX9_removeEdge_65 rfl rfl ?_
        refine rn_ishl 68 dX9_removeEdge_67 rfl ?_
        rw [nb_1 (by omega)]
        refine rn_goto 72 dX9_removeEdge_68 (by decide) ?_
        refine rn_ior 73 dX9_removeEdge_72 rfl ?_
        refine rn_istore_n 74 [some (.ref 22), some (.int (nI r)), some (.int ((nI (dl a r % 2 ^ rk r e)) ||| (nI (2 ^ e)))), some (.int (nI e)), some (.int (nI e))] dX9_removeEdge_73 rfl rfl (Nat.le_of_ble_eq_true rfl) rfl ?_
        refine rn_iinc (v := (nI (e + 1))) 77 [some (.ref 22), some (.int (nI r)), some (.int ((nI (dl a r % 2 ^ rk r e)) ||| (nI (2 ^ e)))), some (.int (nI (e + 1))), some (.int (nI e))] dX9_removeEdge_74 rfl (nI_1 _) rfl rfl ?_
        refine rn_goto 19 dX9_removeEdge_77 (by decide) ?_
        refine rn_drop 4 [some (.ref 22), some (.int (nI r)), some (.int ((nI (dl a r % 2 ^ rk r e)) ||| (nI (2 ^ e)))), some (.int (nI (e + 1))), none] rfl ?_
        have es : nI (dl a r % 2 ^ rk r e) ||| nI (2 ^ e) = nI (dl a r % 2 ^ rk r (e + 1)) := by rw [nb_or, hr1, hr2, md_step, hd, if_pos rfl]
        rw [es]
        exact ih (e + 1) (by omega)
      | false =>
        rw [hb] at hm hd
        refine rn_csp mX9_has [.int (nI a), .int (nI e)] [.int (nI (dl a r % 2 ^ rk r e))] 61 (.int (if false = true then 1 else 0)) dX9_removeEdge_58 cs_X9_42 rfl rfl (by simp [Value.category]) rfl (hm) ?_
        refine rn_if_eq 71 64 dX9_removeEdge_61 (by decide) rfl (fun _ => ?_) (fun c61 => absurd (rfl) c61)
        refine rn_iconst (v := 0) 72 dX9_removeEdge_71 (by decide) rfl ?_
        refine rn_ior 73 dX9_removeEdge_72 rfl ?_
        refine rn_istore_n 74 [some (.ref 22), some (.int (nI r)), some (.int ((nI (dl a r % 2 ^ rk r e)) ||| 0)), some (.int (nI e)), some (.int (nI e))] dX9_removeEdge_73 rfl rfl (Nat.le_of_ble_eq_true rfl) rfl ?_
        refine rn_iinc (v := (nI (e + 1))) 77 [some (.ref 22), some (.int (nI r)), some (.int ((nI (dl a r % 2 ^ rk r e)) ||| 0)), some (.int (nI (e + 1))), some (.int (nI e))] dX9_removeEdge_74 rfl (nI_1 _) rfl rfl ?_
        refine rn_goto 19 dX9_removeEdge_77 (by decide) ?_
        refine rn_drop 4 [some (.ref 22), some (.int (nI r)), some (.int ((nI (dl a r % 2 ^ rk r e)) ||| 0)), some (.int (nI (e + 1))), none] rfl ?_
        have es : nI (dl a r % 2 ^ rk r e) ||| 0 = nI (dl a r % 2 ^ rk r (e + 1)) := by rw [show (0 : Int32) = nI 0 from rfl, nb_or, hr1, hr2, md_step, hd]; rfl
        rw [es]
        exact ih (e + 1) (by omega)
    · skip
      have hr1 : rk r (e + 1) = rk r e := by unfold rk; rw [if_neg (by omega), if_pos (by omega)]; omega
      refine rn_icmp_ge 39 35 dX9_removeEdge_32 (by decide) rfl (fun _ => ?_) (fun c32 => absurd (by rw [q]; exact nI_le (Nat.le_refl r) (by omega)) c32)
      refine rn_iload_n 40 dX9_removeEdge_39 rfl rfl rfl ?_
      refine rn_iconst (v := 1) 41 dX9_removeEdge_40 (by decide) rfl ?_
      refine rn_isub 42 dX9_removeEdge_41 rfl ?_
      refine rn_istore 44 [some (.ref 22), some (.int (nI r)), some (.int (nI (dl a r % 2 ^ rk r e))), some (.int (nI e)), some (.int ((nI e) - 1))] dX9_removeEdge_42 rfl (Nat.le_of_ble_eq_true rfl) rfl ?_
      refine rn_iload_n 45 dX9_removeEdge_44 rfl rfl rfl ?_
      refine rn_iload_n 46 dX9_removeEdge_45 rfl rfl rfl ?_
      refine rn_iload_n 47 dX9_removeEdge_46 rfl rfl rfl ?_
      refine rn_icmp_eq 71 50 dX9_removeEdge_47 (by decide) rfl (fun _ => ?_) (fun c47 => absurd (by rw [q]) c47)
      refine rn_iconst (v := 0) 72 dX9_removeEdge_71 (by decide) rfl ?_
      refine rn_ior 73 dX9_removeEdge_72 rfl ?_
      refine rn_istore_n 74 [some (.ref 22), some (.int (nI r)), some (.int ((nI (dl a r % 2 ^ rk r e)) ||| 0)), some (.int (nI e)), some (.int ((nI e) - 1))] dX9_removeEdge_73 rfl rfl (Nat.le_of_ble_eq_true rfl) rfl ?_
      refine rn_iinc (v := (nI (e + 1))) 77 [some (.ref 22), some (.int (nI r)), some (.int ((nI (dl a r % 2 ^ rk r e)) ||| 0)), some (.int (nI (e + 1))), some (.int ((nI e) - 1))] dX9_removeEdge_74 rfl (nI_1 _) rfl rfl ?_
      refine rn_goto 19 dX9_removeEdge_77 (by decide) ?_
      refine rn_drop 4 [some (.ref 22), some (.int (nI r)), some (.int ((nI (dl a r % 2 ^ rk r e)) ||| 0)), some (.int (nI (e + 1))), none] rfl ?_
      have z := ih (e + 1) (by omega)
      rw [hr1] at z
      rw [show nI (dl a r % 2 ^ rk r e) ||| 0 = nI (dl a r % 2 ^ rk r e) by rw [show (0 : Int32) = nI 0 from rfl, nb_or, Nat.or_zero]]
      exact z
    · skip
      have hr1 : rk r e = e - 1 := if_neg (by omega)
      have hr2 : rk r (e + 1) = (e - 1) + 1 := by unfold rk; rw [if_neg (by omega)]; omega
      have hd : (dl a r).testBit (e - 1) = a.testBit e := by rw [dl_bit, if_neg (by omega), Nat.sub_add_cancel (by omega)]
      refine rn_icmp_ge 39 35 dX9_removeEdge_32 (by decide) rfl (fun _ => ?_) (fun c32 => absurd (nI_le (by omega) (by omega)) c32)
      refine rn_iload_n 40 dX9_removeEdge_39 rfl rfl rfl ?_
      refine rn_iconst (v := 1) 41 dX9_removeEdge_40 (by decide) rfl ?_
      refine rn_isub 42 dX9_removeEdge_41 rfl ?_
      rw [nI_sub1 (by omega)]
      refine rn_istore 44 [some (.ref 22), some (.int (nI r)), some (.int (nI (dl a r % 2 ^ rk r e))), some (.int (nI e)), some (.int (nI (e - 1)))] dX9_removeEdge_42 rfl (Nat.le_of_ble_eq_true rfl) rfl ?_
      refine rn_iload_n 45 dX9_removeEdge_44 rfl rfl rfl ?_
      refine rn_iload_n 46 dX9_removeEdge_45 rfl rfl rfl ?_
      refine rn_iload_n 47 dX9_removeEdge_46 rfl rfl rfl ?_
      refine rn_icmp_eq 71 50 dX9_removeEdge_47 (by decide) rfl (fun c47 => absurd c47 (fun z => absurd ((nI_eq (by omega) (by omega)).mp z) (by omega))) (fun _ => ?_)
      refine rn_aload_n 51 dX9_removeEdge_50 rfl rfl rfl ?_
      refine rn_get 54 (.ref 23) dX9_removeEdge_51 fl_X9_7 rfl rfl rfl rfl ?_
      refine rn_bipush (v := 81) 56 dX9_removeEdge_54 (by decide) rfl ?_
      refine rn_iald 57 (mu 23 81) dX9_removeEdge_56 rfl (vp_in_nI (n := 81) (by decide) (by decide)) rfl rfl ?_
      rw [ha.1]
      refine rn_iload_n 58 dX9_removeEdge_57 rfl rfl rfl ?_
      cases hb : a.testBit e with
      | true =>
        rw [hb] at hm hd
        refine rn_csp mX9_has [.int (nI a), .int (nI e)] [.int (nI (dl a r % 2 ^ rk r e))] 61 (.int (if true = true then 1 else 0)) dX9_removeEdge_58 cs_X9_42 rfl rfl (by simp [Value.category]) rfl (hm) ?_
        refine rn_if_eq 71 64 dX9_removeEdge_61 (by decide) rfl (fun c61 => absurd c61 (by decide)) (fun _ => ?_)
        refine rn_iconst (v := 1) 65 dX9_removeEdge_64 (by decide) rfl ?_
        refine rn_iload 67 dX9_removeEdge_65 rfl rfl ?_
        refine rn_ishl 68 dX9_removeEdge_67 rfl ?_
        rw [nb_1 (by omega)]
        refine rn_goto 72 dX9_removeEdge_68 (by decide) ?_
        refine rn_ior 73 dX9_removeEdge_72 rfl ?_
        refine rn_istore_n 74 [some (.ref 22), some (.int (nI r)), some (.int ((nI (dl a r % 2 ^ rk r e)) ||| (nI (2 ^ (e - 1))))), some (.int (nI e)), some (.int (nI (e - 1)))] dX9_removeEdge_73 rfl rfl (Nat.le_of_ble_eq_true rfl) rfl ?_
        refine rn_iinc (v := (nI (e + 1))) 77 [some (.ref 22), some (.int (nI r)), some (.int ((nI (dl a r % 2 ^ rk r e)) ||| (nI (2 ^ (e - 1))))), some (.int (nI (e + 1))), some (.int (nI (e - 1)))] dX9_removeEdge_74 rfl (nI_1 _) rfl rfl ?_
        refine rn_goto 19 dX9_removeEdge_77 (by decide) ?_
        refine rn_drop 4 [some (.ref 22), some (.int (nI r)), some (.int ((nI (dl a r % 2 ^ rk r e)) ||| (nI (2 ^ (e - 1))))), some (.int (nI (e + 1))), none] rfl ?_
        have es : nI (dl a r % 2 ^ rk r e) ||| nI (2 ^ (e - 1)) = nI (dl a r % 2 ^ rk r (e + 1)) := by rw [nb_or, hr1, hr2, md_step, hd, if_pos rfl]
        rw [es]
        exact ih (e + 1) (by omega)
      | false =>
        rw [hb] at hm hd
        refine rn_csp mX9_has [.int (nI a), .int (nI e)] [.int (nI (dl a r % 2 ^ rk r e))] 61 (.int (if false = true then 1 else 0)) dX9_removeEdge_58 cs_X9_42 rfl rfl (by simp [Value.category]) rfl (hm) ?_
        refine rn_if_eq 71 64 dX9_removeEdge_61 (by decide) rfl (fun _ => ?_) (fun c61 => absurd (rfl) c61)
        refine rn_iconst (v := 0) 72 dX9_removeEdge_71 (by decide) rfl ?_
        refine rn_ior 73 dX9_removeEdge_72 rfl ?_
        refine rn_istore_n 74 [some (.ref 22), some (.int (nI r)), some (.int ((nI (dl a r % 2 ^ rk r e)) ||| 0)), some (.int (nI e)), some (.int (nI (e - 1)))] dX9_removeEdge_73 rfl rfl (Nat.le_of_ble_eq_true rfl) rfl ?_
        refine rn_iinc (v := (nI (e + 1))) 77 [some (.ref 22), some (.int (nI r)), some (.int ((nI (dl a r % 2 ^ rk r e)) ||| 0)), some (.int (nI (e + 1))), some (.int (nI (e - 1)))] dX9_removeEdge_74 rfl (nI_1 _) rfl rfl ?_
        refine rn_goto 19 dX9_removeEdge_77 (by decide) ?_
        refine rn_drop 4 [some (.ref 22), some (.int (nI r)), some (.int ((nI (dl a r % 2 ^ rk r e)) ||| 0)), some (.int (nI (e + 1))), none] rfl ?_
        have es : nI (dl a r % 2 ^ rk r e) ||| 0 = nI (dl a r % 2 ^ rk r (e + 1)) := by rw [show (0 : Int32) = nI 0 from rfl, nb_or, hr1, hr2, md_step, hd]; rfl
        rw [es]
        exact ih (e + 1) (by omega)

set_option maxRecDepth 100000 in
set_option maxHeartbeats 2000000 in
theorem lp_mrem2 (d : Nat) {g : List Ed} {a r : Nat} {mu : Nat → Nat → Int32} (h : Int64) (hg : mg g mu) (ha : ma g a mu) (hr : r < g.length) : ∀ (k e : Nat), e + k = 5 * (g.length - 1) → 5 * r ≤ e → rn_R none mX9_removeEdge (d + 1) 95 [some (.ref 22), some (.int (nI r)), some (.int (nI (dl a r))), some (.int (nI e)), none] [] (mu_r mu 23 (sh5 (upd (mu 23) 80 (nI (g.length - 1))) (5 * r) e)) h (pq (some (.int (nI (g.length - 1)))) (mu_r mu 23 (upd (sh5 (upd (mu 23) 80 (nI (g.length - 1))) (5 * r) (5 * (g.length - 1))) 81 (nI (dl a r)))) h) := by
  have h16 := hg.1
  intro k
  induction k with
  | zero =>
    intro e hek her
    refine rn_iload_n 96 dX9_removeEdge_95 rfl rfl rfl ?_
    refine rn_iconst (v := 5) 97 dX9_removeEdge_96 (by decide) rfl ?_
    refine rn_aload_n 98 dX9_removeEdge_97 rfl rfl rfl ?_
    refine rn_get 101 (.ref 23) dX9_removeEdge_98 fl_X9_7 rfl rfl rfl rfl ?_
    refine rn_bipush (v := 80) 103 dX9_removeEdge_101 (by decide) rfl ?_
    refine rn_iald 104 (nI (g.length - 1)) dX9_removeEdge_103 rfl (vp_in_nI (n := 80) (by decide) (by decide)) (by rw [show (80 : Int32).toNatClampNeg = 80 from rfl, mu_r_in]; unfold sh5; rw [if_neg (by omega), pk_us]) rfl ?_
    refine rn_imul 105 dX9_removeEdge_104 rfl ?_
    rw [show 5 * nI (g.length - 1) = nI (5 * (g.length - 1)) by rw [show (5 : Int32) = nI 5 from rfl, pk_mul]]
    refine rn_icmp_ge 128 108 dX9_removeEdge_105 (by decide) rfl (fun _ => ?_) (fun c105 => absurd (nI_le (by omega) (by omega)) c105)
    refine rn_aload_n 129 dX9_removeEdge_128 rfl rfl rfl ?_
    refine rn_get 132 (.ref 23) dX9_removeEdge_129 fl_X9_7 rfl rfl rfl rfl ?_
    refine rn_bipush (v := 81) 134 dX9_removeEdge_132 (by decide) rfl ?_
    refine rn_iload_n 135 dX9_removeEdge_134 rfl rfl rfl ?_
    refine rn_iast 136 dX9_removeEdge_135 rfl (vp_in_nI (n := 81) (by decide) (by decide)) rfl ?_
    rw [show (81 : Int32).toNatClampNeg = 81 from rfl, mu_rs]
    refine rn_aload_n 137 dX9_removeEdge_136 rfl rfl rfl ?_
    refine rn_get 140 (.ref 23) dX9_removeEdge_137 fl_X9_7 rfl rfl rfl rfl ?_
    refine rn_bipush (v := 80) 142 dX9_removeEdge_140 (by decide) rfl ?_
    refine rn_iald 143 (nI (g.length - 1)) dX9_removeEdge_142 rfl (vp_in_nI (n := 80) (by decide) (by decide)) (by rw [show (80 : Int32).toNatClampNeg = 80 from rfl, mu_r_in]; rw [pk_un (by omega)]; unfold sh5; rw [if_neg (by omega), pk_us]) rfl ?_
    exact rn_iret rfl dX9_removeEdge_143 (⟨rfl, by rw [show e = 5 * (g.length - 1) by omega], rfl⟩)
  | succ k ih =>
    intro e hek her
    refine rn_iload_n 96 dX9_removeEdge_95 rfl rfl rfl ?_
    refine rn_iconst (v := 5) 97 dX9_removeEdge_96 (by decide) rfl ?_
    refine rn_aload_n 98 dX9_removeEdge_97 rfl rfl rfl ?_
    refine rn_get 101 (.ref 23) dX9_removeEdge_98 fl_X9_7 rfl rfl rfl rfl ?_
    refine rn_bipush (v := 80) 103 dX9_removeEdge_101 (by decide) rfl ?_
    refine rn_iald 104 (nI (g.length - 1)) dX9_removeEdge_103 rfl (vp_in_nI (n := 80) (by decide) (by decide)) (by rw [show (80 : Int32).toNatClampNeg = 80 from rfl, mu_r_in]; unfold sh5; rw [if_neg (by omega), pk_us]) rfl ?_
    refine rn_imul 105 dX9_removeEdge_104 rfl ?_
    rw [show 5 * nI (g.length - 1) = nI (5 * (g.length - 1)) by rw [show (5 : Int32) = nI 5 from rfl, pk_mul]]
    refine rn_icmp_ge 128 108 dX9_removeEdge_105 (by decide) rfl (fun c105 => absurd c105 (nI_ge (by omega) (by omega))) (fun _ => ?_)
    refine rn_aload_n 109 dX9_removeEdge_108 rfl rfl rfl ?_
    refine rn_get 112 (.ref 23) dX9_removeEdge_109 fl_X9_7 rfl rfl rfl rfl ?_
    refine rn_iload_n 113 dX9_removeEdge_112 rfl rfl rfl ?_
    refine rn_aload_n 114 dX9_removeEdge_113 rfl rfl rfl ?_
    refine rn_get 117 (.ref 23) dX9_removeEdge_114 fl_X9_7 rfl rfl rfl rfl ?_
    refine rn_iload_n 118 dX9_removeEdge_117 rfl rfl rfl ?_
    refine rn_iconst (v := 5) 119 dX9_removeEdge_118 (by decide) rfl ?_
    refine rn_iadd 120 dX9_removeEdge_119 rfl ?_
    rw [show nI e + 5 = nI (e + 5) from nI_add e 5]
    refine rn_iald 121 (upd (mu 23) 80 (nI (g.length - 1)) (e + 5)) dX9_removeEdge_120 rfl (vp_in_nI (by omega) (by omega)) (by rw [nI_clamp (by omega), mu_r_in]; unfold sh5; rw [if_neg (by omega)]) rfl ?_
    refine rn_iast 122 dX9_removeEdge_121 rfl (vp_in_nI (by omega) (by omega)) rfl ?_
    rw [nI_clamp (by omega), mu_rs, sh5_1 _ her]
    refine rn_iinc (v := (nI (e + 1))) 125 [some (.ref 22), some (.int (nI r)), some (.int (nI (dl a r))), some (.int (nI (e + 1))), none] dX9_removeEdge_122 rfl (nI_1 _) rfl rfl ?_
    refine rn_goto 95 dX9_removeEdge_125 (by decide) ?_
    exact ih (e + 1) (by omega) (by omega)

set_option maxRecDepth 100000 in
set_option maxHeartbeats 2000000 in
theorem m_removeEdge_b (d : Nat) {g : List Ed} {a : Nat} {hs : List Sg} {tx : List Nat} {f : Int32} {v : Int32} (hv : ¬ isin v g.length) : MC mX9_removeEdge (d + 2) [.int v] (g, a, hs, tx, f) (g, a, hs, tx, f) (.int (-2)) := by
  intro mu h hs0
  obtain ⟨hg, ha, hh, ht, hf⟩ := id hs0
  simp only at hg ha hh ht hf
  refine gd_of rfl (Nat.le_of_ble_eq_true rfl) ?_
  show rn_R none mX9_removeEdge (d + 2) 0 [some (.ref 22), some (.int v), none, none, none] [] mu h (fun r mu' _ => r = some (.int (-2)) ∧ mS (g, a, hs, tx, f) mu' ∧ ∀ c, c < 22 → mu' c = mu c)
  refine rn_aload_n 1 dX9_removeEdge_0 rfl rfl rfl ?_
  refine rn_iload_n 2 dX9_removeEdge_1 rfl rfl rfl ?_
  refine rn_cvp mX9_isEdge [.int v] [] 5 (.int 0) dX9_removeEdge_2 cv_X9_66 rfl rfl rfl (by simp [Value.category]) rfl (c_isEdge_f d h hg hv) ?_
  refine rn_if_ne 11 8 dX9_removeEdge_5 (by decide) rfl (fun c5 => absurd (rfl) c5) (fun _ => ?_)
  refine rn_bipush (v := (-2)) 10 dX9_removeEdge_8 (by decide) rfl ?_
  exact rn_iret rfl dX9_removeEdge_10 (⟨rfl, hs0, fun _ _ => rfl⟩)

set_option maxRecDepth 100000 in
set_option maxHeartbeats 2000000 in
theorem m_removeEdge_t (d : Nat) {g : List Ed} {a : Nat} {hs : List Sg} {tx : List Nat} {f : Int32} {e : Nat} (he : e < g.length) : MC mX9_removeEdge (d + 2) [.int (nI e)] (g, a, hs, tx, f) (g.eraseIdx e, dl a e, hk hs (g, a), tx, f) (.int (nI (g.length - 1))) := by
  intro mu h hs0
  obtain ⟨hg, ha, hh, ht, hf⟩ := id hs0
  simp only at hg ha hh ht hf
  refine gd_of rfl (Nat.le_of_ble_eq_true rfl) ?_
  show rn_R none mX9_removeEdge (d + 2) 0 [some (.ref 22), some (.int (nI e)), none, none, none] [] mu h (fun r mu' _ => r = some (.int (nI (g.length - 1))) ∧ mS (g.eraseIdx e, dl a e, hk hs (g, a), tx, f) mu' ∧ ∀ c, c < 22 → mu' c = mu c)
  have h16 := hg.1
  refine rn_aload_n 1 dX9_removeEdge_0 rfl rfl rfl ?_
  refine rn_iload_n 2 dX9_removeEdge_1 rfl rfl rfl ?_
  refine rn_cvp mX9_isEdge [.int (nI e)] [] 5 (.int 1) dX9_removeEdge_2 cv_X9_66 rfl rfl rfl (by simp [Value.category]) rfl (c_isEdge_t (d) h hg he) ?_
  refine rn_if_ne 11 8 dX9_removeEdge_5 (by decide) rfl (fun _ => ?_) (fun c5 => absurd c5 (by decide))
  refine rn_aload_n 12 dX9_removeEdge_11 rfl rfl rfl ?_
  refine rn_callV mX9_keeps [] [] dX9_removeEdge_12 cv_X9_59 rfl rfl rfl (by simp [Value.category]) (c_keeps (d + 1) h hg ha hh) (fun r1 m1 h1 q1 _ => ?_)
  obtain ⟨e1, hh1, fr1, fr2⟩ := q1
  subst e1
  have hs1 := mS_kept hs0 hh1 fr1 fr2
  obtain ⟨hg1, ha1, -, ht1, hf1⟩ := id hs1
  simp only at hg1 ha1 ht1 hf1
  show rn_R _ mX9_removeEdge _ 15 [some (.ref 22), some (.int (nI e)), none, none, none] [] m1 h1 _
  refine rn_iconst (v := 0) 16 dX9_removeEdge_15 (by decide) rfl ?_
  refine rn_istore_n 17 [some (.ref 22), some (.int (nI e)), some (.int 0), none, none] dX9_removeEdge_16 rfl rfl (Nat.le_of_ble_eq_true rfl) rfl ?_
  refine rn_iconst (v := 0) 18 dX9_removeEdge_17 (by decide) rfl ?_
  refine rn_istore_n 19 [some (.ref 22), some (.int (nI e)), some (.int 0), some (.int 0), none] dX9_removeEdge_18 rfl rfl (Nat.le_of_ble_eq_true rfl) rfl ?_
  have z := lp_mrem1 (d + 1) h1 hg1 ha1 he (Q := (fun z mu' _ => z = some (.int (nI (g.length - 1))) ∧ mS (g.eraseIdx e, dl a e, hk hs (g, a), tx, f) mu' ∧ ∀ c, c < 22 → mu' c = mu c)) ?_ g.length 0 (by omega)
  · rw [show rk e 0 = 0 from if_pos (Nat.zero_le e), Nat.pow_zero, Nat.mod_one] at z; exact z
  refine rn_aload_n 81 dX9_removeEdge_80 rfl rfl rfl ?_
  refine rn_get 84 (.ref 23) dX9_removeEdge_81 fl_X9_7 rfl rfl rfl rfl ?_
  refine rn_bipush (v := 80) 86 dX9_removeEdge_84 (by decide) rfl ?_
  refine rn_dup2_11 87 dX9_removeEdge_86 rfl rfl rfl ?_
  refine rn_iald 88 (m1 23 80) dX9_removeEdge_87 rfl (vp_in_nI (n := 80) (by decide) (by decide)) rfl rfl ?_
  refine rn_iconst (v := 1) 89 dX9_removeEdge_88 (by decide) rfl ?_
  refine rn_isub 90 dX9_removeEdge_89 rfl ?_
  rw [show m1 23 80 - 1 = nI (g.length - 1) by rw [hg1.2.2.1, nI_sub1 (by omega)]]
  refine rn_iast 91 dX9_removeEdge_90 rfl (vp_in_nI (n := 80) (by decide) (by decide)) rfl ?_
  rw [show (80 : Int32).toNatClampNeg = 80 from rfl]
  refine rn_iconst (v := 5) 92 dX9_removeEdge_91 (by decide) rfl ?_
  refine rn_iload_n 93 dX9_removeEdge_92 rfl rfl rfl ?_
  refine rn_imul 94 dX9_removeEdge_93 rfl ?_
  rw [show 5 * nI e = nI (5 * e) by rw [show (5 : Int32) = nI 5 from rfl, pk_mul]]
  refine rn_istore_n 95 [some (.ref 22), some (.int (nI e)), some (.int (nI (dl a e))), some (.int (nI (5 * e))), none] dX9_removeEdge_94 rfl rfl (Nat.le_of_ble_eq_true rfl) rfl ?_
  have z := lp_mrem2 (d + 1) h1 hg1 ha1 he (5 * (g.length - 1) - 5 * e) (5 * e) (by omega) (Nat.le_refl _)
  rw [sh5_0, ← mu_s_r] at z
  refine rn_mono z ?_
  rintro q m2 h2 ⟨rfl, rfl, rfl⟩
  refine ⟨rfl, mS_g hs1 (mg_del hg1 he ?_ (fun j hj => ?_)) ⟨?_, by rw [List.length_eraseIdx_of_lt he]; exact dl_lt ha1.2 he⟩ (fun c c1 => by simp [mu_s, mu_r, c1]), fun c hc => by simp [mu_s, mu_r, show c ≠ 23 by omega]; exact fr1 c (by omega) (by omega)⟩
  · rw [mu_r_in, pk_un (by omega)]; unfold sh5; rw [if_neg (by omega), pk_us]
  · rw [mu_r_in, pk_un (by omega)]; unfold sh5
    by_cases q1 : 5 * e ≤ j ∧ j < 5 * (g.length - 1)
    · rw [if_pos q1, if_pos q1, pk_un (by omega)]
    · rw [if_neg q1, if_neg q1, pk_un (by omega)]
  · rw [mu_r_in, pk_us]
