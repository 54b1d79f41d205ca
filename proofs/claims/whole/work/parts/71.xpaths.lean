/-! THE CLASS: paths, pathLength, first -/
def FV (mu0 mu : Nat → Nat → Int32) : Prop := ∀ c, c ≠ 15 → c ≠ 16 → c ≠ 17 → c ≠ 18 → mu c = mu0 c
theorem ptG_P {g : List Ed} {a s t lim : Nat} : ptG g a s t lim (ptA g a s t 8 []) = (ptP g a s t).filter (fun Q => decide (ptL g a Q ≤ lim)) := by
  unfold ptG ptP ptF
  rw [List.filter_filter]
  refine List.filter_congr (fun Q _ => ?_)
  rw [Bool.and_comm]
  by_cases h1 : ptE g s Q = t <;> by_cases h2 : ptL g a Q ≤ lim <;> simp [h1, h2]
theorem ptP_min {g : List Ed} {a s t m : Nat} (ho : ∀ x ∈ g, e_ok x) (hs : s < 8) (ht : t < 8) : (ptP g a s t).filter (fun Q => decide (ptL g a Q ≤ min m 9998)) = (ptP g a s t).filter (fun Q => decide (ptL g a Q ≤ m)) := by
  refine List.filter_congr (fun Q hQ => ?_)
  have := (ptP_low ho hs ht hQ).2
  by_cases h2 : ptL g a Q ≤ m
  · rw [decide_eq_true h2, decide_eq_true (by omega)]
  · rw [decide_eq_false h2, decide_eq_false (by omega)]
theorem ptP_all {g : List Ed} {a s t : Nat} (ho : ∀ x ∈ g, e_ok x) (hs : s < 8) (ht : t < 8) : (ptP g a s t).filter (fun Q => decide (ptL g a Q ≤ 9998)) = ptP g a s t := by
  refine List.filter_eq_self.mpr (fun Q hQ => ?_)
  have := (ptP_low ho hs ht hQ).2
  exact decide_eq_true (by omega)
def ctP (g : List Ed) (a s t m : Nat) : Nat := ((ptP g a s t).filter (fun Q => decide (ptL g a Q ≤ m))).length
/-- all lengths in order -/
def fsL (g : List Ed) (a : Nat) (L : List (List Nat)) : List Nat := L.foldl (fun R Q => inS (ptL g a Q) R) []
theorem inS_take {x : Nat} : ∀ (c : Nat) (R : List Nat), (inS x (R.take c)).take c = (inS x R).take c := by
  intro c
  induction c with
  | zero => intro R; simp
  | succ c ih =>
    intro R
    cases R with
    | nil => rfl
    | cons y R =>
      show (if y ≤ x then y :: inS x (R.take c) else x :: y :: R.take c).take (c + 1) = (if y ≤ x then y :: inS x R else x :: y :: R).take (c + 1)
      by_cases q : y ≤ x
      · rw [if_pos q, if_pos q]
        show y :: (inS x (R.take c)).take c = y :: (inS x R).take c
        rw [ih]
      · rw [if_neg q, if_neg q]
        show x :: (y :: R.take c).take c = x :: (y :: R).take c
        cases c with
        | zero => rfl
        | succ c =>
          show x :: y :: (R.take (c + 1)).take c = x :: y :: R.take c
          rw [List.take_take, show min c (c + 1) = c by omega]
theorem fs_take {g : List Ed} {a c : Nat} : ∀ (L : List (List Nat)) (R : List Nat), L.foldl (fun R Q => rkC c (ptL g a Q) R) (R.take c) = (L.foldl (fun R Q => inS (ptL g a Q) R) R).take c := by
  intro L
  induction L with
  | nil => intro R; rfl
  | cons Q L ih =>
    intro R
    show L.foldl _ (rkC c (ptL g a Q) (R.take c)) = _
    unfold rkC
    rw [inS_take]
    exact ih (inS (ptL g a Q) R)
def plA (S : List Nat) (k : Nat) : Int32 := if k < S.length then nI (S.getD k 0) else -1
theorem ptM_at {f : Nat → Int32} : ∀ (Q : List Nat), ptM Q f → ∀ k, k < Q.length → f k = nI (Q.reverse.getD k 0) := by
  intro Q
  induction Q with
  | nil => intro _ k hk; cases hk
  | cons e P ih =>
    intro h k hk
    have hk2 : k < P.length + 1 := hk
    rw [List.reverse_cons, List.getD_eq_getElem?_getD]
    by_cases q : k < P.length
    · rw [List.getElem?_append_left (by rw [List.length_reverse]; exact q), ← List.getD_eq_getElem?_getD]
      exact ih h.2 k q
    · have e1 : k = P.length := by omega
      rw [List.getElem?_append_right (by rw [List.length_reverse]; omega), List.length_reverse, e1, Nat.sub_self]
      exact h.1
/-- what first answers for a path -/
def frA (o : Option (List Nat)) (i : Int32) : Int32 := match o with
  | none => -1
  | some Q => if i = -1 then nI Q.length else if i < nI Q.length then nI (Q.reverse.getD i.toNatClampNeg 0) else -1

set_option maxRecDepth 100000 in
set_option maxHeartbeats 2000000 in
theorem c_beginA (d : Nat) {g : List Ed} {a u v m w : Nat} (hu : u < 8) (hv : v < 8) (hm : m < 2 ^ 31) (hw : w ≤ 100) {mu : Nat → Nat → Int32} (h : Int64) (hg : xg g mu) (ha : xa g a mu) (h10 : mu 15 10 = 0) : gd_G mX7_begin (d + 12) [.ref 15, .int (nI u), .int (nI v), .int (nI m), .int (nI w)] mu h (fun r mu' _ => r = some (.int (nI (ptG g a u v (min m 9998) (ptA g a u v 8 [])).length)) ∧ WA w (ptG g a u v (min m 9998) (ptA g a u v 8 [])).length ((ptG g a u v (min m 9998) (ptA g a u v 8 [])).foldl (fun R Q => stW w R (ptL g a Q)) []) mu' ∧ FV mu mu') := by
  refine gd_of rfl (Nat.le_of_ble_eq_true rfl) ?_
  show rn_R none mX7_begin (d + 12) 0 [some (.ref 15), some (.int (nI u)), some (.int (nI v)), some (.int (nI m)), some (.int (nI w))] [] mu h (fun r mu' _ => r = some (.int (nI (ptG g a u v (min m 9998) (ptA g a u v 8 [])).length)) ∧ WA w (ptG g a u v (min m 9998) (ptA g a u v 8 [])).length ((ptG g a u v (min m 9998) (ptA g a u v 8 [])).foldl (fun R Q => stW w R (ptL g a Q)) []) mu' ∧ FV mu mu')
  have h16 := hg.1
  have hp := pw_le hg.1
  have ha2 := ha.2
  refine rn_aload_n 1 dX7_begin_0 rfl rfl rfl ?_
  refine rn_iload_n 2 dX7_begin_1 rfl rfl rfl ?_
  refine rn_put 5 dX7_begin_2 fp_X7_31 rfl rfl rfl rfl rfl ?_
  refine rn_aload_n 6 dX7_begin_5 rfl rfl rfl ?_
  refine rn_iload_n 7 dX7_begin_6 rfl rfl rfl ?_
  refine rn_sipush (v := 9998) 10 dX7_begin_7 (by decide) rfl ?_
  refine rn_min 13 dX7_begin_10 cs_X7_52 (by simp [Value.category]) rfl ?_
  rw [show (if (9998 : Int32) < nI m then 9998 else nI m) = nI (min m 9998) from min_nI (b := 9998) (by omega) (by omega)]
  refine rn_put 16 dX7_begin_13 fp_X7_34 rfl rfl rfl rfl rfl ?_
  refine rn_aload_n 17 dX7_begin_16 rfl rfl rfl ?_
  refine rn_iload 19 dX7_begin_17 rfl rfl ?_
  refine rn_put 22 dX7_begin_19 fp_X7_28 rfl rfl rfl rfl rfl ?_
  refine rn_aload_n 23 dX7_begin_22 rfl rfl rfl ?_
  refine rn_iconst (v := 0) 24 dX7_begin_23 (by decide) rfl ?_
  refine rn_put 27 dX7_begin_24 fp_X7_25 rfl rfl rfl rfl rfl ?_
  refine rn_aload_n 28 dX7_begin_27 rfl rfl rfl ?_
  refine rn_iconst (v := 0) 29 dX7_begin_28 (by decide) rfl ?_
  refine rn_put 32 dX7_begin_29 fp_X7_37 rfl rfl rfl rfl rfl ?_
  refine rn_aload_n 33 dX7_begin_32 rfl rfl rfl ?_
  refine rn_iconst (v := 0) 34 dX7_begin_33 (by decide) rfl ?_
  refine rn_put 37 dX7_begin_34 fp_X7_18 rfl rfl rfl rfl rfl ?_
  refine rn_aload_n 38 dX7_begin_37 rfl rfl rfl ?_
  refine rn_get 41 (.ref 1) dX7_begin_38 fl_X7_44 rfl rfl rfl rfl ?_
  refine rn_aload_n 42 dX7_begin_41 rfl rfl rfl ?_
  refine rn_get 45 (.ref 1) dX7_begin_42 fl_X7_44 rfl rfl rfl rfl ?_
  refine rn_get 48 (.int (mu 1 2)) dX7_begin_45 fl_X7_58 rfl rfl rfl rfl ?_
  refine rn_aload_n 49 dX7_begin_48 rfl rfl rfl ?_
  refine rn_get 52 (.ref 16) dX7_begin_49 fl_X7_9 rfl rfl rfl rfl ?_
  rw [ha.1]
  have hg1 : xg g (mu_s (mu_s (mu_s (mu_s (mu_s (mu_s mu 15 7 (nI v)) 15 8 (nI (min m 9998))) 15 6 (nI w)) 15 5 0) 15 9 0) 15 3 0) := xg_of hg (by simp [mu_s]) (by simp [mu_s])
  refine rn_cvm mX2_fillLengths [.int (nI a), .ref 16] [] 55 (none) (mu_r (mu_s (mu_s (mu_s (mu_s (mu_s (mu_s mu 15 7 (nI v)) 15 8 (nI (min m 9998))) 15 6 (nI w)) 15 5 0) 15 9 0) 15 3 0) 16 (fw g a ((mu_s (mu_s (mu_s (mu_s (mu_s (mu_s mu 15 7 (nI v)) 15 8 (nI (min m 9998))) 15 6 (nI w)) 15 5 0) 15 9 0) 15 3 0) 16) g.length)) dX7_begin_52 cv_X7_63 rfl rfl rfl (by simp [Value.category]) rfl (c_fillLengths16 (d + 11) h hg1 (by omega)) ?_
  refine rn_aload_n 56 dX7_begin_55 rfl rfl rfl ?_
  refine rn_iload_n 57 dX7_begin_56 rfl rfl rfl ?_
  refine rn_iconst (v := 1) 58 dX7_begin_57 (by decide) rfl ?_
  refine rn_iload_n 59 dX7_begin_58 rfl rfl rfl ?_
  refine rn_ishl 60 dX7_begin_59 rfl ?_
  rw [nb_1 (by omega)]
  refine rn_iconst (v := 0) 61 dX7_begin_60 (by decide) rfl ?_
  refine rn_iconst (v := 0) 62 dX7_begin_61 (by decide) rfl ?_
  refine rn_callV mX7_walk [.int (nI u), .int (nI (2 ^ u)), .int 0, .int 0] [] dX7_begin_62 cv_X7_67 rfl rfl rfl (by simp [Value.category]) (c_walkA d (g := g) (a := a) hu hv (lim := min m 9998) (by omega) hw 8 [] 0 [] (mu_r (mu_s (mu_s (mu_s (mu_s (mu_s (mu_s mu 15 7 (nI v)) 15 8 (nI (min m 9998))) 15 6 (nI w)) 15 5 0) 15 9 0) 15 3 0) 16 (fw g a ((mu_s (mu_s (mu_s (mu_s (mu_s (mu_s mu 15 7 (nI v)) 15 8 (nI (min m 9998))) 15 6 (nI w)) 15 5 0) 15 9 0) 15 3 0) 16) g.length)) h rfl trivial (Nat.zero_le _) ⟨xg_of hg1 (by simp [mu_r]) (by simp [mu_r]), fun e he => by simp [mu_r, fw, he], by simp [mu_r, mu_s, upd], by simp [mu_r, mu_s, upd], by simp [mu_r, mu_s, upd], by simp [mu_r, mu_s, upd]; exact h10⟩ ⟨by simp [mu_r, mu_s, upd]; rfl, ⟨Nat.zero_le _, List.Pairwise.nil, fun y hy => by cases hy⟩, fun _ => ⟨fun i hi => absurd hi (Nat.not_lt_zero _), by simp [mu_r, mu_s, upd]; rfl⟩⟩) (fun r1 m1 h1 qq _ => ?_)
  obtain ⟨e1, b1, f1⟩ := qq
  subst e1
  rw [Nat.zero_add] at b1
  show rn_R _ mX7_begin _ 65 [some (.ref 15), some (.int (nI u)), some (.int (nI v)), some (.int (nI m)), some (.int (nI w))] [.int 0] m1 h1 _
  refine rn_pop 66 dX7_begin_65 rfl rfl ?_
  refine rn_aload_n 67 dX7_begin_66 rfl rfl rfl ?_
  refine rn_get 70 (.int (m1 15 9)) dX7_begin_67 fl_X7_37 rfl rfl rfl rfl ?_
  exact rn_iret rfl dX7_begin_70 (⟨by rw [b1.1], b1, fun c h1 h2 h3 h4 => by rw [f1.1 c h1 h3 h4]; simp [mu_r, mu_s, h1, h2]⟩)

set_option maxRecDepth 100000 in
set_option maxHeartbeats 2000000 in
theorem c_beginF (d : Nat) {g : List Ed} {a u v m : Nat} (hu : u < 8) (hv : v < 8) (hm : m < 2 ^ 31) {mu : Nat → Nat → Int32} (h : Int64) (hg : xg g mu) (ha : xa g a mu) (h10 : mu 15 10 = 1) : gd_G mX7_begin (d + 12) [.ref 15, .int (nI u), .int (nI v), .int (nI m), .int 0] mu h (fun r mu' _ => (match ptG g a u v (min m 9998) (ptA g a u v 8 []) with | [] => r = some (.int 0) | Q :: _ => r = some (.int 1) ∧ ptM Q (mu' 17) ∧ mu' 15 3 = nI Q.length) ∧ FV mu mu') := by
  refine gd_of rfl (Nat.le_of_ble_eq_true rfl) ?_
  show rn_R none mX7_begin (d + 12) 0 [some (.ref 15), some (.int (nI u)), some (.int (nI v)), some (.int (nI m)), some (.int 0)] [] mu h (fun r mu' _ => (match ptG g a u v (min m 9998) (ptA g a u v 8 []) with | [] => r = some (.int 0) | Q :: _ => r = some (.int 1) ∧ ptM Q (mu' 17) ∧ mu' 15 3 = nI Q.length) ∧ FV mu mu')
  have h16 := hg.1
  have hp := pw_le hg.1
  have ha2 := ha.2
  refine rn_aload_n 1 dX7_begin_0 rfl rfl rfl ?_
  refine rn_iload_n 2 dX7_begin_1 rfl rfl rfl ?_
  refine rn_put 5 dX7_begin_2 fp_X7_31 rfl rfl rfl rfl rfl ?_
  refine rn_aload_n 6 dX7_begin_5 rfl rfl rfl ?_
  refine rn_iload_n 7 dX7_begin_6 rfl rfl rfl ?_
  refine rn_sipush (v := 9998) 10 dX7_begin_7 (by decide) rfl ?_
  refine rn_min 13 dX7_begin_10 cs_X7_52 (by simp [Value.category]) rfl ?_
  rw [show (if (9998 : Int32) < nI m then 9998 else nI m) = nI (min m 9998) from min_nI (b := 9998) (by omega) (by omega)]
  refine rn_put 16 dX7_begin_13 fp_X7_34 rfl rfl rfl rfl rfl ?_
  refine rn_aload_n 17 dX7_begin_16 rfl rfl rfl ?_
  refine rn_iload 19 dX7_begin_17 rfl rfl ?_
  refine rn_put 22 dX7_begin_19 fp_X7_28 rfl rfl rfl rfl rfl ?_
  refine rn_aload_n 23 dX7_begin_22 rfl rfl rfl ?_
  refine rn_iconst (v := 0) 24 dX7_begin_23 (by decide) rfl ?_
  refine rn_put 27 dX7_begin_24 fp_X7_25 rfl rfl rfl rfl rfl ?_
  refine rn_aload_n 28 dX7_begin_27 rfl rfl rfl ?_
  refine rn_iconst (v := 0) 29 dX7_begin_28 (by decide) rfl ?_
  refine rn_put 32 dX7_begin_29 fp_X7_37 rfl rfl rfl rfl rfl ?_
  refine rn_aload_n 33 dX7_begin_32 rfl rfl rfl ?_
  refine rn_iconst (v := 0) 34 dX7_begin_33 (by decide) rfl ?_
  refine rn_put 37 dX7_begin_34 fp_X7_18 rfl rfl rfl rfl rfl ?_
  refine rn_aload_n 38 dX7_begin_37 rfl rfl rfl ?_
  refine rn_get 41 (.ref 1) dX7_begin_38 fl_X7_44 rfl rfl rfl rfl ?_
  refine rn_aload_n 42 dX7_begin_41 rfl rfl rfl ?_
  refine rn_get 45 (.ref 1) dX7_begin_42 fl_X7_44 rfl rfl rfl rfl ?_
  refine rn_get 48 (.int (mu 1 2)) dX7_begin_45 fl_X7_58 rfl rfl rfl rfl ?_
  refine rn_aload_n 49 dX7_begin_48 rfl rfl rfl ?_
  refine rn_get 52 (.ref 16) dX7_begin_49 fl_X7_9 rfl rfl rfl rfl ?_
  rw [ha.1]
  have hg1 : xg g (mu_s (mu_s (mu_s (mu_s (mu_s (mu_s mu 15 7 (nI v)) 15 8 (nI (min m 9998))) 15 6 0) 15 5 0) 15 9 0) 15 3 0) := xg_of hg (by simp [mu_s]) (by simp [mu_s])
  refine rn_cvm mX2_fillLengths [.int (nI a), .ref 16] [] 55 (none) (mu_r (mu_s (mu_s (mu_s (mu_s (mu_s (mu_s mu 15 7 (nI v)) 15 8 (nI (min m 9998))) 15 6 0) 15 5 0) 15 9 0) 15 3 0) 16 (fw g a ((mu_s (mu_s (mu_s (mu_s (mu_s (mu_s mu 15 7 (nI v)) 15 8 (nI (min m 9998))) 15 6 0) 15 5 0) 15 9 0) 15 3 0) 16) g.length)) dX7_begin_52 cv_X7_63 rfl rfl rfl (by simp [Value.category]) rfl (c_fillLengths16 (d + 11) h hg1 (by omega)) ?_
  refine rn_aload_n 56 dX7_begin_55 rfl rfl rfl ?_
  refine rn_iload_n 57 dX7_begin_56 rfl rfl rfl ?_
  refine rn_iconst (v := 1) 58 dX7_begin_57 (by decide) rfl ?_
  refine rn_iload_n 59 dX7_begin_58 rfl rfl rfl ?_
  refine rn_ishl 60 dX7_begin_59 rfl ?_
  rw [nb_1 (by omega)]
  refine rn_iconst (v := 0) 61 dX7_begin_60 (by decide) rfl ?_
  refine rn_iconst (v := 0) 62 dX7_begin_61 (by decide) rfl ?_
  refine rn_callV mX7_walk [.int (nI u), .int (nI (2 ^ u)), .int 0, .int 0] [] dX7_begin_62 cv_X7_67 rfl rfl rfl (by simp [Value.category]) (c_walkF d (g := g) (a := a) hu hv (lim := min m 9998) (A := 0) (by omega) 8 [] (mu_r (mu_s (mu_s (mu_s (mu_s (mu_s (mu_s mu 15 7 (nI v)) 15 8 (nI (min m 9998))) 15 6 0) 15 5 0) 15 9 0) 15 3 0) 16 (fw g a ((mu_s (mu_s (mu_s (mu_s (mu_s (mu_s mu 15 7 (nI v)) 15 8 (nI (min m 9998))) 15 6 0) 15 5 0) 15 9 0) 15 3 0) 16) g.length)) h rfl trivial (Nat.zero_le _) ⟨xg_of hg1 (by simp [mu_r]) (by simp [mu_r]), fun e he => by simp [mu_r, fw, he], by simp [mu_r, mu_s, upd]; rfl, by simp [mu_r, mu_s, upd], by simp [mu_r, mu_s, upd], by simp [mu_r, mu_s, upd]; exact h10⟩ trivial (by simp [mu_r, mu_s, upd]; rfl)) (fun r1 m1 h1 qq _ => ?_)
  obtain ⟨b1, f1⟩ := qq
  cases hG : ptG g a u v (min m 9998) (ptA g a u v 8 []) with
  | nil =>
    rw [hG] at b1
    obtain ⟨e1, b2, b3⟩ := b1
    subst e1
    show rn_R _ mX7_begin _ 65 [some (.ref 15), some (.int (nI u)), some (.int (nI v)), some (.int (nI m)), some (.int 0)] [.int 0] m1 h1 _
    refine rn_pop 66 dX7_begin_65 rfl rfl ?_
    refine rn_aload_n 67 dX7_begin_66 rfl rfl rfl ?_
    refine rn_get 70 (.int (m1 15 9)) dX7_begin_67 fl_X7_37 rfl rfl rfl rfl ?_
    exact rn_iret rfl dX7_begin_70 (⟨by rw [b3]; rfl, fun c h1 h2 h3 h4 => by rw [f1.1 c h1 h3 h4]; simp [mu_r, mu_s, h1, h2]⟩)
  | cons Q L2 =>
    rw [hG] at b1
    obtain ⟨e1, b2, b3, b4⟩ := b1
    subst e1
    show rn_R _ mX7_begin _ 65 [some (.ref 15), some (.int (nI u)), some (.int (nI v)), some (.int (nI m)), some (.int 0)] [.int 1] m1 h1 _
    refine rn_pop 66 dX7_begin_65 rfl rfl ?_
    refine rn_aload_n 67 dX7_begin_66 rfl rfl rfl ?_
    refine rn_get 70 (.int (m1 15 9)) dX7_begin_67 fl_X7_37 rfl rfl rfl rfl ?_
    exact rn_iret rfl dX7_begin_70 (⟨⟨by rw [b4]; rfl, b2, b3⟩, fun c h1 h2 h3 h4 => by rw [f1.1 c h1 h3 h4]; simp [mu_r, mu_s, h1, h2]⟩)

set_option maxRecDepth 100000 in
set_option maxHeartbeats 2000000 in
theorem c_countUpTo (d : Nat) {g : List Ed} {a u v m : Nat} (hu : u < 8) (hv : v < 8) (hm : m < 2 ^ 31) {mu : Nat → Nat → Int32} (h : Int64) (hg : xg g mu) (ha : xa g a mu) : gd_G mX7_countUpTo (d + 13) [.ref 15, .int (nI u), .int (nI v), .int (nI m)] mu h (fun r mu' _ => r = some (.int (nI (ctP g a u v m))) ∧ FV mu mu') := by
  refine gd_of rfl (Nat.le_of_ble_eq_true rfl) ?_
  show rn_R none mX7_countUpTo (d + 13) 0 [some (.ref 15), some (.int (nI u)), some (.int (nI v)), some (.int (nI m))] [] mu h (fun r mu' _ => r = some (.int (nI (ctP g a u v m))) ∧ FV mu mu')
  refine rn_aload_n 1 dX7_countUpTo_0 rfl rfl rfl ?_
  refine rn_iconst (v := 0) 2 dX7_countUpTo_1 (by decide) rfl ?_
  refine rn_put 5 dX7_countUpTo_2 fp_X7_40 rfl rfl rfl rfl rfl ?_
  refine rn_aload_n 6 dX7_countUpTo_5 rfl rfl rfl ?_
  refine rn_iload_n 7 dX7_countUpTo_6 rfl rfl rfl ?_
  refine rn_iload_n 8 dX7_countUpTo_7 rfl rfl rfl ?_
  refine rn_iload_n 9 dX7_countUpTo_8 rfl rfl rfl ?_
  refine rn_iconst (v := 0) 10 dX7_countUpTo_9 (by decide) rfl ?_
  refine rn_callV mX7_begin [.int (nI u), .int (nI v), .int (nI m), .int 0] [] dX7_countUpTo_10 cv_X7_48 rfl rfl rfl (by simp [Value.category]) (c_beginA d hu hv hm (w := 0) (by omega) h (mu := mu_s mu 15 10 0) (xg_of hg (by simp [mu_s]) (by simp [mu_s])) ⟨by simp [mu_s]; exact ha.1, ha.2⟩ (by simp [mu_s, upd])) (fun r1 m1 h1 qq _ => ?_)
  obtain ⟨e1, b1, f1⟩ := qq
  subst e1
  rw [ptG_P, ptP_min hg.2.1 hu hv]
  show rn_R _ mX7_countUpTo _ 13 [some (.ref 15), some (.int (nI u)), some (.int (nI v)), some (.int (nI m))] [.int (nI (ctP g a u v m))] m1 h1 _
  exact rn_iret rfl dX7_countUpTo_13 (⟨rfl, fun c h1 h2 h3 h4 => by rw [f1 c h1 h2 h3 h4]; simp [mu_s, h1]⟩)

set_option maxRecDepth 100000 in
set_option maxHeartbeats 2000000 in
theorem c_ranked (d : Nat) {g : List Ed} {a u v k : Nat} (hu : u < 8) (hv : v < 8) (hk : k < 100) {mu : Nat → Nat → Int32} (h : Int64) (hg : xg g mu) (ha : xa g a mu) : gd_G mX7_rankedLength (d + 13) [.ref 15, .int (nI u), .int (nI v), .int (nI k)] mu h (fun r mu' _ => r = some (.int (plA (fsL g a (ptP g a u v)) k)) ∧ FV mu mu') := by
  refine gd_of rfl (Nat.le_of_ble_eq_true rfl) ?_
  show rn_R none mX7_rankedLength (d + 13) 0 [some (.ref 15), some (.int (nI u)), some (.int (nI v)), some (.int (nI k))] [] mu h (fun r mu' _ => r = some (.int (plA (fsL g a (ptP g a u v)) k)) ∧ FV mu mu')
  have hk2 : min 9999 9998 = 9998 := rfl
  refine rn_iload_n 1 dX7_rankedLength_0 rfl rfl rfl ?_
  refine rn_if_lt 10 4 dX7_rankedLength_1 (by decide) rfl (fun c1 => absurd c1 (nI_pos (by omega))) (fun _ => ?_)
  refine rn_iload_n 5 dX7_rankedLength_4 rfl rfl rfl ?_
  refine rn_bipush (v := 100) 7 dX7_rankedLength_5 (by decide) rfl ?_
  refine rn_icmp_lt 12 10 dX7_rankedLength_7 (by decide) rfl (fun _ => ?_) (fun c7 => absurd (nI_lt (b := 100) (by omega) (by omega)) c7)
  refine rn_aload_n 13 dX7_rankedLength_12 rfl rfl rfl ?_
  refine rn_iconst (v := 0) 14 dX7_rankedLength_13 (by decide) rfl ?_
  refine rn_put 17 dX7_rankedLength_14 fp_X7_40 rfl rfl rfl rfl rfl ?_
  refine rn_aload_n 18 dX7_rankedLength_17 rfl rfl rfl ?_
  refine rn_iload_n 19 dX7_rankedLength_18 rfl rfl rfl ?_
  refine rn_iload_n 20 dX7_rankedLength_19 rfl rfl rfl ?_
  refine rn_sipush (v := 9999) 23 dX7_rankedLength_20 (by decide) rfl ?_
  refine rn_iload_n 24 dX7_rankedLength_23 rfl rfl rfl ?_
  refine rn_iconst (v := 1) 25 dX7_rankedLength_24 (by decide) rfl ?_
  refine rn_iadd 26 dX7_rankedLength_25 rfl ?_
  rw [nI_1]
  refine rn_callV mX7_begin [.int (nI u), .int (nI v), .int 9999, .int (nI (k + 1))] [] dX7_rankedLength_26 cv_X7_48 rfl rfl rfl (by simp [Value.category]) (c_beginA d hu hv (m := 9999) (by omega) (w := k + 1) (by omega) h (mu := mu_s mu 15 10 0) (xg_of hg (by simp [mu_s]) (by simp [mu_s])) ⟨by simp [mu_s]; exact ha.1, ha.2⟩ (by simp [mu_s, upd])) (fun r1 m1 h1 qq _ => ?_)
  obtain ⟨e1, b1, f1⟩ := qq
  subst e1
  rw [ptG_P, show min 9999 9998 = 9998 from rfl, ptP_all hg.2.1 hu hv] at b1
  have ef : (ptP g a u v).foldl (fun R Q => stW (k + 1) R (ptL g a Q)) [] = (fsL g a (ptP g a u v)).take (k + 1) := by
    have e0 : (fun R Q => stW (k + 1) R (ptL g a Q)) = (fun R Q => rkC (k + 1) (ptL g a Q) R) := by funext R Q; exact if_pos (by omega)
    rw [e0]
    exact fs_take (ptP g a u v) []
  rw [ef] at b1
  obtain ⟨-, c2, c3⟩ := b1
  obtain ⟨c4, c5⟩ := c3 (by omega)
  generalize fsL g a (ptP g a u v) = S at c2 c4 c5 ⊢
  refine rn_pop 30 dX7_rankedLength_29 rfl rfl ?_
  have hl : (S.take (k + 1)).length = min (k + 1) S.length := List.length_take
  have hlb := c2.1
  by_cases q : k < S.length
  · skip
    refine rn_iload_n 31 dX7_rankedLength_30 rfl rfl rfl ?_
    refine rn_aload_n 32 dX7_rankedLength_31 rfl rfl rfl ?_
    refine rn_get 35 (.int (m1 15 5)) dX7_rankedLength_32 fl_X7_25 rfl rfl rfl rfl ?_
    refine rn_icmp_ge 47 38 dX7_rankedLength_35 (by decide) rfl (fun c35 => absurd c35 (by rw [c5]; exact nI_ge (by omega) (by omega))) (fun _ => ?_)
    refine rn_aload_n 39 dX7_rankedLength_38 rfl rfl rfl ?_
    refine rn_get 42 (.ref 18) dX7_rankedLength_39 fl_X7_22 rfl rfl rfl rfl ?_
    refine rn_iload_n 43 dX7_rankedLength_42 rfl rfl rfl ?_
    refine rn_iald 44 (nI ((S.take (k + 1)).getD k 0)) dX7_rankedLength_43 rfl (vp_in_nI (by omega) (by omega)) (by rw [nI_clamp (by omega)]; exact c4 k (by omega)) rfl ?_
    refine rn_goto 48 dX7_rankedLength_44 (by decide) ?_
    exact rn_iret rfl dX7_rankedLength_48 (⟨by rw [takeD (by omega)]; unfold plA; rw [if_pos q], fun c h1 h2 h3 h4 => by rw [f1 c h1 h2 h3 h4]; simp [mu_s, h1]⟩)
  · skip
    refine rn_iload_n 31 dX7_rankedLength_30 rfl rfl rfl ?_
    refine rn_aload_n 32 dX7_rankedLength_31 rfl rfl rfl ?_
    refine rn_get 35 (.int (m1 15 5)) dX7_rankedLength_32 fl_X7_25 rfl rfl rfl rfl ?_
    refine rn_icmp_ge 47 38 dX7_rankedLength_35 (by decide) rfl (fun _ => ?_) (fun c35 => absurd (by rw [c5]; exact nI_le (by omega) (by omega)) c35)
    refine rn_iconst (v := (-1)) 48 dX7_rankedLength_47 (by decide) rfl ?_
    exact rn_iret rfl dX7_rankedLength_48 (⟨by unfold plA; rw [if_neg q], fun c h1 h2 h3 h4 => by rw [f1 c h1 h2 h3 h4]; simp [mu_s, h1]⟩)

set_option maxRecDepth 100000 in
set_option maxHeartbeats 2000000 in
theorem c_findFirst (d : Nat) {g : List Ed} {a u v m : Nat} (hu : u < 8) (hv : v < 8) (hm : m < 2 ^ 31) {mu : Nat → Nat → Int32} (h : Int64) (hg : xg g mu) (ha : xa g a mu) : gd_G mX7_findFirst (d + 13) [.ref 15, .int (nI u), .int (nI v), .int (nI m)] mu h (fun r mu' _ => (match (ptP g a u v).filter (fun Q => decide (ptL g a Q ≤ m)) with | [] => r = some (.int 0) | Q :: _ => r = some (.int 1) ∧ ptM Q (mu' 17) ∧ mu' 15 3 = nI Q.length) ∧ FV mu mu') := by
  refine gd_of rfl (Nat.le_of_ble_eq_true rfl) ?_
  show rn_R none mX7_findFirst (d + 13) 0 [some (.ref 15), some (.int (nI u)), some (.int (nI v)), some (.int (nI m))] [] mu h (fun r mu' _ => (match (ptP g a u v).filter (fun Q => decide (ptL g a Q ≤ m)) with | [] => r = some (.int 0) | Q :: _ => r = some (.int 1) ∧ ptM Q (mu' 17) ∧ mu' 15 3 = nI Q.length) ∧ FV mu mu')
  refine rn_aload_n 1 dX7_findFirst_0 rfl rfl rfl ?_
  refine rn_iconst (v := 1) 2 dX7_findFirst_1 (by decide) rfl ?_
  refine rn_put 5 dX7_findFirst_2 fp_X7_40 rfl rfl rfl rfl rfl ?_
  refine rn_aload_n 6 dX7_findFirst_5 rfl rfl rfl ?_
  refine rn_iload_n 7 dX7_findFirst_6 rfl rfl rfl ?_
  refine rn_iload_n 8 dX7_findFirst_7 rfl rfl rfl ?_
  refine rn_iload_n 9 dX7_findFirst_8 rfl rfl rfl ?_
  refine rn_iconst (v := 0) 10 dX7_findFirst_9 (by decide) rfl ?_
  refine rn_callV mX7_begin [.int (nI u), .int (nI v), .int (nI m), .int 0] [] dX7_findFirst_10 cv_X7_48 rfl rfl rfl (by simp [Value.category]) (c_beginF d hu hv hm h (mu := mu_s mu 15 10 1) (xg_of hg (by simp [mu_s]) (by simp [mu_s])) ⟨by simp [mu_s]; exact ha.1, ha.2⟩ (by simp [mu_s, upd])) (fun r1 m1 h1 qq _ => ?_)
  obtain ⟨b1, f1⟩ := qq
  rw [ptG_P, ptP_min hg.2.1 hu hv] at b1
  cases hG : (ptP g a u v).filter (fun Q => decide (ptL g a Q ≤ m)) with
  | nil =>
    rw [hG] at b1
    subst b1
    show rn_R _ mX7_findFirst _ 13 [some (.ref 15), some (.int (nI u)), some (.int (nI v)), some (.int (nI m))] [.int 0] m1 h1 _
    refine rn_if_le 20 16 dX7_findFirst_13 (by decide) rfl (fun _ => ?_) (fun c13 => absurd (by decide) c13)
    refine rn_iconst (v := 0) 21 dX7_findFirst_20 (by decide) rfl ?_
    exact rn_zret rfl dX7_findFirst_21 rfl (⟨rfl, fun c h1 h2 h3 h4 => by rw [f1 c h1 h2 h3 h4]; simp [mu_s, h1]⟩)
  | cons Q L2 =>
    rw [hG] at b1
    obtain ⟨e1, b2, b3⟩ := b1
    subst e1
    show rn_R _ mX7_findFirst _ 13 [some (.ref 15), some (.int (nI u)), some (.int (nI v)), some (.int (nI m))] [.int 1] m1 h1 _
    refine rn_if_le 20 16 dX7_findFirst_13 (by decide) rfl (fun c13 => absurd c13 (by decide)) (fun _ => ?_)
    refine rn_iconst (v := 1) 17 dX7_findFirst_16 (by decide) rfl ?_
    refine rn_goto 21 dX7_findFirst_17 (by decide) ?_
    exact rn_zret rfl dX7_findFirst_21 rfl (⟨⟨rfl, b2, b3⟩, fun c h1 h2 h3 h4 => by rw [f1 c h1 h2 h3 h4]; simp [mu_s, h1]⟩)

set_option maxRecDepth 100000 in
set_option maxHeartbeats 2000000 in
theorem c_trailEdge (d : Nat) {mu : Nat → Nat → Int32} (h : Int64) {Q : List Nat} {i : Int32} (hQ : Q.length ≤ 7) (hM : ptM Q (mu 17)) (h3 : mu 15 3 = nI Q.length) (hi0 : ¬ i < 0) (hi : ¬ i = -1) : gd_G mX7_trailEdge d [.ref 15, .int i] mu h (pq (some (.int (frA (some Q) i))) mu h) := by
  refine gd_of rfl (Nat.le_of_ble_eq_true rfl) ?_
  show rn_R none mX7_trailEdge d 0 [some (.ref 15), some (.int i)] [] mu h (pq (some (.int (frA (some Q) i))) mu h)
  obtain ⟨k, hk, rfl⟩ := nI_of hi0
  have ec : (nI k).toNatClampNeg = k := nI_clamp hk
  have hl : Q.length < 2 ^ 31 := by omega
  by_cases q : k < Q.length
  · skip
    refine rn_iload_n 1 dX7_trailEdge_0 rfl rfl rfl ?_
    refine rn_if_lt 27 4 dX7_trailEdge_1 (by decide) rfl (fun c1 => absurd c1 (nI_pos hk)) (fun _ => ?_)
    refine rn_iload_n 5 dX7_trailEdge_4 rfl rfl rfl ?_
    refine rn_aload_n 6 dX7_trailEdge_5 rfl rfl rfl ?_
    refine rn_get 9 (.int (mu 15 3)) dX7_trailEdge_6 fl_X7_18 rfl rfl rfl rfl ?_
    refine rn_icmp_ge 27 12 dX7_trailEdge_9 (by decide) rfl (fun c9 => absurd c9 (by rw [h3]; exact nI_ge q hl)) (fun _ => ?_)
    refine rn_iload_n 13 dX7_trailEdge_12 rfl rfl rfl ?_
    refine rn_bipush (v := 8) 15 dX7_trailEdge_13 (by decide) rfl ?_
    refine rn_icmp_ge 27 18 dX7_trailEdge_15 (by decide) rfl (fun c15 => absurd c15 (nI_ge (b := 8) (by omega) (by omega))) (fun _ => ?_)
    refine rn_aload_n 19 dX7_trailEdge_18 rfl rfl rfl ?_
    refine rn_get 22 (.ref 17) dX7_trailEdge_19 fl_X7_15 rfl rfl rfl rfl ?_
    refine rn_iload_n 23 dX7_trailEdge_22 rfl rfl rfl ?_
    refine rn_iald 24 (nI (Q.reverse.getD k 0)) dX7_trailEdge_23 rfl (vp_in_nI (by omega) (by omega)) (by rw [nI_clamp hk]; exact ptM_at Q hM k q) rfl ?_
    refine rn_goto 28 dX7_trailEdge_24 (by decide) ?_
    exact rn_iret rfl dX7_trailEdge_28 (⟨by unfold frA; simp only; rw [if_neg hi, if_pos (nI_lt q hl), ec], rfl, rfl⟩)
  · skip
    refine rn_iload_n 1 dX7_trailEdge_0 rfl rfl rfl ?_
    refine rn_if_lt 27 4 dX7_trailEdge_1 (by decide) rfl (fun c1 => absurd c1 (nI_pos hk)) (fun _ => ?_)
    refine rn_iload_n 5 dX7_trailEdge_4 rfl rfl rfl ?_
    refine rn_aload_n 6 dX7_trailEdge_5 rfl rfl rfl ?_
    refine rn_get 9 (.int (mu 15 3)) dX7_trailEdge_6 fl_X7_18 rfl rfl rfl rfl ?_
    refine rn_icmp_ge 27 12 dX7_trailEdge_9 (by decide) rfl (fun _ => ?_) (fun c9 => absurd (by rw [h3]; exact nI_le (by omega) (by omega)) c9)
    refine rn_iconst (v := (-1)) 28 dX7_trailEdge_27 (by decide) rfl ?_
    exact rn_iret rfl dX7_trailEdge_28 (⟨by unfold frA; simp only; rw [if_neg hi, if_neg (nI_nlt (by omega) (by omega))], rfl, rfl⟩)

set_option maxRecDepth 100000 in
set_option maxHeartbeats 2000000 in
theorem x_pat_b (d : Nat) {g : List Ed} {a : Nat} {hs : List Sg} {tx : List Nat} {f : Int32} {v1 v2 v3 : Int32} (hv : ¬ ((isin v1 8 ∧ isin v2 8) ∧ ¬ v3 < 0)) : XC mX8_paths (d + 2) [.int v1, .int v2, .int v3] (g, a, hs, tx, f) (g, a, hs, tx, f) (.int (-2)) := by
  intro mu h hs0
  obtain ⟨hg, ha, hh, ht, hf⟩ := id hs0
  simp only at hg ha hh ht hf
  refine gd_of rfl (Nat.le_of_ble_eq_true rfl) ?_
  show rn_R none mX8_paths (d + 2) 0 [some (.ref 0), some (.int v1), some (.int v2), some (.int v3)] [] mu h (fun r mu' _ => r = some (.int (-2)) ∧ xS (g, a, hs, tx, f) mu' ∧ ∀ c, 22 ≤ c → mu' c = mu c)
  by_cases q1 : isin v1 8 ∧ isin v2 8
  · skip
    have q3 : v3 < 0 := Classical.byContradiction (fun z => hv ⟨q1, z⟩)
    refine rn_iload_n 1 dX8_paths_0 rfl rfl rfl ?_
    refine rn_iload_n 2 dX8_paths_1 rfl rfl rfl ?_
    refine rn_csp mX8_areNodes [.int v1, .int v2] [] 5 (.int 1) dX8_paths_2 cs_X8_75 rfl rfl (by simp [Value.category]) rfl (c_areNodes_t d mu h q1.1 q1.2) ?_
    refine rn_if_eq 12 8 dX8_paths_5 (by decide) rfl (fun c5 => absurd c5 (by decide)) (fun _ => ?_)
    refine rn_iload_n 9 dX8_paths_8 rfl rfl rfl ?_
    refine rn_if_ge 15 12 dX8_paths_9 (by decide) rfl (fun c9 => absurd c9 (Int32.not_le.mpr q3)) (fun _ => ?_)
    refine rn_bipush (v := (-2)) 14 dX8_paths_12 (by decide) rfl ?_
    exact rn_iret rfl dX8_paths_14 (⟨rfl, hs0, fun _ _ => rfl⟩)
  · skip
    refine rn_iload_n 1 dX8_paths_0 rfl rfl rfl ?_
    refine rn_iload_n 2 dX8_paths_1 rfl rfl rfl ?_
    refine rn_csp mX8_areNodes [.int v1, .int v2] [] 5 (.int 0) dX8_paths_2 cs_X8_75 rfl rfl (by simp [Value.category]) rfl (c_areNodes_f d mu h q1) ?_
    refine rn_if_eq 12 8 dX8_paths_5 (by decide) rfl (fun _ => ?_) (fun c5 => absurd (by decide) c5)
    refine rn_bipush (v := (-2)) 14 dX8_paths_12 (by decide) rfl ?_
    exact rn_iret rfl dX8_paths_14 (⟨rfl, hs0, fun _ _ => rfl⟩)

set_option maxRecDepth 100000 in
set_option maxHeartbeats 2000000 in
theorem x_pat_t (d : Nat) {g : List Ed} {a : Nat} {hs : List Sg} {tx : List Nat} {f : Int32} {u v : Nat} (hu : u < 8) (hv : v < 8) {m : Nat} (hm : m < 2 ^ 31) : XC mX8_paths (d + 14) [.int (nI u), .int (nI v), .int (nI m)] (g, a, hs, tx, f) (g, a, hs, tx, f) (.int (nI (ctP g a u v m))) := by
  intro mu h hs0
  obtain ⟨hg, ha, hh, ht, hf⟩ := id hs0
  simp only at hg ha hh ht hf
  refine gd_of rfl (Nat.le_of_ble_eq_true rfl) ?_
  show rn_R none mX8_paths (d + 14) 0 [some (.ref 0), some (.int (nI u)), some (.int (nI v)), some (.int (nI m))] [] mu h (fun r mu' _ => r = some (.int (nI (ctP g a u v m))) ∧ xS (g, a, hs, tx, f) mu' ∧ ∀ c, 22 ≤ c → mu' c = mu c)
  refine rn_iload_n 1 dX8_paths_0 rfl rfl rfl ?_
  refine rn_iload_n 2 dX8_paths_1 rfl rfl rfl ?_
  refine rn_csp mX8_areNodes [.int (nI u), .int (nI v)] [] 5 (.int 1) dX8_paths_2 cs_X8_75 rfl rfl (by simp [Value.category]) rfl (c_areNodes_t (d + 12) mu h ⟨u, hu, rfl⟩ ⟨v, hv, rfl⟩) ?_
  refine rn_if_eq 12 8 dX8_paths_5 (by decide) rfl (fun c5 => absurd c5 (by decide)) (fun _ => ?_)
  refine rn_iload_n 9 dX8_paths_8 rfl rfl rfl ?_
  refine rn_if_ge 15 12 dX8_paths_9 (by decide) rfl (fun _ => ?_) (fun c9 => absurd (nI_pos' hm) c9)
  refine rn_aload_n 16 dX8_paths_15 rfl rfl rfl ?_
  refine rn_get 19 (.ref 15) dX8_paths_16 fl_X8_42 rfl rfl rfl rfl ?_
  refine rn_iload_n 20 dX8_paths_19 rfl rfl rfl ?_
  refine rn_iload_n 21 dX8_paths_20 rfl rfl rfl ?_
  refine rn_iload_n 22 dX8_paths_21 rfl rfl rfl ?_
  refine rn_callV mX7_countUpTo [.int (nI u), .int (nI v), .int (nI m)] [] dX8_paths_22 cv_X8_151 rfl rfl rfl (by simp [Value.category]) (c_countUpTo d hu hv hm h hg ha) (fun r1 m1 h1 qq _ => ?_)
  obtain ⟨e1, f1⟩ := qq
  subst e1
  show rn_R _ mX8_paths _ 25 [some (.ref 0), some (.int (nI u)), some (.int (nI v)), some (.int (nI m))] [.int (nI (ctP g a u v m))] m1 h1 _
  exact rn_iret rfl dX8_paths_25 (⟨rfl, xS_fr hs0 (fun c hc => f1 c (by omega) (by omega) (by omega) (by omega)), fun c hc => f1 c (by omega) (by omega) (by omega) (by omega)⟩)

set_option maxRecDepth 100000 in
set_option maxHeartbeats 2000000 in
theorem x_len_b (d : Nat) {g : List Ed} {a : Nat} {hs : List Sg} {tx : List Nat} {f : Int32} {v1 v2 v3 : Int32} (hv : ¬ ((isin v1 8 ∧ isin v2 8) ∧ isin v3 100)) : XC mX8_pathLength (d + 2) [.int v1, .int v2, .int v3] (g, a, hs, tx, f) (g, a, hs, tx, f) (.int (-2)) := by
  intro mu h hs0
  obtain ⟨hg, ha, hh, ht, hf⟩ := id hs0
  simp only at hg ha hh ht hf
  refine gd_of rfl (Nat.le_of_ble_eq_true rfl) ?_
  show rn_R none mX8_pathLength (d + 2) 0 [some (.ref 0), some (.int v1), some (.int v2), some (.int v3)] [] mu h (fun r mu' _ => r = some (.int (-2)) ∧ xS (g, a, hs, tx, f) mu' ∧ ∀ c, 22 ≤ c → mu' c = mu c)
  by_cases q1 : isin v1 8 ∧ isin v2 8
  · skip
    have q3 : ¬ isin v3 100 := fun z => hv ⟨q1, z⟩
    by_cases q4 : v3 < 0
    · skip
      refine rn_iload_n 1 dX8_pathLength_0 rfl rfl rfl ?_
      refine rn_iload_n 2 dX8_pathLength_1 rfl rfl rfl ?_
      refine rn_csp mX8_areNodes [.int v1, .int v2] [] 5 (.int 1) dX8_pathLength_2 cs_X8_75 rfl rfl (by simp [Value.category]) rfl (c_areNodes_t d mu h q1.1 q1.2) ?_
      refine rn_if_eq 18 8 dX8_pathLength_5 (by decide) rfl (fun c5 => absurd c5 (by decide)) (fun _ => ?_)
      refine rn_iload_n 9 dX8_pathLength_8 rfl rfl rfl ?_
      refine rn_if_lt 18 12 dX8_pathLength_9 (by decide) rfl (fun _ => ?_) (fun c9 => absurd (q4) c9)
      refine rn_bipush (v := (-2)) 20 dX8_pathLength_18 (by decide) rfl ?_
      exact rn_iret rfl dX8_pathLength_20 (⟨rfl, hs0, fun _ _ => rfl⟩)
    · skip
      refine rn_iload_n 1 dX8_pathLength_0 rfl rfl rfl ?_
      refine rn_iload_n 2 dX8_pathLength_1 rfl rfl rfl ?_
      refine rn_csp mX8_areNodes [.int v1, .int v2] [] 5 (.int 1) dX8_pathLength_2 cs_X8_75 rfl rfl (by simp [Value.category]) rfl (c_areNodes_t d mu h q1.1 q1.2) ?_
      refine rn_if_eq 18 8 dX8_pathLength_5 (by decide) rfl (fun c5 => absurd c5 (by decide)) (fun _ => ?_)
      refine rn_iload_n 9 dX8_pathLength_8 rfl rfl rfl ?_
      refine rn_if_lt 18 12 dX8_pathLength_9 (by decide) rfl (fun c9 => absurd c9 (q4)) (fun _ => ?_)
      refine rn_iload_n 13 dX8_pathLength_12 rfl rfl rfl ?_
      refine rn_bipush (v := 100) 15 dX8_pathLength_13 (by decide) rfl ?_
      refine rn_icmp_lt 21 18 dX8_pathLength_15 (by decide) rfl (fun c15 => absurd c15 (fun z => q3 (isin_of (n := 100) (by omega) q4 (fun z2 => Int32.lt_irrefl (Int32.lt_of_lt_of_le z z2))))) (fun _ => ?_)
      refine rn_bipush (v := (-2)) 20 dX8_pathLength_18 (by decide) rfl ?_
      exact rn_iret rfl dX8_pathLength_20 (⟨rfl, hs0, fun _ _ => rfl⟩)
  · skip
    refine rn_iload_n 1 dX8_pathLength_0 rfl rfl rfl ?_
    refine rn_iload_n 2 dX8_pathLength_1 rfl rfl rfl ?_
    refine rn_csp mX8_areNodes [.int v1, .int v2] [] 5 (.int 0) dX8_pathLength_2 cs_X8_75 rfl rfl (by simp [Value.category]) rfl (c_areNodes_f d mu h q1) ?_
    refine rn_if_eq 18 8 dX8_pathLength_5 (by decide) rfl (fun _ => ?_) (fun c5 => absurd (by decide) c5)
    refine rn_bipush (v := (-2)) 20 dX8_pathLength_18 (by decide) rfl ?_
    exact rn_iret rfl dX8_pathLength_20 (⟨rfl, hs0, fun _ _ => rfl⟩)

set_option maxRecDepth 100000 in
set_option maxHeartbeats 2000000 in
theorem x_len_t (d : Nat) {g : List Ed} {a : Nat} {hs : List Sg} {tx : List Nat} {f : Int32} {u v : Nat} (hu : u < 8) (hv : v < 8) {k : Nat} (hk : k < 100) : XC mX8_pathLength (d + 14) [.int (nI u), .int (nI v), .int (nI k)] (g, a, hs, tx, f) (g, a, hs, tx, f) (.int (plA (fsL g a (ptP g a u v)) k)) := by
  intro mu h hs0
  obtain ⟨hg, ha, hh, ht, hf⟩ := id hs0
  simp only at hg ha hh ht hf
  refine gd_of rfl (Nat.le_of_ble_eq_true rfl) ?_
  show rn_R none mX8_pathLength (d + 14) 0 [some (.ref 0), some (.int (nI u)), some (.int (nI v)), some (.int (nI k))] [] mu h (fun r mu' _ => r = some (.int (plA (fsL g a (ptP g a u v)) k)) ∧ xS (g, a, hs, tx, f) mu' ∧ ∀ c, 22 ≤ c → mu' c = mu c)
  refine rn_iload_n 1 dX8_pathLength_0 rfl rfl rfl ?_
  refine rn_iload_n 2 dX8_pathLength_1 rfl rfl rfl ?_
  refine rn_csp mX8_areNodes [.int (nI u), .int (nI v)] [] 5 (.int 1) dX8_pathLength_2 cs_X8_75 rfl rfl (by simp [Value.category]) rfl (c_areNodes_t (d + 12) mu h ⟨u, hu, rfl⟩ ⟨v, hv, rfl⟩) ?_
  refine rn_if_eq 18 8 dX8_pathLength_5 (by decide) rfl (fun c5 => absurd c5 (by decide)) (fun _ => ?_)
  refine rn_iload_n 9 dX8_pathLength_8 rfl rfl rfl ?_
  refine rn_if_lt 18 12 dX8_pathLength_9 (by decide) rfl (fun c9 => absurd c9 (nI_pos (by omega))) (fun _ => ?_)
  refine rn_iload_n 13 dX8_pathLength_12 rfl rfl rfl ?_
  refine rn_bipush (v := 100) 15 dX8_pathLength_13 (by decide) rfl ?_
  refine rn_icmp_lt 21 18 dX8_pathLength_15 (by decide) rfl (fun _ => ?_) (fun c15 => absurd (nI_lt (b := 100) (by omega) (by omega)) c15)
  refine rn_aload_n 22 dX8_pathLength_21 rfl rfl rfl ?_
  refine rn_get 25 (.ref 15) dX8_pathLength_22 fl_X8_42 rfl rfl rfl rfl ?_
  refine rn_iload_n 26 dX8_pathLength_25 rfl rfl rfl ?_
  refine rn_iload_n 27 dX8_pathLength_26 rfl rfl rfl ?_
  refine rn_iload_n 28 dX8_pathLength_27 rfl rfl rfl ?_
  refine rn_callV mX7_rankedLength [.int (nI u), .int (nI v), .int (nI k)] [] dX8_pathLength_28 cv_X8_155 rfl rfl rfl (by simp [Value.category]) (c_ranked d hu hv hk h hg ha) (fun r1 m1 h1 qq _ => ?_)
  obtain ⟨e1, f1⟩ := qq
  subst e1
  show rn_R _ mX8_pathLength _ 31 [some (.ref 0), some (.int (nI u)), some (.int (nI v)), some (.int (nI k))] [.int (plA (fsL g a (ptP g a u v)) k)] m1 h1 _
  exact rn_iret rfl dX8_pathLength_31 (⟨rfl, xS_fr hs0 (fun c hc => f1 c (by omega) (by omega) (by omega) (by omega)), fun c hc => f1 c (by omega) (by omega) (by omega) (by omega)⟩)

set_option maxRecDepth 100000 in
set_option maxHeartbeats 2000000 in
theorem x_fir_b (d : Nat) {g : List Ed} {a : Nat} {hs : List Sg} {tx : List Nat} {f : Int32} {v1 v2 v3 : Int32} (hv : ¬ ((isin v1 8 ∧ isin v2 8) ∧ ¬ v3 < -1)) : XC mX8_first (d + 2) [.int v1, .int v2, .int v3] (g, a, hs, tx, f) (g, a, hs, tx, f) (.int (-2)) := by
  intro mu h hs0
  obtain ⟨hg, ha, hh, ht, hf⟩ := id hs0
  simp only at hg ha hh ht hf
  refine gd_of rfl (Nat.le_of_ble_eq_true rfl) ?_
  show rn_R none mX8_first (d + 2) 0 [some (.ref 0), some (.int v1), some (.int v2), some (.int v3), none] [] mu h (fun r mu' _ => r = some (.int (-2)) ∧ xS (g, a, hs, tx, f) mu' ∧ ∀ c, 22 ≤ c → mu' c = mu c)
  by_cases q1 : isin v1 8 ∧ isin v2 8
  · skip
    have q3 : v3 < -1 := Classical.byContradiction (fun z => hv ⟨q1, z⟩)
    refine rn_iload_n 1 dX8_first_0 rfl rfl rfl ?_
    refine rn_iload_n 2 dX8_first_1 rfl rfl rfl ?_
    refine rn_csp mX8_areNodes [.int v1, .int v2] [] 5 (.int 1) dX8_first_2 cs_X8_75 rfl rfl (by simp [Value.category]) rfl (c_areNodes_t d mu h q1.1 q1.2) ?_
    refine rn_if_eq 13 8 dX8_first_5 (by decide) rfl (fun c5 => absurd c5 (by decide)) (fun _ => ?_)
    refine rn_iload_n 9 dX8_first_8 rfl rfl rfl ?_
    refine rn_iconst (v := (-1)) 10 dX8_first_9 (by decide) rfl ?_
    refine rn_icmp_ge 16 13 dX8_first_10 (by decide) rfl (fun c10 => absurd c10 (Int32.not_le.mpr q3)) (fun _ => ?_)
    refine rn_bipush (v := (-2)) 15 dX8_first_13 (by decide) rfl ?_
    exact rn_iret rfl dX8_first_15 (⟨rfl, hs0, fun _ _ => rfl⟩)
  · skip
    refine rn_iload_n 1 dX8_first_0 rfl rfl rfl ?_
    refine rn_iload_n 2 dX8_first_1 rfl rfl rfl ?_
    refine rn_csp mX8_areNodes [.int v1, .int v2] [] 5 (.int 0) dX8_first_2 cs_X8_75 rfl rfl (by simp [Value.category]) rfl (c_areNodes_f d mu h q1) ?_
    refine rn_if_eq 13 8 dX8_first_5 (by decide) rfl (fun _ => ?_) (fun c5 => absurd (by decide) c5)
    refine rn_bipush (v := (-2)) 15 dX8_first_13 (by decide) rfl ?_
    exact rn_iret rfl dX8_first_15 (⟨rfl, hs0, fun _ _ => rfl⟩)

def hdP (g : List Ed) (a s t : Nat) : Option (List Nat) := if xD g a s t 0 = 9999 then none else ((ptP g a s t).filter (fun Q => decide (ptL g a Q ≤ xD g a s t 0))).head?

theorem hi_n {i : Int32} (h0 : i < 0) (h1 : ¬ i = -1) (h2 : ¬ i < -1) : False := by
  have a := Int32.lt_iff_toInt_lt.mp h0
  have b : ¬ i.toInt < (-1 : Int32).toInt := fun z => h2 (Int32.lt_iff_toInt_lt.mpr z)
  have c : ¬ i.toInt = (-1 : Int32).toInt := fun z => h1 (Int32.toInt_inj.mp z)
  have e0 : (0 : Int32).toInt = 0 := by decide
  have e1 : (-1 : Int32).toInt = -1 := by decide
  rw [e0] at a
  rw [e1] at b c
  omega

set_option maxRecDepth 100000 in
set_option maxHeartbeats 2000000 in
theorem x_fir_t (d : Nat) {g : List Ed} {a : Nat} {hs : List Sg} {tx : List Nat} {f : Int32} {u v : Nat} (hu : u < 8) (hv : v < 8) {i : Int32} (hi : ¬ i < -1) : XC mX8_first (d + 14) [.int (nI u), .int (nI v), .int i] (g, a, hs, tx, f) (g, a, hs, tx, f) (.int (frA (hdP g a u v) i)) := by
  intro mu h hs0
  obtain ⟨hg, ha, hh, ht, hf⟩ := id hs0
  simp only at hg ha hh ht hf
  refine gd_of rfl (Nat.le_of_ble_eq_true rfl) ?_
  show rn_R none mX8_first (d + 14) 0 [some (.ref 0), some (.int (nI u)), some (.int (nI v)), some (.int i), none] [] mu h (fun r mu' _ => r = some (.int (frA (hdP g a u v) i)) ∧ xS (g, a, hs, tx, f) mu' ∧ ∀ c, 22 ≤ c → mu' c = mu c)
  have hp := pw_le hg.1
  have ha2 := ha.2
  have bx := xD_le (S := a) (s := u) (rep := 0) hg.2.1 hv
  refine rn_iload_n 1 dX8_first_0 rfl rfl rfl ?_
  refine rn_iload_n 2 dX8_first_1 rfl rfl rfl ?_
  refine rn_csp mX8_areNodes [.int (nI u), .int (nI v)] [] 5 (.int 1) dX8_first_2 cs_X8_75 rfl rfl (by simp [Value.category]) rfl (c_areNodes_t (d + 12) mu h ⟨u, hu, rfl⟩ ⟨v, hv, rfl⟩) ?_
  refine rn_if_eq 13 8 dX8_first_5 (by decide) rfl (fun c5 => absurd c5 (by decide)) (fun _ => ?_)
  refine rn_iload_n 9 dX8_first_8 rfl rfl rfl ?_
  refine rn_iconst (v := (-1)) 10 dX8_first_9 (by decide) rfl ?_
  refine rn_icmp_ge 16 13 dX8_first_10 (by decide) rfl (fun _ => ?_) (fun c10 => absurd (Int32.not_lt.mp hi) c10)
  refine rn_aload_n 17 dX8_first_16 rfl rfl rfl ?_
  refine rn_get 20 (.ref 8) dX8_first_17 fl_X8_35 rfl rfl rfl rfl ?_
  refine rn_iload_n 21 dX8_first_20 rfl rfl rfl ?_
  refine rn_iload_n 22 dX8_first_21 rfl rfl rfl ?_
  refine rn_aload_n 23 dX8_first_22 rfl rfl rfl ?_
  refine rn_get 26 (.ref 1) dX8_first_23 fl_X8_10 rfl rfl rfl rfl ?_
  refine rn_get 29 (.int (mu 1 2)) dX8_first_26 fl_X8_111 rfl rfl rfl rfl ?_
  rw [ha.1]
  refine rn_iconst (v := 0) 30 dX8_first_29 (by decide) rfl ?_
  refine rn_callV mX5_measure [.int (nI u), .int (nI v), .int (nI a), .int 0] [] dX8_first_30 cv_X8_137 rfl rfl rfl (by simp [Value.category]) (c_measure (d + 11) (S := a) (s := u) (t := v) (rep := 0) (by omega) hu hv (by omega) h hg) (fun r1 m1 h1 q1 _ => ?_)
  obtain ⟨e1, R1, W1, f1⟩ := q1
  subst e1
  have hg1 : xg g m1 := xg_fr hg f1
  show rn_R _ mX8_first _ 33 [some (.ref 0), some (.int (nI u)), some (.int (nI v)), some (.int i), none] [.int (nI (xD g a u v 0))] m1 h1 _
  refine rn_istore 35 [some (.ref 0), some (.int (nI u)), some (.int (nI v)), some (.int i), some (.int (nI (xD g a u v 0)))] dX8_first_33 rfl (Nat.le_of_ble_eq_true rfl) rfl ?_
  by_cases q9 : xD g a u v 0 = 9999
  · skip
    have eh : hdP g a u v = none := if_pos q9
    refine rn_iload 37 dX8_first_35 rfl rfl ?_
    refine rn_sipush (v := 9999) 40 dX8_first_37 (by decide) rfl ?_
    refine rn_icmp_eq 57 43 dX8_first_40 (by decide) rfl (fun _ => ?_) (fun c40 => absurd (congrArg nI q9) c40)
    refine rn_iconst (v := (-1)) 58 dX8_first_57 (by decide) rfl ?_
    exact rn_iret rfl dX8_first_58 (⟨by rw [eh]; rfl, xS_fr hs0 (fun c hc => f1 c (by omega)), fun c hc => f1 c (by omega)⟩)
  · skip
    obtain ⟨Q0, hQ0, hQ1⟩ := ptP_att hg.2.1 hu hv (show xD g a u v 0 < 9999 by omega)
    have eh : hdP g a u v = ((ptP g a u v).filter (fun Q => decide (ptL g a Q ≤ xD g a u v 0))).head? := if_neg q9
    refine rn_iload 37 dX8_first_35 rfl rfl ?_
    refine rn_sipush (v := 9999) 40 dX8_first_37 (by decide) rfl ?_
    refine rn_icmp_eq 57 43 dX8_first_40 (by decide) rfl (fun c40 => absurd c40 (fun z => q9 ((nI_eq (b := 9999) (by omega) (by omega)).mp z))) (fun _ => ?_)
    refine rn_aload_n 44 dX8_first_43 rfl rfl rfl ?_
    refine rn_get 47 (.ref 15) dX8_first_44 fl_X8_42 rfl rfl rfl rfl ?_
    refine rn_iload_n 48 dX8_first_47 rfl rfl rfl ?_
    refine rn_iload_n 49 dX8_first_48 rfl rfl rfl ?_
    refine rn_iload 51 dX8_first_49 rfl rfl ?_
    refine rn_callV mX7_findFirst [.int (nI u), .int (nI v), .int (nI (xD g a u v 0))] [] dX8_first_51 cv_X8_141 rfl rfl rfl (by simp [Value.category]) (c_findFirst d hu hv (m := xD g a u v 0) (by omega) h1 hg1 ⟨by rw [f1 1 (by omega)]; exact ha.1, ha.2⟩) (fun r2 m2 h2 qq _ => ?_)
    obtain ⟨b1, f2⟩ := qq
    cases hG : (ptP g a u v).filter (fun Q => decide (ptL g a Q ≤ xD g a u v 0)) with
    | nil =>
      exfalso
      have : Q0 ∈ (ptP g a u v).filter (fun Q => decide (ptL g a Q ≤ xD g a u v 0)) := List.mem_filter.mpr ⟨hQ0, decide_eq_true (by omega)⟩
      rw [hG] at this
      cases this
    | cons Q L2 =>
      rw [hG] at b1
      obtain ⟨e1, b2, b3⟩ := b1
      subst e1
      rw [hG] at eh
      have hQm : Q ∈ ptP g a u v := (List.mem_filter.mp (by rw [hG]; exact List.mem_cons_self)).1
      have hQ7 := ptV_len hg.2.1 hu ((ptP_mem hg.2.1 hu).mp hQm).1
      show rn_R _ mX8_first _ 54 [some (.ref 0), some (.int (nI u)), some (.int (nI v)), some (.int i), some (.int (nI (xD g a u v 0)))] [.int 1] m2 h2 _
      by_cases qi : i = -1
      · skip
        refine rn_if_ne 59 57 dX8_first_54 (by decide) rfl (fun _ => ?_) (fun c54 => absurd c54 (by decide))
        refine rn_iload_n 60 dX8_first_59 rfl rfl rfl ?_
        refine rn_iconst (v := (-1)) 61 dX8_first_60 (by decide) rfl ?_
        refine rn_icmp_ne 74 64 dX8_first_61 (by decide) rfl (fun c61 => absurd (qi) c61) (fun _ => ?_)
        refine rn_aload_n 65 dX8_first_64 rfl rfl rfl ?_
        refine rn_get 68 (.ref 15) dX8_first_65 fl_X8_42 rfl rfl rfl rfl ?_
        refine rn_get 71 (.int (m2 15 3)) dX8_first_68 fl_X8_145 rfl rfl rfl rfl ?_
        refine rn_goto 82 dX8_first_71 (by decide) ?_
        exact rn_iret rfl dX8_first_82 (⟨by rw [b3, eh, qi]; rfl, xS_fr hs0 (fun c hc => by rw [f2 c (by omega) (by omega) (by omega) (by omega)]; exact f1 c (by omega)), fun c hc => by rw [f2 c (by omega) (by omega) (by omega) (by omega)]; exact f1 c (by omega)⟩)
      · skip
        refine rn_if_ne 59 57 dX8_first_54 (by decide) rfl (fun _ => ?_) (fun c54 => absurd c54 (by decide))
        refine rn_iload_n 60 dX8_first_59 rfl rfl rfl ?_
        refine rn_iconst (v := (-1)) 61 dX8_first_60 (by decide) rfl ?_
        refine rn_icmp_ne 74 64 dX8_first_61 (by decide) rfl (fun _ => ?_) (fun c61 => absurd c61 (qi))
        refine rn_aload_n 75 dX8_first_74 rfl rfl rfl ?_
        refine rn_get 78 (.ref 15) dX8_first_75 fl_X8_42 rfl rfl rfl rfl ?_
        refine rn_iload_n 79 dX8_first_78 rfl rfl rfl ?_
        refine rn_cvp mX7_trailEdge [.int i] [] 82 (.int (frA (some Q) i)) dX8_first_79 cv_X8_148 rfl rfl rfl (by simp [Value.category]) rfl (c_trailEdge (d + 13) h2 hQ7 b2 b3 (fun z => hi_n z qi hi) qi) ?_
        exact rn_iret rfl dX8_first_82 (⟨by rw [eh]; rfl, xS_fr hs0 (fun c hc => by rw [f2 c (by omega) (by omega) (by omega) (by omega)]; exact f1 c (by omega)), fun c hc => by rw [f2 c (by omega) (by omega) (by omega) (by omega)]; exact f1 c (by omega)⟩)
