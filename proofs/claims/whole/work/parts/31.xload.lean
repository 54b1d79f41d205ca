/-! THE TEXT: scan, fault, load of the class -/
def QS (tx : List Nat) (mu0 : Nat → Nat → Int32) (z : Option Nat × List Ed) : rn_Q := fun r mu' _ => r = some (.int (oI z.1)) ∧ (∀ c, c ≠ 5 → c ≠ 7 → mu' c = mu0 c) ∧ mu' 5 2 = mu0 5 2 ∧ mu' 5 3 = nI z.2.length ∧ ∀ (i : Nat) (x : Ed), z.2[i]? = some x → mu' 7 i = pkx x
theorem scF_ok {tx : List Nat} : ∀ (k p : Nat) (acc : List Ed), p ≤ tx.length → acc.length ≤ 16 → (∀ x ∈ acc, e_ok x) → (scF tx k p acc).2.length ≤ 16 ∧ ∀ x ∈ (scF tx k p acc).2, e_ok x := by
  intro k
  induction k with
  | zero => intro p acc hp hl ha; exact ⟨hl, ha⟩
  | succ k ih =>
    intro p acc hp hl ha
    simp only [scF]
    by_cases q1 : tx.length ≤ p
    · rw [if_pos q1]; exact ⟨hl, ha⟩
    · rw [if_neg q1]
      by_cases q2 : 16 ≤ acc.length
      · rw [if_pos q2]; exact ⟨hl, ha⟩
      · rw [if_neg q2]
        have hf := fEdge_ok hp
        cases e : fEdge tx p with
        | mk o q =>
          rw [e] at hf
          cases o with
          | none => exact ⟨hl, ha⟩
          | some x =>
            refine ih (sk tx q) (acc ++ [x]) (sk_le hf.1).2 (by simp; omega) (fun y hy => ?_)
            rcases List.mem_append.mp hy with w | w
            · exact ha y w
            · rw [List.mem_singleton.mp w]; exact (hf.2 x rfl).1
theorem ap_at {acc : List Ed} {f : Nat → Int32} {x : Ed} (h : ∀ (i : Nat) (y : Ed), acc[i]? = some y → f i = pkx y) : ∀ (i : Nat) (y : Ed), (acc ++ [x])[i]? = some y → upd f acc.length (pkx x) i = pkx y := by
  intro i y hy
  by_cases hi : i < acc.length
  · rw [List.getElem?_append_left hi] at hy
    rw [pk_un (by omega)]
    exact h i y hy
  · have hl := (List.getElem?_eq_some_iff.mp hy).1
    simp at hl
    have he : i = acc.length := by omega
    subst he
    rw [List.getElem?_append_right (Nat.le_refl _), Nat.sub_self] at hy
    cases hy
    rw [pk_us]

set_option maxRecDepth 100000 in
set_option maxHeartbeats 2000000 in
theorem lp_scan (d : Nat) {tx : List Nat} (mu0 : Nat → Nat → Int32) : ∀ (k e p : Nat) (acc : List Ed) (mu : Nat → Nat → Int32) (h : Int64), e + k = 16 → acc.length = e → xt tx mu → mu 5 4 = nI p → p ≤ tx.length → mu 5 3 = nI e → (∀ (i : Nat) (x : Ed), acc[i]? = some x → mu 7 i = pkx x) → (∀ c, c ≠ 5 → c ≠ 7 → mu c = mu0 c) → mu 5 2 = mu0 5 2 → rn_R none mX6_scan (d + 7) 16 [some (.ref 5), some (.int (nI e))] [] mu h (QS tx mu0 (scF tx (k + 1) p acc)) := by
  intro k
  induction k with
  | zero =>
    intro e p acc mu h hek hac ht h4 hp h3 hrow hfr h52
    have h110 := ht.1
    by_cases q1 : tx.length ≤ p
    · skip
      have ez : scF tx (0 + 1) p acc = (none, acc) := by simp only [scF]; rw [if_pos q1]
      rw [ez]
      refine rn_iload_n 17 dX6_scan_16 rfl rfl rfl ?_
      refine rn_bipush (v := 16) 19 dX6_scan_17 (by decide) rfl ?_
      refine rn_icmp_gt 55 22 dX6_scan_19 (by decide) rfl (fun c19 => absurd c19 (nI_nlt (a := 16) (by omega) (by omega))) (fun _ => ?_)
      refine rn_aload_n 23 dX6_scan_22 rfl rfl rfl ?_
      refine rn_get 26 (.int (mu 5 4)) dX6_scan_23 fl_X6_26 rfl rfl rfl rfl ?_
      refine rn_aload_n 27 dX6_scan_26 rfl rfl rfl ?_
      refine rn_get 30 (.int (mu 5 2)) dX6_scan_27 fl_X6_19 rfl rfl rfl rfl ?_
      refine rn_icmp_ge 55 33 dX6_scan_30 (by decide) rfl (fun _ => ?_) (fun c30 => absurd (by rw [ht.2.1, h4]; exact nI_le q1 (by omega)) c30)
      refine rn_iconst (v := (-1)) 56 dX6_scan_55 (by decide) rfl ?_
      exact rn_iret rfl dX6_scan_56 (⟨rfl, hfr, h52, by rw [h3, hac], hrow⟩)
    · skip
      have ez : scF tx (0 + 1) p acc = (some p, acc) := by simp only [scF]; rw [if_neg q1, if_pos (by omega)]
      rw [ez]
      refine rn_iload_n 17 dX6_scan_16 rfl rfl rfl ?_
      refine rn_bipush (v := 16) 19 dX6_scan_17 (by decide) rfl ?_
      refine rn_icmp_gt 55 22 dX6_scan_19 (by decide) rfl (fun c19 => absurd c19 (nI_nlt (a := 16) (by omega) (by omega))) (fun _ => ?_)
      refine rn_aload_n 23 dX6_scan_22 rfl rfl rfl ?_
      refine rn_get 26 (.int (mu 5 4)) dX6_scan_23 fl_X6_26 rfl rfl rfl rfl ?_
      refine rn_aload_n 27 dX6_scan_26 rfl rfl rfl ?_
      refine rn_get 30 (.int (mu 5 2)) dX6_scan_27 fl_X6_19 rfl rfl rfl rfl ?_
      refine rn_icmp_ge 55 33 dX6_scan_30 (by decide) rfl (fun c30 => absurd c30 (by rw [ht.2.1, h4]; exact nI_ge (by omega) (by omega))) (fun _ => ?_)
      refine rn_aload_n 34 dX6_scan_33 rfl rfl rfl ?_
      refine rn_cvp mX6_readEdge [] [] 37 (.int 0) dX6_scan_34 cv_X6_32 rfl rfl rfl (by simp [Value.category]) rfl (c_readEdge_16 (d + 6) h ht h4 hp h3 (by omega) (by omega)) ?_
      refine rn_if_ne 45 40 dX6_scan_37 (by decide) rfl (fun c37 => absurd (rfl) c37) (fun _ => ?_)
      refine rn_aload_n 41 dX6_scan_40 rfl rfl rfl ?_
      refine rn_get 44 (.int (mu 5 4)) dX6_scan_41 fl_X6_26 rfl rfl rfl rfl ?_
      exact rn_iret rfl dX6_scan_44 (⟨by rw [h4]; rfl, hfr, h52, by rw [h3, hac], hrow⟩)
  | succ k ih =>
    intro e p acc mu h hek hac ht h4 hp h3 hrow hfr h52
    have h110 := ht.1
    by_cases q1 : tx.length ≤ p
    · skip
      have ez : scF tx ((k + 1) + 1) p acc = (none, acc) := by simp only [scF]; rw [if_pos q1]
      rw [ez]
      refine rn_iload_n 17 dX6_scan_16 rfl rfl rfl ?_
      refine rn_bipush (v := 16) 19 dX6_scan_17 (by decide) rfl ?_
      refine rn_icmp_gt 55 22 dX6_scan_19 (by decide) rfl (fun c19 => absurd c19 (nI_nlt (a := 16) (by omega) (by omega))) (fun _ => ?_)
      refine rn_aload_n 23 dX6_scan_22 rfl rfl rfl ?_
      refine rn_get 26 (.int (mu 5 4)) dX6_scan_23 fl_X6_26 rfl rfl rfl rfl ?_
      refine rn_aload_n 27 dX6_scan_26 rfl rfl rfl ?_
      refine rn_get 30 (.int (mu 5 2)) dX6_scan_27 fl_X6_19 rfl rfl rfl rfl ?_
      refine rn_icmp_ge 55 33 dX6_scan_30 (by decide) rfl (fun _ => ?_) (fun c30 => absurd (by rw [ht.2.1, h4]; exact nI_le q1 (by omega)) c30)
      refine rn_iconst (v := (-1)) 56 dX6_scan_55 (by decide) rfl ?_
      exact rn_iret rfl dX6_scan_56 (⟨rfl, hfr, h52, by rw [h3, hac], hrow⟩)
    · skip
      have hf := fEdge_ok hp
      have ce := c_readEdge d h ht h4 hp h3 (by omega)
      cases ef : fEdge tx p with
      | mk oo q =>
        rw [ef] at hf ce
        simp only at hf ce
        cases oo with
        | none =>
          have ez : scF tx ((k + 1) + 1) p acc = (some q, acc) := by rw [scF, if_neg q1, if_neg (by omega), ef]
          rw [ez]
          have ce2 : gd_G mX6_readEdge (d + 6) [.ref 5] mu h (pq (some (.int 0)) (mu_s mu 5 4 (nI q)) h) := ce
          refine rn_iload_n 17 dX6_scan_16 rfl rfl rfl ?_
          refine rn_bipush (v := 16) 19 dX6_scan_17 (by decide) rfl ?_
          refine rn_icmp_gt 55 22 dX6_scan_19 (by decide) rfl (fun c19 => absurd c19 (nI_nlt (a := 16) (by omega) (by omega))) (fun _ => ?_)
          refine rn_aload_n 23 dX6_scan_22 rfl rfl rfl ?_
          refine rn_get 26 (.int (mu 5 4)) dX6_scan_23 fl_X6_26 rfl rfl rfl rfl ?_
          refine rn_aload_n 27 dX6_scan_26 rfl rfl rfl ?_
          refine rn_get 30 (.int (mu 5 2)) dX6_scan_27 fl_X6_19 rfl rfl rfl rfl ?_
          refine rn_icmp_ge 55 33 dX6_scan_30 (by decide) rfl (fun c30 => absurd c30 (by rw [ht.2.1, h4]; exact nI_ge (by omega) (by omega))) (fun _ => ?_)
          refine rn_aload_n 34 dX6_scan_33 rfl rfl rfl ?_
          refine rn_cvm mX6_readEdge [] [] 37 (some (.int 0)) (mu_s mu 5 4 (nI q)) dX6_scan_34 cv_X6_32 rfl rfl rfl (by simp [Value.category]) rfl (ce2) ?_
          refine rn_if_ne 45 40 dX6_scan_37 (by decide) rfl (fun c37 => absurd (rfl) c37) (fun _ => ?_)
          refine rn_aload_n 41 dX6_scan_40 rfl rfl rfl ?_
          refine rn_get 44 (.int (nI q)) dX6_scan_41 fl_X6_26 rfl rfl rfl rfl ?_
          exact rn_iret rfl dX6_scan_44 (⟨rfl, fun c c5 c7 => by simp [mu_s, c5]; exact hfr c c5 c7, h52, by rw [← hac] at h3; exact h3, hrow⟩)
        | some x =>
          have ez : scF tx ((k + 1) + 1) p acc = scF tx (k + 1) (sk tx q) (acc ++ [x]) := by rw [scF, if_neg q1, if_neg (by omega), ef]
          rw [ez]
          have ce2 : gd_G mX6_readEdge (d + 6) [.ref 5] mu h (pq (some (.int 1)) (mu_s (mu_s (mu_s mu 5 4 (nI q)) 7 e (pkx x)) 5 3 (nI (e + 1))) h) := ce
          refine rn_iload_n 17 dX6_scan_16 rfl rfl rfl ?_
          refine rn_bipush (v := 16) 19 dX6_scan_17 (by decide) rfl ?_
          refine rn_icmp_gt 55 22 dX6_scan_19 (by decide) rfl (fun c19 => absurd c19 (nI_nlt (a := 16) (by omega) (by omega))) (fun _ => ?_)
          refine rn_aload_n 23 dX6_scan_22 rfl rfl rfl ?_
          refine rn_get 26 (.int (mu 5 4)) dX6_scan_23 fl_X6_26 rfl rfl rfl rfl ?_
          refine rn_aload_n 27 dX6_scan_26 rfl rfl rfl ?_
          refine rn_get 30 (.int (mu 5 2)) dX6_scan_27 fl_X6_19 rfl rfl rfl rfl ?_
          refine rn_icmp_ge 55 33 dX6_scan_30 (by decide) rfl (fun c30 => absurd c30 (by rw [ht.2.1, h4]; exact nI_ge (by omega) (by omega))) (fun _ => ?_)
          refine rn_aload_n 34 dX6_scan_33 rfl rfl rfl ?_
          refine rn_cvm mX6_readEdge [] [] 37 (some (.int 1)) (mu_s (mu_s (mu_s mu 5 4 (nI q)) 7 e (pkx x)) 5 3 (nI (e + 1))) dX6_scan_34 cv_X6_32 rfl rfl rfl (by simp [Value.category]) rfl (ce2) ?_
          refine rn_if_ne 45 40 dX6_scan_37 (by decide) rfl (fun _ => ?_) (fun c37 => absurd c37 (by decide))
          refine rn_aload_n 46 dX6_scan_45 rfl rfl rfl ?_
          refine rn_cvm mX6_skipBlanks [] [] 49 (none) (mu_s (mu_s (mu_s (mu_s mu 5 4 (nI q)) 7 e (pkx x)) 5 3 (nI (e + 1))) 5 4 (nI (sk tx q))) dX6_scan_46 cv_X6_29 rfl rfl rfl (by simp [Value.category]) rfl (c_skipBlanks (d + 5) (mu := mu_s (mu_s (mu_s mu 5 4 (nI q)) 7 e (pkx x)) 5 3 (nI (e + 1))) h (xt_of (mu' := mu_s (mu_s (mu_s mu 5 4 (nI q)) 7 e (pkx x)) 5 3 (nI (e + 1))) ht rfl rfl) rfl hf.1) ?_
          refine rn_iinc (v := (nI (e + 1))) 52 [some (.ref 5), some (.int (nI (e + 1)))] dX6_scan_49 rfl (nI_1 _) rfl rfl ?_
          refine rn_goto 16 dX6_scan_52 (by decide) ?_
          refine ih (e + 1) (sk tx q) (acc ++ [x]) _ h (by omega) (by simp; omega) (xt_of (mu' := mu_s (mu_s (mu_s (mu_s mu 5 4 (nI q)) 7 e (pkx x)) 5 3 (nI (e + 1))) 5 4 (nI (sk tx q))) ht rfl rfl) rfl (sk_le hf.1).2 rfl ?_ ?_ h52
          · rw [← hac]; exact ap_at hrow
          · intro c c5 c7; simp [mu_s, c5, c7]; exact hfr c c5 c7

set_option maxRecDepth 100000 in
set_option maxHeartbeats 2000000 in
theorem c_scan (d : Nat) {tx : List Nat} {mu : Nat → Nat → Int32} (h : Int64) (ht : xt tx mu) : gd_G mX6_scan (d + 7) [.ref 5] mu h (QS tx mu (scF tx 17 (sk tx 0) [])) := by
  refine gd_of rfl (Nat.le_of_ble_eq_true rfl) ?_
  show rn_R none mX6_scan (d + 7) 0 [some (.ref 5), none] [] mu h (QS tx mu (scF tx 17 (sk tx 0) []))
  refine rn_aload_n 1 dX6_scan_0 rfl rfl rfl ?_
  refine rn_iconst (v := 0) 2 dX6_scan_1 (by decide) rfl ?_
  refine rn_put 5 dX6_scan_2 fp_X6_26 rfl rfl rfl rfl rfl ?_
  refine rn_aload_n 6 dX6_scan_5 rfl rfl rfl ?_
  refine rn_iconst (v := 0) 7 dX6_scan_6 (by decide) rfl ?_
  refine rn_put 10 dX6_scan_7 fp_X6_23 rfl rfl rfl rfl rfl ?_
  refine rn_aload_n 11 dX6_scan_10 rfl rfl rfl ?_
  refine rn_cvm mX6_skipBlanks [] [] 14 (none) (mu_s (mu_s (mu_s mu 5 4 0) 5 3 0) 5 4 (nI (sk tx 0))) dX6_scan_11 cv_X6_29 rfl rfl rfl (by simp [Value.category]) rfl (c_skipBlanks (d + 5) (mu := mu_s (mu_s mu 5 4 0) 5 3 0) h (xt_of (mu' := mu_s (mu_s mu 5 4 0) 5 3 0) ht rfl rfl) (p := 0) rfl (Nat.zero_le _)) ?_
  refine rn_iconst (v := 0) 15 dX6_scan_14 (by decide) rfl ?_
  refine rn_istore_n 16 [some (.ref 5), some (.int 0)] dX6_scan_15 rfl rfl (Nat.le_of_ble_eq_true rfl) rfl ?_
  exact lp_scan d mu 16 0 (sk tx 0) [] (mu_s (mu_s (mu_s mu 5 4 0) 5 3 0) 5 4 (nI (sk tx 0))) h (by omega) rfl (xt_of (mu' := mu_s (mu_s (mu_s mu 5 4 0) 5 3 0) 5 4 (nI (sk tx 0))) ht rfl rfl) rfl (sk_le (Nat.zero_le _)).2 rfl (by simp) (fun c c5 c7 => by simp [mu_s, c5]) rfl

/-- the fault of a text, the edges read -/
def scT (tx : List Nat) : Option Nat × List Ed := scF tx 17 (sk tx 0) []
theorem xS_x {s : Sx} {mu mu' : Nat → Nat → Int32} (h : xS s mu) (fr : ∀ c, c ≠ 5 → c ≠ 7 → mu' c = mu c) (h52 : mu' 5 2 = mu 5 2) : xS s mu' := by
  obtain ⟨h1, h2, h3, h4, h5⟩ := h
  have e0 := fr 0 (by omega) (by omega)
  have e1 := fr 1 (by omega) (by omega)
  exact ⟨xg_of h1 (by rw [e1]) (fr 2 (by omega) (by omega)), ⟨by rw [e1]; exact h2.1, h2.2⟩, xh_of h3 (fr 3 (by omega) (by omega)) (fr 4 (by omega) (by omega)), xt_of h4 h52 (fr 6 (by omega) (by omega)), by rw [e0]; exact h5⟩

set_option maxRecDepth 100000 in
set_option maxHeartbeats 2000000 in
theorem x_fault (d : Nat) {g : List Ed} {a : Nat} {hs : List Sg} {tx : List Nat} {f : Int32}  : XC mX8_fault (d + 8) [] (g, a, hs, tx, f) (g, a, hs, tx, f) (.int (oI (scT tx).1)) := by
  intro mu h hs0
  obtain ⟨hg, ha, hh, ht, hf⟩ := id hs0
  simp only at hg ha hh ht hf
  refine gd_of rfl (Nat.le_of_ble_eq_true rfl) ?_
  show rn_R none mX8_fault (d + 8) 0 [some (.ref 0)] [] mu h (fun r mu' _ => r = some (.int (oI (scT tx).1)) ∧ xS (g, a, hs, tx, f) mu' ∧ ∀ c, 22 ≤ c → mu' c = mu c)
  refine rn_aload_n 1 dX8_fault_0 rfl rfl rfl ?_
  refine rn_get 4 (.ref 5) dX8_fault_1 fl_X8_26 rfl rfl rfl rfl ?_
  refine rn_callV mX6_scan [] [] dX8_fault_4 cv_X8_120 rfl rfl rfl (by simp [Value.category]) (c_scan (d) h ht) (fun r0 m0 h0 q0 _ => ?_)
  obtain ⟨e0, fr0, s52, s53, srow⟩ := q0
  subst e0
  have hs0_ := xS_x hs0 fr0 s52
  show rn_R _ mX8_fault _ 7 [some (.ref 0)] [.int (oI (scT tx).1)] m0 h0 _
  exact rn_iret rfl dX8_fault_7 (⟨rfl, hs0_, fun c hc => fr0 c (by omega) (by omega)⟩)

set_option maxRecDepth 100000 in
set_option maxHeartbeats 2000000 in
theorem x_load_b (d : Nat) {g : List Ed} {a : Nat} {hs : List Sg} {tx : List Nat} {f : Int32} {q : Nat} (hq : (scT tx).1 = some q) (hb : q < 2 ^ 31) : XC mX8_load (d + 8) [] (g, a, hs, tx, f) (g, a, hs, tx, f) (.int (-3)) := by
  intro mu h hs0
  obtain ⟨hg, ha, hh, ht, hf⟩ := id hs0
  simp only at hg ha hh ht hf
  refine gd_of rfl (Nat.le_of_ble_eq_true rfl) ?_
  show rn_R none mX8_load (d + 8) 0 [some (.ref 0), none] [] mu h (fun r mu' _ => r = some (.int (-3)) ∧ xS (g, a, hs, tx, f) mu' ∧ ∀ c, 22 ≤ c → mu' c = mu c)
  refine rn_aload_n 1 dX8_load_0 rfl rfl rfl ?_
  refine rn_get 4 (.ref 5) dX8_load_1 fl_X8_26 rfl rfl rfl rfl ?_
  refine rn_callV mX6_scan [] [] dX8_load_4 cv_X8_120 rfl rfl rfl (by simp [Value.category]) (c_scan (d) h ht) (fun r0 m0 h0 q0 _ => ?_)
  obtain ⟨e0, fr0, s52, s53, srow⟩ := q0
  subst e0
  have hs0_ := xS_x hs0 fr0 s52
  show rn_R _ mX8_load _ 7 [some (.ref 0), none] [.int (oI (scT tx).1)] m0 h0 _
  refine rn_iconst (v := (-1)) 8 dX8_load_7 (by decide) rfl ?_
  refine rn_icmp_eq 14 11 dX8_load_8 (by decide) rfl (fun c8 => absurd c8 (by rw [hq]; exact fun z => absurd (by rw [show nI q = -1 from z]; decide) (nI_pos hb))) (fun _ => ?_)
  refine rn_bipush (v := (-3)) 13 dX8_load_11 (by decide) rfl ?_
  exact rn_iret rfl dX8_load_13 (⟨rfl, hs0_, fun c hc => fr0 c (by omega) (by omega)⟩)
