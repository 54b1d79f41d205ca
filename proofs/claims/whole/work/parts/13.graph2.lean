/-! THE GRAPH, further: sets, parts, sums -/
def cS (g : List Ed) (S : Nat) : Nat → Nat
  | 0 => 0
  | n + 1 => cS g S n + if S.testBit n then eC g n else 0
def lS (g : List Ed) : Nat → Nat
  | 0 => 0
  | n + 1 => lS g n + eL g n
theorem nI_sub1 {n : Nat} (h : 0 < n) : nI n - 1 = nI (n - 1) := by
  obtain ⟨k, rfl⟩ : ∃ k, n = k + 1 := ⟨n - 1, by omega⟩
  exact nI_pred k

set_option maxRecDepth 100000 in
set_option maxHeartbeats 2000000 in
theorem c_all (d : Nat) {g : List Ed} {mu : Nat → Nat → Int32} (h : Int64) (hg : xg g mu) : gd_G mX2_all d [.ref 1] mu h (pq (some (.int (nI (2 ^ g.length - 1)))) mu h) := by
  refine gd_of rfl (Nat.le_of_ble_eq_true rfl) ?_
  show rn_R none mX2_all d 0 [some (.ref 1)] [] mu h (pq (some (.int (nI (2 ^ g.length - 1)))) mu h)
  refine rn_iconst (v := 1) 1 dX2_all_0 (by decide) rfl ?_
  refine rn_aload_n 2 dX2_all_1 rfl rfl rfl ?_
  refine rn_get 5 (.int (mu 1 1)) dX2_all_2 fl_X2_15 rfl rfl rfl rfl ?_
  refine rn_ishl 6 dX2_all_5 rfl ?_
  refine rn_iconst (v := 1) 7 dX2_all_6 (by decide) rfl ?_
  refine rn_isub 8 dX2_all_7 rfl ?_
  exact rn_iret rfl dX2_all_8 (⟨by rw [hg.2.2.1, nb_1 (by have := hg.1; omega), nI_sub1 (pw_pos _)], rfl, rfl⟩)

set_option maxRecDepth 100000 in
set_option maxHeartbeats 2000000 in
theorem c_hasAll_t (d : Nat) {g : List Ed} {mu : Nat → Nat → Int32} (h : Int64) (hg : xg g mu) {S : Nat} (hS : S < 2 ^ g.length) : gd_G mX2_hasAll (d + 1) [.ref 1, .int (nI S)] mu h (pq (some (.int 1)) mu h) := by
  refine gd_of rfl (Nat.le_of_ble_eq_true rfl) ?_
  show rn_R none mX2_hasAll (d + 1) 0 [some (.ref 1), some (.int (nI S))] [] mu h (pq (some (.int 1)) mu h)
  refine rn_iload_n 1 dX2_hasAll_0 rfl rfl rfl ?_
  refine rn_aload_n 2 dX2_hasAll_1 rfl rfl rfl ?_
  refine rn_cvp mX2_all [] [.int (nI S)] 5 (.int (nI (2 ^ g.length - 1))) dX2_hasAll_2 cv_X2_22 rfl rfl rfl (by simp [Value.category]) rfl (c_all d h hg) ?_
  refine rn_iconst (v := (-1)) 6 dX2_hasAll_5 (by decide) rfl ?_
  refine rn_ixor 7 dX2_hasAll_6 rfl ?_
  refine rn_iand 8 dX2_hasAll_7 rfl ?_
  refine rn_if_ne 15 11 dX2_hasAll_8 (by decide) rfl (fun c8 => absurd (nb_out hS) c8) (fun _ => ?_)
  refine rn_iconst (v := 1) 12 dX2_hasAll_11 (by decide) rfl ?_
  refine rn_goto 16 dX2_hasAll_12 (by decide) ?_
  exact rn_zret rfl dX2_hasAll_16 rfl (⟨rfl, rfl, rfl⟩)

set_option maxRecDepth 100000 in
set_option maxHeartbeats 2000000 in
theorem c_hasAll_f (d : Nat) {g : List Ed} {mu : Nat → Nat → Int32} (h : Int64) (hg : xg g mu) {v : Int32} (hv : ¬ isin v (2 ^ g.length)) : gd_G mX2_hasAll (d + 1) [.ref 1, .int v] mu h (pq (some (.int 0)) mu h) := by
  refine gd_of rfl (Nat.le_of_ble_eq_true rfl) ?_
  show rn_R none mX2_hasAll (d + 1) 0 [some (.ref 1), some (.int v)] [] mu h (pq (some (.int 0)) mu h)
  refine rn_iload_n 1 dX2_hasAll_0 rfl rfl rfl ?_
  refine rn_aload_n 2 dX2_hasAll_1 rfl rfl rfl ?_
  refine rn_cvp mX2_all [] [.int v] 5 (.int (nI (2 ^ g.length - 1))) dX2_hasAll_2 cv_X2_22 rfl rfl rfl (by simp [Value.category]) rfl (c_all d h hg) ?_
  refine rn_iconst (v := (-1)) 6 dX2_hasAll_5 (by decide) rfl ?_
  refine rn_ixor 7 dX2_hasAll_6 rfl ?_
  refine rn_iand 8 dX2_hasAll_7 rfl ?_
  refine rn_if_ne 15 11 dX2_hasAll_8 (by decide) rfl (fun _ => ?_) (fun c8 => absurd c8 (fun q => hv (nb_in hg.1 q)))
  refine rn_iconst (v := 0) 16 dX2_hasAll_15 (by decide) rfl ?_
  exact rn_zret rfl dX2_hasAll_16 rfl (⟨rfl, rfl, rfl⟩)

set_option maxRecDepth 100000 in
set_option maxHeartbeats 2000000 in
theorem lp_costOfSet (d : Nat) {g : List Ed} {mu : Nat → Nat → Int32} (h : Int64) (hg : xg g mu) {S : Nat} (hS : S < 2 ^ 31) : ∀ (k e : Nat), e + k = g.length → rn_R none mX2_costOfSet (d + 2) 4 [some (.ref 1), some (.int (nI S)), some (.int (nI (cS g S e))), some (.int (nI e))] [] mu h (pq (some (.int (nI (cS g S g.length)))) mu h) := by
  intro k
  induction k with
  | zero =>
    intro e hek
    refine rn_iload_n 5 dX2_costOfSet_4 rfl rfl rfl ?_
    refine rn_aload_n 6 dX2_costOfSet_5 rfl rfl rfl ?_
    refine rn_get 9 (.int (mu 1 1)) dX2_costOfSet_6 fl_X2_15 rfl rfl rfl rfl ?_
    refine rn_icmp_ge 34 12 dX2_costOfSet_9 (by decide) rfl (fun _ => ?_) (fun c9 => absurd (by rw [hg.2.2.1]; exact nI_le (by omega) (by have := hg.1; omega)) c9)
    refine rn_iload_n 35 dX2_costOfSet_34 rfl rfl rfl ?_
    exact rn_iret rfl dX2_costOfSet_35 (⟨by rw [show e = g.length by omega], rfl, rfl⟩)
  | succ k ih =>
    intro e hek
    have hlt : e < g.length := by omega
    have h16 := hg.1
    refine rn_iload_n 5 dX2_costOfSet_4 rfl rfl rfl ?_
    refine rn_aload_n 6 dX2_costOfSet_5 rfl rfl rfl ?_
    refine rn_get 9 (.int (mu 1 1)) dX2_costOfSet_6 fl_X2_15 rfl rfl rfl rfl ?_
    refine rn_icmp_ge 34 12 dX2_costOfSet_9 (by decide) rfl (fun c9 => absurd c9 (by rw [hg.2.2.1]; exact nI_ge hlt (by omega))) (fun _ => ?_)
    refine rn_iload_n 13 dX2_costOfSet_12 rfl rfl rfl ?_
    refine rn_iload_n 14 dX2_costOfSet_13 rfl rfl rfl ?_
    refine rn_ishr 15 dX2_costOfSet_14 rfl ?_
    refine rn_iconst (v := 1) 16 dX2_costOfSet_15 (by decide) rfl ?_
    refine rn_iand 17 dX2_costOfSet_16 rfl ?_
    refine rn_if_eq 28 20 dX2_costOfSet_17 (by decide) rfl (fun c17 => ?_) (fun c17 => ?_)
    · skip
      have hb : S.testBit e = false := by rw [nb_bit hS (by omega)] at c17; exact bt_0.mp c17
      refine rn_iinc (v := (nI (e + 1))) 31 [some (.ref 1), some (.int (nI S)), some (.int (nI (cS g S e))), some (.int (nI (e + 1)))] dX2_costOfSet_28 rfl (nI_1 _) rfl rfl ?_
      refine rn_goto 4 dX2_costOfSet_31 (by decide) ?_
      have e1 : cS g S (e + 1) = cS g S e := by simp [cS, hb]
      have e2 := ih (e + 1) (by omega)
      rw [e1] at e2
      exact e2
    · skip
      have hb : S.testBit e = true := by rw [nb_bit hS (by omega)] at c17; cases hz : S.testBit e with | true => rfl | false => exact absurd (bt_0.mpr hz) c17
      refine rn_iload_n 21 dX2_costOfSet_20 rfl rfl rfl ?_
      refine rn_aload_n 22 dX2_costOfSet_21 rfl rfl rfl ?_
      refine rn_iload_n 23 dX2_costOfSet_22 rfl rfl rfl ?_
      refine rn_cvp mX2_cost [.int (nI e)] [.int (nI (cS g S e))] 26 (.int (nI (eC g e))) dX2_costOfSet_23 cv_X2_40 rfl rfl rfl (by simp [Value.category]) rfl (c_cost d h hg hlt) ?_
      refine rn_iadd 27 dX2_costOfSet_26 rfl ?_
      refine rn_istore_n 28 [some (.ref 1), some (.int (nI S)), some (.int ((nI (cS g S e)) + (nI (eC g e)))), some (.int (nI e))] dX2_costOfSet_27 rfl rfl (Nat.le_of_ble_eq_true rfl) rfl ?_
      refine rn_iinc (v := (nI (e + 1))) 31 [some (.ref 1), some (.int (nI S)), some (.int ((nI (cS g S e)) + (nI (eC g e)))), some (.int (nI (e + 1)))] dX2_costOfSet_28 rfl (nI_1 _) rfl rfl ?_
      refine rn_goto 4 dX2_costOfSet_31 (by decide) ?_
      have e1 : nI (cS g S e) + nI (eC g e) = nI (cS g S (e + 1)) := by rw [nI_add]; simp [cS, hb]
      rw [e1]
      exact ih (e + 1) (by omega)

set_option maxRecDepth 100000 in
set_option maxHeartbeats 2000000 in
theorem c_costOfSet (d : Nat) {g : List Ed} {mu : Nat → Nat → Int32} (h : Int64) (hg : xg g mu) {S : Nat} (hS : S < 2 ^ 31) : gd_G mX2_costOfSet (d + 2) [.ref 1, .int (nI S)] mu h (pq (some (.int (nI (cS g S g.length)))) mu h) := by
  refine gd_of rfl (Nat.le_of_ble_eq_true rfl) ?_
  show rn_R none mX2_costOfSet (d + 2) 0 [some (.ref 1), some (.int (nI S)), none, none] [] mu h (pq (some (.int (nI (cS g S g.length)))) mu h)
  refine rn_iconst (v := 0) 1 dX2_costOfSet_0 (by decide) rfl ?_
  refine rn_istore_n 2 [some (.ref 1), some (.int (nI S)), some (.int 0), none] dX2_costOfSet_1 rfl rfl (Nat.le_of_ble_eq_true rfl) rfl ?_
  refine rn_iconst (v := 0) 3 dX2_costOfSet_2 (by decide) rfl ?_
  refine rn_istore_n 4 [some (.ref 1), some (.int (nI S)), some (.int 0), some (.int 0)] dX2_costOfSet_3 rfl rfl (Nat.le_of_ble_eq_true rfl) rfl ?_
  exact lp_costOfSet d h hg hS g.length 0 (by omega)

set_option maxRecDepth 100000 in
set_option maxHeartbeats 2000000 in
theorem lp_sumOfLengths (d : Nat) {g : List Ed} {mu : Nat → Nat → Int32} (h : Int64) (hg : xg g mu) : ∀ (k e : Nat), e + k = g.length → rn_R none mX2_sumOfLengths (d + 2) 4 [some (.ref 1), some (.int (nI (lS g e))), some (.int (nI e))] [] mu h (pq (some (.int (nI (lS g g.length)))) mu h) := by
  intro k
  induction k with
  | zero =>
    intro e hek
    refine rn_iload_n 5 dX2_sumOfLengths_4 rfl rfl rfl ?_
    refine rn_aload_n 6 dX2_sumOfLengths_5 rfl rfl rfl ?_
    refine rn_get 9 (.int (mu 1 1)) dX2_sumOfLengths_6 fl_X2_15 rfl rfl rfl rfl ?_
    refine rn_icmp_ge 26 12 dX2_sumOfLengths_9 (by decide) rfl (fun _ => ?_) (fun c9 => absurd (by rw [hg.2.2.1]; exact nI_le (by omega) (by have := hg.1; omega)) c9)
    refine rn_iload_n 27 dX2_sumOfLengths_26 rfl rfl rfl ?_
    exact rn_iret rfl dX2_sumOfLengths_27 (⟨by rw [show e = g.length by omega], rfl, rfl⟩)
  | succ k ih =>
    intro e hek
    have hlt : e < g.length := by omega
    have h16 := hg.1
    refine rn_iload_n 5 dX2_sumOfLengths_4 rfl rfl rfl ?_
    refine rn_aload_n 6 dX2_sumOfLengths_5 rfl rfl rfl ?_
    refine rn_get 9 (.int (mu 1 1)) dX2_sumOfLengths_6 fl_X2_15 rfl rfl rfl rfl ?_
    refine rn_icmp_ge 26 12 dX2_sumOfLengths_9 (by decide) rfl (fun c9 => absurd c9 (by rw [hg.2.2.1]; exact nI_ge hlt (by omega))) (fun _ => ?_)
    refine rn_iload_n 13 dX2_sumOfLengths_12 rfl rfl rfl ?_
    refine rn_aload_n 14 dX2_sumOfLengths_13 rfl rfl rfl ?_
    refine rn_iload_n 15 dX2_sumOfLengths_14 rfl rfl rfl ?_
    refine rn_cvp mX2_plainLength [.int (nI e)] [.int (nI (lS g e))] 18 (.int (nI (eL g e))) dX2_sumOfLengths_15 cv_X2_44 rfl rfl rfl (by simp [Value.category]) rfl (c_plainLength d h hg hlt) ?_
    refine rn_iadd 19 dX2_sumOfLengths_18 rfl ?_
    refine rn_istore_n 20 [some (.ref 1), some (.int ((nI (lS g e)) + (nI (eL g e)))), some (.int (nI e))] dX2_sumOfLengths_19 rfl rfl (Nat.le_of_ble_eq_true rfl) rfl ?_
    refine rn_iinc (v := (nI (e + 1))) 23 [some (.ref 1), some (.int ((nI (lS g e)) + (nI (eL g e)))), some (.int (nI (e + 1)))] dX2_sumOfLengths_20 rfl (nI_1 _) rfl rfl ?_
    refine rn_goto 4 dX2_sumOfLengths_23 (by decide) ?_
    have e1 : nI (lS g e) + nI (eL g e) = nI (lS g (e + 1)) := by rw [nI_add]; simp [lS]
    rw [e1]
    exact ih (e + 1) (by omega)

set_option maxRecDepth 100000 in
set_option maxHeartbeats 2000000 in
theorem c_sumOfLengths (d : Nat) {g : List Ed} {mu : Nat → Nat → Int32} (h : Int64) (hg : xg g mu) : gd_G mX2_sumOfLengths (d + 2) [.ref 1] mu h (pq (some (.int (nI (lS g g.length)))) mu h) := by
  refine gd_of rfl (Nat.le_of_ble_eq_true rfl) ?_
  show rn_R none mX2_sumOfLengths (d + 2) 0 [some (.ref 1), none, none] [] mu h (pq (some (.int (nI (lS g g.length)))) mu h)
  refine rn_iconst (v := 0) 1 dX2_sumOfLengths_0 (by decide) rfl ?_
  refine rn_istore_n 2 [some (.ref 1), some (.int 0), none] dX2_sumOfLengths_1 rfl rfl (Nat.le_of_ble_eq_true rfl) rfl ?_
  refine rn_iconst (v := 0) 3 dX2_sumOfLengths_2 (by decide) rfl ?_
  refine rn_istore_n 4 [some (.ref 1), some (.int 0), some (.int 0)] dX2_sumOfLengths_3 rfl rfl (Nat.le_of_ble_eq_true rfl) rfl ?_
  exact lp_sumOfLengths d h hg g.length 0 (by omega)
