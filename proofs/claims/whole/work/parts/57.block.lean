/-! BOTH SIDES: blockade -/
def lvs (g : List Ed) (X e : Nat) : Prop := X.testBit (eF g e) = true ∧ ¬ X.testBit (eT g e) = true
def bdS (b : Option Nat) (l : Bool) (y c : Nat) : Option Nat := match b with
  | none => none
  | some n => if l then (if y = 100 then some (n + c) else none) else some n
def bdr (g : List Ed) (X : Nat) : Nat → Option Nat
  | 0 => some 0
  | k + 1 => bdS (bdr g X k) (X.testBit (eF g k) && !X.testBit (eT g k)) (eY g k) (eC g k)
theorem bdr_none {g : List Ed} {X k : Nat} (h : bdr g X k = none) : ∀ j, bdr g X (k + j) = none := by
  intro j
  induction j with
  | zero => exact h
  | succ j ih => show bdS (bdr g X (k + j)) _ _ _ = none; rw [ih]; rfl
theorem bdr_le {g : List Ed} {X : Nat} (ho : ∀ x ∈ g, e_ok x) : ∀ k c, k ≤ g.length → bdr g X k = some c → c ≤ 9 * k := by
  intro k
  induction k with
  | zero => intro c _ h; cases h; omega
  | succ k ih =>
    intro c hk h
    have h2 : bdS (bdr g X k) (X.testBit (eF g k) && !X.testBit (eT g k)) (eY g k) (eC g k) = some c := h
    have hc := (e_at ho (show k < g.length by omega)).2.2.2.2.2
    cases hb : bdr g X k with
    | none => rw [hb] at h2; cases h2
    | some n =>
      have := ih n (by omega) hb
      rw [hb] at h2
      simp only [bdS] at h2
      split at h2
      · split at h2
        · cases h2; omega
        · cases h2
      · cases h2; omega
theorem bdr_0 {g : List Ed} {X e c : Nat} (h : bdr g X e = some c) (q : ¬ lvs g X e) : bdr g X (e + 1) = some c := by
  show bdS (bdr g X e) _ _ _ = _
  rw [h]
  have : (X.testBit (eF g e) && !X.testBit (eT g e)) = false := by
    cases h1 : X.testBit (eF g e) <;> cases h2 : X.testBit (eT g e) <;> simp [lvs, h1, h2] at q ⊢
  rw [this]
  rfl
theorem bdr_1 {g : List Ed} {X e c : Nat} (h : bdr g X e = some c) (q : lvs g X e) (y : eY g e = 100) : bdr g X (e + 1) = some (c + eC g e) := by
  show bdS (bdr g X e) _ _ _ = _
  rw [h, q.1, show X.testBit (eT g e) = false by simpa using q.2]
  exact if_pos y
theorem bdr_2 {g : List Ed} {X e c : Nat} (h : bdr g X e = some c) (q : lvs g X e) (y : ¬ eY g e = 100) : bdr g X (e + 1) = none := by
  show bdS (bdr g X e) _ _ _ = _
  rw [h, q.1, show X.testBit (eT g e) = false by simpa using q.2]
  exact if_neg y
def bkS (o b : Option Nat) : Option Nat := match b with
  | none => o
  | some c => match o with
    | none => some c
    | some m => if c < m then some c else some m
def bkk (g : List Ed) (u v : Nat) : Nat → Option Nat
  | 0 => none
  | X + 1 => if X.testBit u = true ∧ ¬ X.testBit v = true then bkS (bkk g u v X) (bdr g X g.length) else bkk g u v X
theorem bkk_le {g : List Ed} {u v : Nat} (ho : ∀ x ∈ g, e_ok x) : ∀ X m, bkk g u v X = some m → m ≤ 9 * g.length := by
  intro X
  induction X with
  | zero => intro m h; cases h
  | succ X ih =>
    intro m h
    have h2 : (if X.testBit u = true ∧ ¬ X.testBit v = true then bkS (bkk g u v X) (bdr g X g.length) else bkk g u v X) = some m := h
    split at h2
    · cases hb : bdr g X g.length with
      | none => rw [hb] at h2; exact ih m h2
      | some c =>
        have hc := bdr_le ho _ _ (Nat.le_refl _) hb
        rw [hb] at h2
        cases hk : bkk g u v X with
        | none => rw [hk] at h2; cases h2; exact hc
        | some n =>
          rw [hk] at h2
          have h3 : (if c < n then some c else some n) = some m := h2
          split at h3
          · cases h3; exact hc
          · cases h3; exact ih _ hk
    · exact ih m h2

set_option maxRecDepth 100000 in
set_option maxHeartbeats 2000000 in
theorem lp_bord (d : Nat) {g : List Ed} {X : Nat} (hX : X < 256) {mu : Nat → Nat → Int32} (h : Int64) (hg : xg g mu) : ∀ (k e : Nat), e + k = g.length → ∀ c, bdr g X e = some c → rn_R none mX2_costOfBorder (d + 2) 4 [some (.ref 1), some (.int (nI X)), some (.int (nI c)), some (.int (nI e))] [] mu h (pq (some (.int (oI (bdr g X g.length)))) mu h) := by
  intro k
  induction k with
  | zero =>
    intro e hek c hc
    refine rn_iload_n 5 dX2_costOfBorder_4 rfl rfl rfl ?_
    refine rn_aload_n 6 dX2_costOfBorder_5 rfl rfl rfl ?_
    refine rn_get 9 (.int (mu 1 1)) dX2_costOfBorder_6 fl_X2_15 rfl rfl rfl rfl ?_
    refine rn_icmp_ge 63 12 dX2_costOfBorder_9 (by decide) rfl (fun _ => ?_) (fun c9 => absurd (by rw [hg.2.2.1]; exact nI_le (by omega) (by have := hg.1; omega)) c9)
    refine rn_iload_n 64 dX2_costOfBorder_63 rfl rfl rfl ?_
    exact rn_iret rfl dX2_costOfBorder_64 (⟨by rw [show g.length = e by omega, hc]; rfl, rfl, rfl⟩)
  | succ k ih =>
    intro e hek c hc
    have hlt : e < g.length := by omega
    have h16 := hg.1
    have hok := e_at hg.2.1 hlt
    have hF8 := hok.1
    have hT8 := hok.2.1
    by_cases q1 : X.testBit (eF g e) = true
    · skip
      have b1 : (nI X >>> (nI (eF g e) &&& 31)) &&& 1 = 1 := by rw [nb_bit (by omega) (by omega), if_pos q1]
      by_cases q2 : X.testBit (eT g e) = true
      · skip
        have b2 : (nI X >>> (nI (eT g e) &&& 31)) &&& 1 = 1 := by rw [nb_bit (by omega) (by omega), if_pos q2]
        refine rn_iload_n 5 dX2_costOfBorder_4 rfl rfl rfl ?_
        refine rn_aload_n 6 dX2_costOfBorder_5 rfl rfl rfl ?_
        refine rn_get 9 (.int (mu 1 1)) dX2_costOfBorder_6 fl_X2_15 rfl rfl rfl rfl ?_
        refine rn_icmp_ge 63 12 dX2_costOfBorder_9 (by decide) rfl (fun c9 => absurd c9 (by rw [hg.2.2.1]; exact nI_ge hlt (by omega))) (fun _ => ?_)
        refine rn_iload_n 13 dX2_costOfBorder_12 rfl rfl rfl ?_
        refine rn_aload_n 14 dX2_costOfBorder_13 rfl rfl rfl ?_
        refine rn_iload_n 15 dX2_costOfBorder_14 rfl rfl rfl ?_
        refine rn_cvp mX2_from [.int (nI e)] [.int (nI X)] 18 (.int (nI (eF g e))) dX2_costOfBorder_15 cv_X2_47 rfl rfl rfl (by simp [Value.category]) rfl (c_from d h hg hlt) ?_
        refine rn_ishr 19 dX2_costOfBorder_18 rfl ?_
        refine rn_iconst (v := 1) 20 dX2_costOfBorder_19 (by decide) rfl ?_
        refine rn_iand 21 dX2_costOfBorder_20 rfl ?_
        rw [b1]
        refine rn_if_eq 57 24 dX2_costOfBorder_21 (by decide) rfl (fun c21 => absurd c21 (by decide)) (fun _ => ?_)
        refine rn_iload_n 25 dX2_costOfBorder_24 rfl rfl rfl ?_
        refine rn_aload_n 26 dX2_costOfBorder_25 rfl rfl rfl ?_
        refine rn_iload_n 27 dX2_costOfBorder_26 rfl rfl rfl ?_
        refine rn_cvp mX2_to [.int (nI e)] [.int (nI X)] 30 (.int (nI (eT g e))) dX2_costOfBorder_27 cv_X2_50 rfl rfl rfl (by simp [Value.category]) rfl (c_to d h hg hlt) ?_
        refine rn_ishr 31 dX2_costOfBorder_30 rfl ?_
        refine rn_iconst (v := 1) 32 dX2_costOfBorder_31 (by decide) rfl ?_
        refine rn_iand 33 dX2_costOfBorder_32 rfl ?_
        rw [b2]
        refine rn_if_ne 57 36 dX2_costOfBorder_33 (by decide) rfl (fun _ => ?_) (fun c33 => absurd c33 (by decide))
        refine rn_iinc (v := (nI (e + 1))) 60 [some (.ref 1), some (.int (nI X)), some (.int (nI c)), some (.int (nI (e + 1)))] dX2_costOfBorder_57 rfl (nI_1 _) rfl rfl ?_
        refine rn_goto 4 dX2_costOfBorder_60 (by decide) ?_
        exact ih (e + 1) (by omega) c (bdr_0 hc (fun z => z.2 q2))
      · skip
        have b2 : (nI X >>> (nI (eT g e) &&& 31)) &&& 1 = 0 := by rw [nb_bit (by omega) (by omega), if_neg q2]
        by_cases q3 : eY g e = 100
        · skip
          refine rn_iload_n 5 dX2_costOfBorder_4 rfl rfl rfl ?_
          refine rn_aload_n 6 dX2_costOfBorder_5 rfl rfl rfl ?_
          refine rn_get 9 (.int (mu 1 1)) dX2_costOfBorder_6 fl_X2_15 rfl rfl rfl rfl ?_
          refine rn_icmp_ge 63 12 dX2_costOfBorder_9 (by decide) rfl (fun c9 => absurd c9 (by rw [hg.2.2.1]; exact nI_ge hlt (by omega))) (fun _ => ?_)
          refine rn_iload_n 13 dX2_costOfBorder_12 rfl rfl rfl ?_
          refine rn_aload_n 14 dX2_costOfBorder_13 rfl rfl rfl ?_
          refine rn_iload_n 15 dX2_costOfBorder_14 rfl rfl rfl ?_
          refine rn_cvp mX2_from [.int (nI e)] [.int (nI X)] 18 (.int (nI (eF g e))) dX2_costOfBorder_15 cv_X2_47 rfl rfl rfl (by simp [Value.category]) rfl (c_from d h hg hlt) ?_
          refine rn_ishr 19 dX2_costOfBorder_18 rfl ?_
          refine rn_iconst (v := 1) 20 dX2_costOfBorder_19 (by decide) rfl ?_
          refine rn_iand 21 dX2_costOfBorder_20 rfl ?_
          rw [b1]
          refine rn_if_eq 57 24 dX2_costOfBorder_21 (by decide) rfl (fun c21 => absurd c21 (by decide)) (fun _ => ?_)
          refine rn_iload_n 25 dX2_costOfBorder_24 rfl rfl rfl ?_
          refine rn_aload_n 26 dX2_costOfBorder_25 rfl rfl rfl ?_
          refine rn_iload_n 27 dX2_costOfBorder_26 rfl rfl rfl ?_
          refine rn_cvp mX2_to [.int (nI e)] [.int (nI X)] 30 (.int (nI (eT g e))) dX2_costOfBorder_27 cv_X2_50 rfl rfl rfl (by simp [Value.category]) rfl (c_to d h hg hlt) ?_
          refine rn_ishr 31 dX2_costOfBorder_30 rfl ?_
          refine rn_iconst (v := 1) 32 dX2_costOfBorder_31 (by decide) rfl ?_
          refine rn_iand 33 dX2_costOfBorder_32 rfl ?_
          rw [b2]
          refine rn_if_ne 57 36 dX2_costOfBorder_33 (by decide) rfl (fun c33 => absurd (rfl) c33) (fun _ => ?_)
          refine rn_aload_n 37 dX2_costOfBorder_36 rfl rfl rfl ?_
          refine rn_iload_n 38 dX2_costOfBorder_37 rfl rfl rfl ?_
          refine rn_iconst (v := 3) 39 dX2_costOfBorder_38 (by decide) rfl ?_
          refine rn_cvp mX2_part [.int (nI e), .int 3] [] 42 (.int (nI (eY g e))) dX2_costOfBorder_39 cv_X2_53 rfl rfl rfl (by simp [Value.category]) rfl (c_part3 d h hg hlt) ?_
          refine rn_bipush (v := 100) 44 dX2_costOfBorder_42 (by decide) rfl ?_
          refine rn_icmp_eq 49 47 dX2_costOfBorder_44 (by decide) rfl (fun _ => ?_) (fun c44 => absurd (congrArg nI q3) c44)
          refine rn_iload_n 50 dX2_costOfBorder_49 rfl rfl rfl ?_
          refine rn_aload_n 51 dX2_costOfBorder_50 rfl rfl rfl ?_
          refine rn_iload_n 52 dX2_costOfBorder_51 rfl rfl rfl ?_
          refine rn_cvp mX2_cost [.int (nI e)] [.int (nI c)] 55 (.int (nI (eC g e))) dX2_costOfBorder_52 cv_X2_40 rfl rfl rfl (by simp [Value.category]) rfl (c_cost d h hg hlt) ?_
          refine rn_iadd 56 dX2_costOfBorder_55 rfl ?_
          rw [nI_add]
          refine rn_istore_n 57 [some (.ref 1), some (.int (nI X)), some (.int (nI (c + eC g e))), some (.int (nI e))] dX2_costOfBorder_56 rfl rfl (Nat.le_of_ble_eq_true rfl) rfl ?_
          refine rn_iinc (v := (nI (e + 1))) 60 [some (.ref 1), some (.int (nI X)), some (.int (nI (c + eC g e))), some (.int (nI (e + 1)))] dX2_costOfBorder_57 rfl (nI_1 _) rfl rfl ?_
          refine rn_goto 4 dX2_costOfBorder_60 (by decide) ?_
          exact ih (e + 1) (by omega) _ (bdr_1 hc ⟨q1, q2⟩ q3)
        · skip
          have hn : bdr g X g.length = none := by have z := bdr_none (bdr_2 hc ⟨q1, q2⟩ q3) (g.length - (e + 1)); rwa [show e + 1 + (g.length - (e + 1)) = g.length by omega] at z
          refine rn_iload_n 5 dX2_costOfBorder_4 rfl rfl rfl ?_
          refine rn_aload_n 6 dX2_costOfBorder_5 rfl rfl rfl ?_
          refine rn_get 9 (.int (mu 1 1)) dX2_costOfBorder_6 fl_X2_15 rfl rfl rfl rfl ?_
          refine rn_icmp_ge 63 12 dX2_costOfBorder_9 (by decide) rfl (fun c9 => absurd c9 (by rw [hg.2.2.1]; exact nI_ge hlt (by omega))) (fun _ => ?_)
          refine rn_iload_n 13 dX2_costOfBorder_12 rfl rfl rfl ?_
          refine rn_aload_n 14 dX2_costOfBorder_13 rfl rfl rfl ?_
          refine rn_iload_n 15 dX2_costOfBorder_14 rfl rfl rfl ?_
          refine rn_cvp mX2_from [.int (nI e)] [.int (nI X)] 18 (.int (nI (eF g e))) dX2_costOfBorder_15 cv_X2_47 rfl rfl rfl (by simp [Value.category]) rfl (c_from d h hg hlt) ?_
          refine rn_ishr 19 dX2_costOfBorder_18 rfl ?_
          refine rn_iconst (v := 1) 20 dX2_costOfBorder_19 (by decide) rfl ?_
          refine rn_iand 21 dX2_costOfBorder_20 rfl ?_
          rw [b1]
          refine rn_if_eq 57 24 dX2_costOfBorder_21 (by decide) rfl (fun c21 => absurd c21 (by decide)) (fun _ => ?_)
          refine rn_iload_n 25 dX2_costOfBorder_24 rfl rfl rfl ?_
          refine rn_aload_n 26 dX2_costOfBorder_25 rfl rfl rfl ?_
          refine rn_iload_n 27 dX2_costOfBorder_26 rfl rfl rfl ?_
          refine rn_cvp mX2_to [.int (nI e)] [.int (nI X)] 30 (.int (nI (eT g e))) dX2_costOfBorder_27 cv_X2_50 rfl rfl rfl (by simp [Value.category]) rfl (c_to d h hg hlt) ?_
          refine rn_ishr 31 dX2_costOfBorder_30 rfl ?_
          refine rn_iconst (v := 1) 32 dX2_costOfBorder_31 (by decide) rfl ?_
          refine rn_iand 33 dX2_costOfBorder_32 rfl ?_
          rw [b2]
          refine rn_if_ne 57 36 dX2_costOfBorder_33 (by decide) rfl (fun c33 => absurd (rfl) c33) (fun _ => ?_)
          refine rn_aload_n 37 dX2_costOfBorder_36 rfl rfl rfl ?_
          refine rn_iload_n 38 dX2_costOfBorder_37 rfl rfl rfl ?_
          refine rn_iconst (v := 3) 39 dX2_costOfBorder_38 (by decide) rfl ?_
          refine rn_cvp mX2_part [.int (nI e), .int 3] [] 42 (.int (nI (eY g e))) dX2_costOfBorder_39 cv_X2_53 rfl rfl rfl (by simp [Value.category]) rfl (c_part3 d h hg hlt) ?_
          refine rn_bipush (v := 100) 44 dX2_costOfBorder_42 (by decide) rfl ?_
          refine rn_icmp_eq 49 47 dX2_costOfBorder_44 (by decide) rfl (fun c44 => absurd c44 (fun z => q3 ((nI_eq (b := 100) (by have := hok.2.2.2.1; omega) (by omega)).mp z))) (fun _ => ?_)
          refine rn_iconst (v := (-1)) 48 dX2_costOfBorder_47 (by decide) rfl ?_
          exact rn_iret rfl dX2_costOfBorder_48 (⟨by rw [hn]; rfl, rfl, rfl⟩)
    · skip
      have b1 : (nI X >>> (nI (eF g e) &&& 31)) &&& 1 = 0 := by rw [nb_bit (by omega) (by omega), if_neg q1]
      refine rn_iload_n 5 dX2_costOfBorder_4 rfl rfl rfl ?_
      refine rn_aload_n 6 dX2_costOfBorder_5 rfl rfl rfl ?_
      refine rn_get 9 (.int (mu 1 1)) dX2_costOfBorder_6 fl_X2_15 rfl rfl rfl rfl ?_
      refine rn_icmp_ge 63 12 dX2_costOfBorder_9 (by decide) rfl (fun c9 => absurd c9 (by rw [hg.2.2.1]; exact nI_ge hlt (by omega))) (fun _ => ?_)
      refine rn_iload_n 13 dX2_costOfBorder_12 rfl rfl rfl ?_
      refine rn_aload_n 14 dX2_costOfBorder_13 rfl rfl rfl ?_
      refine rn_iload_n 15 dX2_costOfBorder_14 rfl rfl rfl ?_
      refine rn_cvp mX2_from [.int (nI e)] [.int (nI X)] 18 (.int (nI (eF g e))) dX2_costOfBorder_15 cv_X2_47 rfl rfl rfl (by simp [Value.category]) rfl (c_from d h hg hlt) ?_
      refine rn_ishr 19 dX2_costOfBorder_18 rfl ?_
      refine rn_iconst (v := 1) 20 dX2_costOfBorder_19 (by decide) rfl ?_
      refine rn_iand 21 dX2_costOfBorder_20 rfl ?_
      rw [b1]
      refine rn_if_eq 57 24 dX2_costOfBorder_21 (by decide) rfl (fun _ => ?_) (fun c21 => absurd (by decide) c21)
      refine rn_iinc (v := (nI (e + 1))) 60 [some (.ref 1), some (.int (nI X)), some (.int (nI c)), some (.int (nI (e + 1)))] dX2_costOfBorder_57 rfl (nI_1 _) rfl rfl ?_
      refine rn_goto 4 dX2_costOfBorder_60 (by decide) ?_
      exact ih (e + 1) (by omega) c (bdr_0 hc (fun z => q1 z.1))

set_option maxRecDepth 100000 in
set_option maxHeartbeats 2000000 in
theorem c_border (d : Nat) {g : List Ed} {X : Nat} (hX : X < 256) {mu : Nat → Nat → Int32} (h : Int64) (hg : xg g mu) : gd_G mX2_costOfBorder (d + 2) [.ref 1, .int (nI X)] mu h (pq (some (.int (oI (bdr g X g.length)))) mu h) := by
  refine gd_of rfl (Nat.le_of_ble_eq_true rfl) ?_
  show rn_R none mX2_costOfBorder (d + 2) 0 [some (.ref 1), some (.int (nI X)), none, none] [] mu h (pq (some (.int (oI (bdr g X g.length)))) mu h)
  refine rn_iconst (v := 0) 1 dX2_costOfBorder_0 (by decide) rfl ?_
  refine rn_istore_n 2 [some (.ref 1), some (.int (nI X)), some (.int 0), none] dX2_costOfBorder_1 rfl rfl (Nat.le_of_ble_eq_true rfl) rfl ?_
  refine rn_iconst (v := 0) 3 dX2_costOfBorder_2 (by decide) rfl ?_
  refine rn_istore_n 4 [some (.ref 1), some (.int (nI X)), some (.int 0), some (.int 0)] dX2_costOfBorder_3 rfl rfl (Nat.le_of_ble_eq_true rfl) rfl ?_
  exact lp_bord d hX h hg g.length 0 (by omega) 0 rfl

theorem oI_ne {c : Nat} (h : c < 2 ^ 31) : ¬ oI (some c) = -1 := by
  intro z
  have z2 : nI c = -1 := z
  have := nI_pos (n := c) h
  rw [z2] at this
  exact this (by decide)

set_option maxRecDepth 100000 in
set_option maxHeartbeats 2000000 in
theorem lp_xblk (d : Nat) {g : List Ed} {u v : Nat} (hu : u < 8) (hv : v < 8) {mu : Nat → Nat → Int32} (h : Int64) (hg : xg g mu) : ∀ (k X : Nat), X + k = 256 → rn_R none mX8_blockade (d + 3) 16 [some (.ref 0), some (.int (nI u)), some (.int (nI v)), some (.int (oI (bkk g u v X))), some (.int (nI X)), none] [] mu h (pq (some (.int (oI (bkk g u v 256)))) mu h) := by
  intro k
  induction k with
  | zero =>
    intro X hek
    refine rn_iload 18 dX8_blockade_16 rfl rfl ?_
    refine rn_sipush (v := 256) 21 dX8_blockade_18 (by decide) rfl ?_
    refine rn_icmp_ge 79 24 dX8_blockade_21 (by decide) rfl (fun _ => ?_) (fun c21 => absurd (nI_le (a := 256) (by omega) (by omega)) c21)
    refine rn_iload_n 80 dX8_blockade_79 rfl rfl rfl ?_
    exact rn_iret rfl dX8_blockade_80 (⟨by rw [show X = 256 by omega], rfl, rfl⟩)
  | succ k ih =>
    intro X hek
    have hX : X < 256 := by omega
    have h16 := hg.1
    by_cases q1 : X.testBit u = true
    · skip
      have b1 : (nI X >>> (nI u &&& 31)) &&& 1 = 1 := by rw [nb_bit (by omega) (by omega), if_pos q1]
      by_cases q2 : X.testBit v = true
      · skip
        have b2 : (nI X >>> (nI v &&& 31)) &&& 1 = 1 := by rw [nb_bit (by omega) (by omega), if_pos q2]
        refine rn_iload 18 dX8_blockade_16 rfl rfl ?_
        refine rn_sipush (v := 256) 21 dX8_blockade_18 (by decide) rfl ?_
        refine rn_icmp_ge 79 24 dX8_blockade_21 (by decide) rfl (fun c21 => absurd c21 (nI_ge (b := 256) (by omega) (by omega))) (fun _ => ?_)
        refine rn_iload 26 dX8_blockade_24 rfl rfl ?_
        refine rn_iload_n 27 dX8_blockade_26 rfl rfl rfl ?_
        refine rn_ishr 28 dX8_blockade_27 rfl ?_
        refine rn_iconst (v := 1) 29 dX8_blockade_28 (by decide) rfl ?_
        refine rn_iand 30 dX8_blockade_29 rfl ?_
        rw [b1]
        refine rn_if_eq 73 33 dX8_blockade_30 (by decide) rfl (fun c30 => absurd c30 (by decide)) (fun _ => ?_)
        refine rn_iload 35 dX8_blockade_33 rfl rfl ?_
        refine rn_iload_n 36 dX8_blockade_35 rfl rfl rfl ?_
        refine rn_ishr 37 dX8_blockade_36 rfl ?_
        refine rn_iconst (v := 1) 38 dX8_blockade_37 (by decide) rfl ?_
        refine rn_iand 39 dX8_blockade_38 rfl ?_
        rw [b2]
        refine rn_if_ne 73 42 dX8_blockade_39 (by decide) rfl (fun _ => ?_) (fun c39 => absurd c39 (by decide))
        refine rn_iinc (v := (nI (X + 1))) 76 [some (.ref 0), some (.int (nI u)), some (.int (nI v)), some (.int (oI (bkk g u v X))), some (.int (nI (X + 1))), none] dX8_blockade_73 rfl (nI_1 _) rfl rfl ?_
        refine rn_goto 16 dX8_blockade_76 (by decide) ?_
        have z := ih (X + 1) (by omega)
        rw [show bkk g u v (X + 1) = bkk g u v X from by show (if _ then bkS (bkk g u v X) (bdr g X g.length) else bkk g u v X) = _; rw [if_neg (fun z => z.2 q2)]] at z
        exact z
      · skip
        have b2 : (nI X >>> (nI v &&& 31)) &&& 1 = 0 := by rw [nb_bit (by omega) (by omega), if_neg q2]
        refine rn_iload 18 dX8_blockade_16 rfl rfl ?_
        refine rn_sipush (v := 256) 21 dX8_blockade_18 (by decide) rfl ?_
        refine rn_icmp_ge 79 24 dX8_blockade_21 (by decide) rfl (fun c21 => absurd c21 (nI_ge (b := 256) (by omega) (by omega))) (fun _ => ?_)
        refine rn_iload 26 dX8_blockade_24 rfl rfl ?_
        refine rn_iload_n 27 dX8_blockade_26 rfl rfl rfl ?_
        refine rn_ishr 28 dX8_blockade_27 rfl ?_
        refine rn_iconst (v := 1) 29 dX8_blockade_28 (by decide) rfl ?_
        refine rn_iand 30 dX8_blockade_29 rfl ?_
        rw [b1]
        refine rn_if_eq 73 33 dX8_blockade_30 (by decide) rfl (fun c30 => absurd c30 (by decide)) (fun _ => ?_)
        refine rn_iload 35 dX8_blockade_33 rfl rfl ?_
        refine rn_iload_n 36 dX8_blockade_35 rfl rfl rfl ?_
        refine rn_ishr 37 dX8_blockade_36 rfl ?_
        refine rn_iconst (v := 1) 38 dX8_blockade_37 (by decide) rfl ?_
        refine rn_iand 39 dX8_blockade_38 rfl ?_
        rw [b2]
        refine rn_if_ne 73 42 dX8_blockade_39 (by decide) rfl (fun c39 => absurd (rfl) c39) (fun _ => ?_)
        refine rn_aload_n 43 dX8_blockade_42 rfl rfl rfl ?_
        refine rn_get 46 (.ref 1) dX8_blockade_43 fl_X8_10 rfl rfl rfl rfl ?_
        refine rn_iload 48 dX8_blockade_46 rfl rfl ?_
        refine rn_cvp mX2_costOfBorder [.int (nI X)] [] 51 (.int (oI (bdr g X g.length))) dX8_blockade_48 cv_X8_184 rfl rfl rfl (by simp [Value.category]) rfl (c_border d hX h hg) ?_
        refine rn_istore 53 [some (.ref 0), some (.int (nI u)), some (.int (nI v)), some (.int (oI (bkk g u v X))), some (.int (nI X)), some (.int (oI (bdr g X g.length)))] dX8_blockade_51 rfl (Nat.le_of_ble_eq_true rfl) rfl ?_
        cases hb : bdr g X g.length with
        | none =>
          show rn_R _ mX8_blockade _ 53 [some (.ref 0), some (.int (nI u)), some (.int (nI v)), some (.int (oI (bkk g u v X))), some (.int (nI X)), some (.int (oI none))] [] mu h _
          refine rn_iload 55 dX8_blockade_53 rfl rfl ?_
          refine rn_iconst (v := (-1)) 56 dX8_blockade_55 (by decide) rfl ?_
          refine rn_icmp_eq 73 59 dX8_blockade_56 (by decide) rfl (fun _ => ?_) (fun c56 => absurd (rfl) c56)
          refine rn_iinc (v := (nI (X + 1))) 76 [some (.ref 0), some (.int (nI u)), some (.int (nI v)), some (.int (oI (bkk g u v X))), some (.int (nI (X + 1))), some (.int (oI none))] dX8_blockade_73 rfl (nI_1 _) rfl rfl ?_
          refine rn_goto 16 dX8_blockade_76 (by decide) ?_
          refine rn_drop 5 [some (.ref 0), some (.int (nI u)), some (.int (nI v)), some (.int (oI (bkk g u v X))), some (.int (nI (X + 1))), none] rfl ?_
          have z := ih (X + 1) (by omega)
          rw [show bkk g u v (X + 1) = bkk g u v X from by show (if _ then bkS (bkk g u v X) (bdr g X g.length) else bkk g u v X) = _; rw [if_pos ⟨q1, q2⟩, hb]; rfl] at z
          exact z
        | some c =>
          have hc := bdr_le hg.2.1 _ _ (Nat.le_refl _) hb
          have nc : ¬ oI (some c) = -1 := oI_ne (by omega)
          show rn_R _ mX8_blockade _ 53 [some (.ref 0), some (.int (nI u)), some (.int (nI v)), some (.int (oI (bkk g u v X))), some (.int (nI X)), some (.int (oI (some c)))] [] mu h _
          cases hk : bkk g u v X with
          | none =>
            show rn_R _ mX8_blockade _ 53 [some (.ref 0), some (.int (nI u)), some (.int (nI v)), some (.int (oI none)), some (.int (nI X)), some (.int (oI (some c)))] [] mu h _
            refine rn_iload 55 dX8_blockade_53 rfl rfl ?_
            refine rn_iconst (v := (-1)) 56 dX8_blockade_55 (by decide) rfl ?_
            refine rn_icmp_eq 73 59 dX8_blockade_56 (by decide) rfl (fun c56 => absurd c56 (nc)) (fun _ => ?_)
            refine rn_iload_n 60 dX8_blockade_59 rfl rfl rfl ?_
            refine rn_iconst (v := (-1)) 61 dX8_blockade_60 (by decide) rfl ?_
            refine rn_icmp_eq 70 64 dX8_blockade_61 (by decide) rfl (fun _ => ?_) (fun c61 => absurd (rfl) c61)
            refine rn_iload 72 dX8_blockade_70 rfl rfl ?_
            refine rn_istore_n 73 [some (.ref 0), some (.int (nI u)), some (.int (nI v)), some (.int (oI (some c))), some (.int (nI X)), some (.int (oI (some c)))] dX8_blockade_72 rfl rfl (Nat.le_of_ble_eq_true rfl) rfl ?_
            refine rn_iinc (v := (nI (X + 1))) 76 [some (.ref 0), some (.int (nI u)), some (.int (nI v)), some (.int (oI (some c))), some (.int (nI (X + 1))), some (.int (oI (some c)))] dX8_blockade_73 rfl (nI_1 _) rfl rfl ?_
            refine rn_goto 16 dX8_blockade_76 (by decide) ?_
            refine rn_drop 5 [some (.ref 0), some (.int (nI u)), some (.int (nI v)), some (.int (oI (some c))), some (.int (nI (X + 1))), none] rfl ?_
            have z := ih (X + 1) (by omega)
            rw [show bkk g u v (X + 1) = some c from by show (if _ then bkS (bkk g u v X) (bdr g X g.length) else bkk g u v X) = _; rw [if_pos ⟨q1, q2⟩, hb, hk]; rfl] at z
            exact z
          | some m =>
            have hm := bkk_le hg.2.1 _ _ hk
            have nm : ¬ oI (some m) = -1 := oI_ne (by omega)
            show rn_R _ mX8_blockade _ 53 [some (.ref 0), some (.int (nI u)), some (.int (nI v)), some (.int (oI (some m))), some (.int (nI X)), some (.int (oI (some c)))] [] mu h _
            by_cases q3 : c < m
            · skip
              refine rn_iload 55 dX8_blockade_53 rfl rfl ?_
              refine rn_iconst (v := (-1)) 56 dX8_blockade_55 (by decide) rfl ?_
              refine rn_icmp_eq 73 59 dX8_blockade_56 (by decide) rfl (fun c56 => absurd c56 (nc)) (fun _ => ?_)
              refine rn_iload_n 60 dX8_blockade_59 rfl rfl rfl ?_
              refine rn_iconst (v := (-1)) 61 dX8_blockade_60 (by decide) rfl ?_
              refine rn_icmp_eq 70 64 dX8_blockade_61 (by decide) rfl (fun c61 => absurd c61 (nm)) (fun _ => ?_)
              refine rn_iload 66 dX8_blockade_64 rfl rfl ?_
              refine rn_iload_n 67 dX8_blockade_66 rfl rfl rfl ?_
              refine rn_icmp_ge 73 70 dX8_blockade_67 (by decide) rfl (fun c67 => absurd c67 (nI_ge q3 (by omega))) (fun _ => ?_)
              refine rn_iload 72 dX8_blockade_70 rfl rfl ?_
              refine rn_istore_n 73 [some (.ref 0), some (.int (nI u)), some (.int (nI v)), some (.int (oI (some c))), some (.int (nI X)), some (.int (oI (some c)))] dX8_blockade_72 rfl rfl (Nat.le_of_ble_eq_true rfl) rfl ?_
              refine rn_iinc (v := (nI (X + 1))) 76 [some (.ref 0), some (.int (nI u)), some (.int (nI v)), some (.int (oI (some c))), some (.int (nI (X + 1))), some (.int (oI (some c)))] dX8_blockade_73 rfl (nI_1 _) rfl rfl ?_
              refine rn_goto 16 dX8_blockade_76 (by decide) ?_
              refine rn_drop 5 [some (.ref 0), some (.int (nI u)), some (.int (nI v)), some (.int (oI (some c))), some (.int (nI (X + 1))), none] rfl ?_
              have z := ih (X + 1) (by omega)
              rw [show bkk g u v (X + 1) = some c from by show (if _ then bkS (bkk g u v X) (bdr g X g.length) else bkk g u v X) = _; rw [if_pos ⟨q1, q2⟩, hb, hk]; exact if_pos q3] at z
              exact z
            · skip
              refine rn_iload 55 dX8_blockade_53 rfl rfl ?_
              refine rn_iconst (v := (-1)) 56 dX8_blockade_55 (by decide) rfl ?_
              refine rn_icmp_eq 73 59 dX8_blockade_56 (by decide) rfl (fun c56 => absurd c56 (nc)) (fun _ => ?_)
              refine rn_iload_n 60 dX8_blockade_59 rfl rfl rfl ?_
              refine rn_iconst (v := (-1)) 61 dX8_blockade_60 (by decide) rfl ?_
              refine rn_icmp_eq 70 64 dX8_blockade_61 (by decide) rfl (fun c61 => absurd c61 (nm)) (fun _ => ?_)
              refine rn_iload 66 dX8_blockade_64 rfl rfl ?_
              refine rn_iload_n 67 dX8_blockade_66 rfl rfl rfl ?_
              refine rn_icmp_ge 73 70 dX8_blockade_67 (by decide) rfl (fun _ => ?_) (fun c67 => absurd (nI_le (by omega) (by omega)) c67)
              refine rn_iinc (v := (nI (X + 1))) 76 [some (.ref 0), some (.int (nI u)), some (.int (nI v)), some (.int (oI (some m))), some (.int (nI (X + 1))), some (.int (oI (some c)))] dX8_blockade_73 rfl (nI_1 _) rfl rfl ?_
              refine rn_goto 16 dX8_blockade_76 (by decide) ?_
              refine rn_drop 5 [some (.ref 0), some (.int (nI u)), some (.int (nI v)), some (.int (oI (some m))), some (.int (nI (X + 1))), none] rfl ?_
              have z := ih (X + 1) (by omega)
              rw [show bkk g u v (X + 1) = some m from by show (if _ then bkS (bkk g u v X) (bdr g X g.length) else bkk g u v X) = _; rw [if_pos ⟨q1, q2⟩, hb, hk]; exact if_neg q3] at z
              exact z
    · skip
      have b1 : (nI X >>> (nI u &&& 31)) &&& 1 = 0 := by rw [nb_bit (by omega) (by omega), if_neg q1]
      refine rn_iload 18 dX8_blockade_16 rfl rfl ?_
      refine rn_sipush (v := 256) 21 dX8_blockade_18 (by decide) rfl ?_
      refine rn_icmp_ge 79 24 dX8_blockade_21 (by decide) rfl (fun c21 => absurd c21 (nI_ge (b := 256) (by omega) (by omega))) (fun _ => ?_)
      refine rn_iload 26 dX8_blockade_24 rfl rfl ?_
      refine rn_iload_n 27 dX8_blockade_26 rfl rfl rfl ?_
      refine rn_ishr 28 dX8_blockade_27 rfl ?_
      refine rn_iconst (v := 1) 29 dX8_blockade_28 (by decide) rfl ?_
      refine rn_iand 30 dX8_blockade_29 rfl ?_
      rw [b1]
      refine rn_if_eq 73 33 dX8_blockade_30 (by decide) rfl (fun _ => ?_) (fun c30 => absurd (by decide) c30)
      refine rn_iinc (v := (nI (X + 1))) 76 [some (.ref 0), some (.int (nI u)), some (.int (nI v)), some (.int (oI (bkk g u v X))), some (.int (nI (X + 1))), none] dX8_blockade_73 rfl (nI_1 _) rfl rfl ?_
      refine rn_goto 16 dX8_blockade_76 (by decide) ?_
      have z := ih (X + 1) (by omega)
      rw [show bkk g u v (X + 1) = bkk g u v X from by show (if _ then bkS (bkk g u v X) (bdr g X g.length) else bkk g u v X) = _; rw [if_neg (fun z => q1 z.1)]] at z
      exact z

set_option maxRecDepth 100000 in
set_option maxHeartbeats 2000000 in
theorem x_blockade_b (d : Nat) {g : List Ed} {a : Nat} {hs : List Sg} {tx : List Nat} {f : Int32} {v1 v2 : Int32} (hv : ¬ ((isin v1 8 ∧ isin v2 8))) : XC mX8_blockade (d + 2) [.int v1, .int v2] (g, a, hs, tx, f) (g, a, hs, tx, f) (.int (-2)) := by
  intro mu h hs0
  obtain ⟨hg, ha, hh, ht, hf⟩ := id hs0
  simp only at hg ha hh ht hf
  refine gd_of rfl (Nat.le_of_ble_eq_true rfl) ?_
  show rn_R none mX8_blockade (d + 2) 0 [some (.ref 0), some (.int v1), some (.int v2), none, none, none] [] mu h (fun r mu' _ => r = some (.int (-2)) ∧ xS (g, a, hs, tx, f) mu' ∧ ∀ c, 22 ≤ c → mu' c = mu c)
  have qq0 : ¬ (isin v1 8 ∧ isin v2 8) := fun z => hv (z)
  refine rn_iload_n 1 dX8_blockade_0 rfl rfl rfl ?_
  refine rn_iload_n 2 dX8_blockade_1 rfl rfl rfl ?_
  refine rn_csp mX8_areNodes [.int v1, .int v2] [] 5 (.int 0) dX8_blockade_2 cs_X8_75 rfl rfl (by simp [Value.category]) rfl (c_areNodes_f (d) mu h qq0) ?_
  refine rn_if_ne 11 8 dX8_blockade_5 (by decide) rfl (fun c5 => absurd (rfl) c5) (fun _ => ?_)
  refine rn_bipush (v := (-2)) 10 dX8_blockade_8 (by decide) rfl ?_
  exact rn_iret rfl dX8_blockade_10 (⟨rfl, hs0, fun _ _ => rfl⟩)

set_option maxRecDepth 100000 in
set_option maxHeartbeats 2000000 in
theorem x_blockade_t (d : Nat) {g : List Ed} {a : Nat} {hs : List Sg} {tx : List Nat} {f : Int32} {u v : Nat} (hu : u < 8) (hv : v < 8) : XC mX8_blockade (d + 3) [.int (nI u), .int (nI v)] (g, a, hs, tx, f) (g, a, hs, tx, f) (.int (oI (bkk g u v 256))) := by
  intro mu h hs0
  obtain ⟨hg, ha, hh, ht, hf⟩ := id hs0
  simp only at hg ha hh ht hf
  refine gd_of rfl (Nat.le_of_ble_eq_true rfl) ?_
  show rn_R none mX8_blockade (d + 3) 0 [some (.ref 0), some (.int (nI u)), some (.int (nI v)), none, none, none] [] mu h (fun r mu' _ => r = some (.int (oI (bkk g u v 256))) ∧ xS (g, a, hs, tx, f) mu' ∧ ∀ c, 22 ≤ c → mu' c = mu c)
  refine rn_iload_n 1 dX8_blockade_0 rfl rfl rfl ?_
  refine rn_iload_n 2 dX8_blockade_1 rfl rfl rfl ?_
  refine rn_csp mX8_areNodes [.int (nI u), .int (nI v)] [] 5 (.int 1) dX8_blockade_2 cs_X8_75 rfl rfl (by simp [Value.category]) rfl (c_areNodes_t (d + 1) mu h ⟨u, hu, rfl⟩ ⟨v, hv, rfl⟩) ?_
  refine rn_if_ne 11 8 dX8_blockade_5 (by decide) rfl (fun _ => ?_) (fun c5 => absurd c5 (by decide))
  refine rn_iconst (v := (-1)) 12 dX8_blockade_11 (by decide) rfl ?_
  refine rn_istore_n 13 [some (.ref 0), some (.int (nI u)), some (.int (nI v)), some (.int (-1)), none, none] dX8_blockade_12 rfl rfl (Nat.le_of_ble_eq_true rfl) rfl ?_
  refine rn_iconst (v := 0) 14 dX8_blockade_13 (by decide) rfl ?_
  refine rn_istore 16 [some (.ref 0), some (.int (nI u)), some (.int (nI v)), some (.int (-1)), some (.int 0), none] dX8_blockade_14 rfl (Nat.le_of_ble_eq_true rfl) rfl ?_
  exact rn_mono (lp_xblk d hu hv h hg 256 0 (by omega)) (fun r m2 h2 q => ⟨q.1, q.2.1 ▸ hs0, fun c hc => by rw [q.2.1]⟩)

set_option maxRecDepth 100000 in
set_option maxHeartbeats 2000000 in
theorem lp_mbord (d : Nat) {g : List Ed} {u v X : Nat} {w0 : Int32} (hX : X < 256) {mu : Nat → Nat → Int32} {h : Int64} {Q : rn_Q} (hg : mg g mu) (kk1 : ∀ c, bdr g X g.length = some c → rn_R none mX9_blockade (d + 1) 162 [some (.ref 22), some (.int (nI u)), some (.int (nI v)), some (.int w0), some (.int (nI X)), some (.int 1), some (.int (nI c)), none, none] [] mu h Q) (kk0 : ∀ c : Int32, bdr g X g.length = none → rn_R none mX9_blockade (d + 1) 162 [some (.ref 22), some (.int (nI u)), some (.int (nI v)), some (.int w0), some (.int (nI X)), some (.int 0), some (.int (c)), none, none] [] mu h Q) : ∀ (k e : Nat), e + k = g.length → ∀ c, bdr g X e = some c → rn_R none mX9_blockade (d + 1) 56 [some (.ref 22), some (.int (nI u)), some (.int (nI v)), some (.int w0), some (.int (nI X)), some (.int 1), some (.int (nI c)), some (.int (nI e)), none] [] mu h (Q) := by
  intro k
  induction k with
  | zero =>
    intro e hek c hc
    refine rn_iload 58 dX9_blockade_56 rfl rfl ?_
    refine rn_aload_n 59 dX9_blockade_58 rfl rfl rfl ?_
    refine rn_get 62 (.ref 23) dX9_blockade_59 fl_X9_7 rfl rfl rfl rfl ?_
    refine rn_bipush (v := 80) 64 dX9_blockade_62 (by decide) rfl ?_
    refine rn_iald 65 (mu 23 80) dX9_blockade_64 rfl (vp_in_nI (n := 80) (by decide) (by decide)) rfl rfl ?_
    refine rn_icmp_ge 162 68 dX9_blockade_65 (by decide) rfl (fun _ => ?_) (fun c65 => absurd (by rw [hg.2.2.1]; exact nI_le (by omega) (by have := hg.1; omega)) c65)
    refine rn_drop 7 [some (.ref 22), some (.int (nI u)), some (.int (nI v)), some (.int w0), some (.int (nI X)), some (.int 1), some (.int (nI c)), none, none] rfl ?_
    exact kk1 c ((show e = g.length by omega) ▸ hc)
  | succ k ih =>
    intro e hek c hc
    have hlt : e < g.length := by omega
    have h16 := hg.1
    have hok := e_at hg.2.1 hlt
    have hF8 := hok.1
    have hT8 := hok.2.1
    by_cases q1 : X.testBit (eF g e) = true
    · skip
      have b1 : (nI X >>> (nI (eF g e) &&& 31)) &&& 1 = 1 := by rw [nb_bit (by omega) (by omega), if_pos q1]
      by_cases q2 : X.testBit (eT g e) = true
      · skip
        have b2 : (nI X >>> (nI (eT g e) &&& 31)) &&& 1 = 1 := by rw [nb_bit (by omega) (by omega), if_pos q2]
        refine rn_iload 58 dX9_blockade_56 rfl rfl ?_
        refine rn_aload_n 59 dX9_blockade_58 rfl rfl rfl ?_
        refine rn_get 62 (.ref 23) dX9_blockade_59 fl_X9_7 rfl rfl rfl rfl ?_
        refine rn_bipush (v := 80) 64 dX9_blockade_62 (by decide) rfl ?_
        refine rn_iald 65 (mu 23 80) dX9_blockade_64 rfl (vp_in_nI (n := 80) (by decide) (by decide)) rfl rfl ?_
        refine rn_icmp_ge 162 68 dX9_blockade_65 (by decide) rfl (fun c65 => absurd c65 (by rw [hg.2.2.1]; exact nI_ge hlt (by omega))) (fun _ => ?_)
        refine rn_iload 70 dX9_blockade_68 rfl rfl ?_
        refine rn_if_eq 162 73 dX9_blockade_70 (by decide) rfl (fun c70 => absurd c70 (by decide)) (fun _ => ?_)
        refine rn_iload 75 dX9_blockade_73 rfl rfl ?_
        refine rn_aload_n 76 dX9_blockade_75 rfl rfl rfl ?_
        refine rn_iload 78 dX9_blockade_76 rfl rfl ?_
        refine rn_iconst (v := 0) 79 dX9_blockade_78 (by decide) rfl ?_
        refine rn_cvp mX9_of [.int (nI e), .int 0] [.int (nI X)] 82 (.int (nI (eF g e))) dX9_blockade_79 cv_X9_46 rfl rfl rfl (by simp [Value.category]) rfl (c_ofe d h hg (w := 0) hlt (by omega)) ?_
        refine rn_ishr 83 dX9_blockade_82 rfl ?_
        refine rn_iconst (v := 1) 84 dX9_blockade_83 (by decide) rfl ?_
        refine rn_iand 85 dX9_blockade_84 rfl ?_
        rw [b1]
        refine rn_iconst (v := 1) 86 dX9_blockade_85 (by decide) rfl ?_
        refine rn_icmp_ne 108 89 dX9_blockade_86 (by decide) rfl (fun c86 => absurd (rfl) c86) (fun _ => ?_)
        refine rn_iload 91 dX9_blockade_89 rfl rfl ?_
        refine rn_aload_n 92 dX9_blockade_91 rfl rfl rfl ?_
        refine rn_iload 94 dX9_blockade_92 rfl rfl ?_
        refine rn_iconst (v := 1) 95 dX9_blockade_94 (by decide) rfl ?_
        refine rn_cvp mX9_of [.int (nI e), .int 1] [.int (nI X)] 98 (.int (nI (eT g e))) dX9_blockade_95 cv_X9_46 rfl rfl rfl (by simp [Value.category]) rfl (c_ofe d h hg (w := 1) hlt (by omega)) ?_
        refine rn_ishr 99 dX9_blockade_98 rfl ?_
        refine rn_iconst (v := 1) 100 dX9_blockade_99 (by decide) rfl ?_
        refine rn_iand 101 dX9_blockade_100 rfl ?_
        rw [b2]
        refine rn_if_ne 108 104 dX9_blockade_101 (by decide) rfl (fun _ => ?_) (fun c101 => absurd c101 (by decide))
        refine rn_iconst (v := 0) 109 dX9_blockade_108 (by decide) rfl ?_
        refine rn_istore 111 [some (.ref 22), some (.int (nI u)), some (.int (nI v)), some (.int w0), some (.int (nI X)), some (.int 1), some (.int (nI c)), some (.int (nI e)), some (.int 0)] dX9_blockade_109 rfl (Nat.le_of_ble_eq_true rfl) rfl ?_
        refine rn_iload 113 dX9_blockade_111 rfl rfl ?_
        refine rn_if_eq 128 116 dX9_blockade_113 (by decide) rfl (fun _ => ?_) (fun c113 => absurd (by decide) c113)
        refine rn_iconst (v := 1) 129 dX9_blockade_128 (by decide) rfl ?_
        refine rn_goto 133 dX9_blockade_129 (by decide) ?_
        refine rn_istore 135 [some (.ref 22), some (.int (nI u)), some (.int (nI v)), some (.int w0), some (.int (nI X)), some (.int 1), some (.int (nI c)), some (.int (nI e)), some (.int 0)] dX9_blockade_133 rfl (Nat.le_of_ble_eq_true rfl) rfl ?_
        refine rn_iload 137 dX9_blockade_135 rfl rfl ?_
        refine rn_iload 139 dX9_blockade_137 rfl rfl ?_
        refine rn_if_eq 152 142 dX9_blockade_139 (by decide) rfl (fun _ => ?_) (fun c139 => absurd (by decide) c139)
        refine rn_iconst (v := 0) 153 dX9_blockade_152 (by decide) rfl ?_
        refine rn_iadd 154 dX9_blockade_153 rfl ?_
        rw [show nI c + 0 = nI c from nI_add _ 0]
        refine rn_istore 156 [some (.ref 22), some (.int (nI u)), some (.int (nI v)), some (.int w0), some (.int (nI X)), some (.int 1), some (.int (nI c)), some (.int (nI e)), some (.int 0)] dX9_blockade_154 rfl (Nat.le_of_ble_eq_true rfl) rfl ?_
        refine rn_iinc (v := (nI (e + 1))) 159 [some (.ref 22), some (.int (nI u)), some (.int (nI v)), some (.int w0), some (.int (nI X)), some (.int 1), some (.int (nI c)), some (.int (nI (e + 1))), some (.int 0)] dX9_blockade_156 rfl (nI_1 _) rfl rfl ?_
        refine rn_goto 56 dX9_blockade_159 (by decide) ?_
        refine rn_drop 8 [some (.ref 22), some (.int (nI u)), some (.int (nI v)), some (.int w0), some (.int (nI X)), some (.int 1), some (.int (nI c)), some (.int (nI (e + 1))), none] rfl ?_
        exact ih (e + 1) (by omega) c (bdr_0 hc (fun z => z.2 q2))
      · skip
        have b2 : (nI X >>> (nI (eT g e) &&& 31)) &&& 1 = 0 := by rw [nb_bit (by omega) (by omega), if_neg q2]
        by_cases q3 : eY g e = 100
        · skip
          refine rn_iload 58 dX9_blockade_56 rfl rfl ?_
          refine rn_aload_n 59 dX9_blockade_58 rfl rfl rfl ?_
          refine rn_get 62 (.ref 23) dX9_blockade_59 fl_X9_7 rfl rfl rfl rfl ?_
          refine rn_bipush (v := 80) 64 dX9_blockade_62 (by decide) rfl ?_
          refine rn_iald 65 (mu 23 80) dX9_blockade_64 rfl (vp_in_nI (n := 80) (by decide) (by decide)) rfl rfl ?_
          refine rn_icmp_ge 162 68 dX9_blockade_65 (by decide) rfl (fun c65 => absurd c65 (by rw [hg.2.2.1]; exact nI_ge hlt (by omega))) (fun _ => ?_)
          refine rn_iload 70 dX9_blockade_68 rfl rfl ?_
          refine rn_if_eq 162 73 dX9_blockade_70 (by decide) rfl (fun c70 => absurd c70 (by decide)) (fun _ => ?_)
          refine rn_iload 75 dX9_blockade_73 rfl rfl ?_
          refine rn_aload_n 76 dX9_blockade_75 rfl rfl rfl ?_
          refine rn_iload 78 dX9_blockade_76 rfl rfl ?_
          refine rn_iconst (v := 0) 79 dX9_blockade_78 (by decide) rfl ?_
          refine rn_cvp mX9_of [.int (nI e), .int 0] [.int (nI X)] 82 (.int (nI (eF g e))) dX9_blockade_79 cv_X9_46 rfl rfl rfl (by simp [Value.category]) rfl (c_ofe d h hg (w := 0) hlt (by omega)) ?_
          refine rn_ishr 83 dX9_blockade_82 rfl ?_
          refine rn_iconst (v := 1) 84 dX9_blockade_83 (by decide) rfl ?_
          refine rn_iand 85 dX9_blockade_84 rfl ?_
          rw [b1]
          refine rn_iconst (v := 1) 86 dX9_blockade_85 (by decide) rfl ?_
          refine rn_icmp_ne 108 89 dX9_blockade_86 (by decide) rfl (fun c86 => absurd (rfl) c86) (fun _ => ?_)
          refine rn_iload 91 dX9_blockade_89 rfl rfl ?_
          refine rn_aload_n 92 dX9_blockade_91 rfl rfl rfl ?_
          refine rn_iload 94 dX9_blockade_92 rfl rfl ?_
          refine rn_iconst (v := 1) 95 dX9_blockade_94 (by decide) rfl ?_
          refine rn_cvp mX9_of [.int (nI e), .int 1] [.int (nI X)] 98 (.int (nI (eT g e))) dX9_blockade_95 cv_X9_46 rfl rfl rfl (by simp [Value.category]) rfl (c_ofe d h hg (w := 1) hlt (by omega)) ?_
          refine rn_ishr 99 dX9_blockade_98 rfl ?_
          refine rn_iconst (v := 1) 100 dX9_blockade_99 (by decide) rfl ?_
          refine rn_iand 101 dX9_blockade_100 rfl ?_
          rw [b2]
          refine rn_if_ne 108 104 dX9_blockade_101 (by decide) rfl (fun c101 => absurd (rfl) c101) (fun _ => ?_)
          refine rn_iconst (v := 1) 105 dX9_blockade_104 (by decide) rfl ?_
          refine rn_goto 109 dX9_blockade_105 (by decide) ?_
          refine rn_istore 111 [some (.ref 22), some (.int (nI u)), some (.int (nI v)), some (.int w0), some (.int (nI X)), some (.int 1), some (.int (nI c)), some (.int (nI e)), some (.int 1)] dX9_blockade_109 rfl (Nat.le_of_ble_eq_true rfl) rfl ?_
          refine rn_iload 113 dX9_blockade_111 rfl rfl ?_
          refine rn_if_eq 128 116 dX9_blockade_113 (by decide) rfl (fun c113 => absurd c113 (by decide)) (fun _ => ?_)
          refine rn_aload_n 117 dX9_blockade_116 rfl rfl rfl ?_
          refine rn_iload 119 dX9_blockade_117 rfl rfl ?_
          refine rn_iconst (v := 3) 120 dX9_blockade_119 (by decide) rfl ?_
          refine rn_cvp mX9_of [.int (nI e), .int 3] [] 123 (.int (nI (eY g e))) dX9_blockade_120 cv_X9_46 rfl rfl rfl (by simp [Value.category]) rfl (c_ofe d h hg (w := 3) hlt (by omega)) ?_
          refine rn_bipush (v := 100) 125 dX9_blockade_123 (by decide) rfl ?_
          refine rn_icmp_ne 132 128 dX9_blockade_125 (by decide) rfl (fun c125 => absurd (congrArg nI q3) c125) (fun _ => ?_)
          refine rn_iconst (v := 1) 129 dX9_blockade_128 (by decide) rfl ?_
          refine rn_goto 133 dX9_blockade_129 (by decide) ?_
          refine rn_istore 135 [some (.ref 22), some (.int (nI u)), some (.int (nI v)), some (.int w0), some (.int (nI X)), some (.int 1), some (.int (nI c)), some (.int (nI e)), some (.int 1)] dX9_blockade_133 rfl (Nat.le_of_ble_eq_true rfl) rfl ?_
          refine rn_iload 137 dX9_blockade_135 rfl rfl ?_
          refine rn_iload 139 dX9_blockade_137 rfl rfl ?_
          refine rn_if_eq 152 142 dX9_blockade_139 (by decide) rfl (fun c139 => absurd c139 (by decide)) (fun _ => ?_)
          refine rn_aload_n 143 dX9_blockade_142 rfl rfl rfl ?_
          refine rn_iload 145 dX9_blockade_143 rfl rfl ?_
          refine rn_iconst (v := 4) 146 dX9_blockade_145 (by decide) rfl ?_
          refine rn_cvp mX9_of [.int (nI e), .int 4] [.int (nI c)] 149 (.int (nI (eC g e))) dX9_blockade_146 cv_X9_46 rfl rfl rfl (by simp [Value.category]) rfl (c_ofe d h hg (w := 4) hlt (by omega)) ?_
          refine rn_goto 153 dX9_blockade_149 (by decide) ?_
          refine rn_iadd 154 dX9_blockade_153 rfl ?_
          rw [nI_add]
          refine rn_istore 156 [some (.ref 22), some (.int (nI u)), some (.int (nI v)), some (.int w0), some (.int (nI X)), some (.int 1), some (.int (nI (c + eC g e))), some (.int (nI e)), some (.int 1)] dX9_blockade_154 rfl (Nat.le_of_ble_eq_true rfl) rfl ?_
          refine rn_iinc (v := (nI (e + 1))) 159 [some (.ref 22), some (.int (nI u)), some (.int (nI v)), some (.int w0), some (.int (nI X)), some (.int 1), some (.int (nI (c + eC g e))), some (.int (nI (e + 1))), some (.int 1)] dX9_blockade_156 rfl (nI_1 _) rfl rfl ?_
          refine rn_goto 56 dX9_blockade_159 (by decide) ?_
          refine rn_drop 8 [some (.ref 22), some (.int (nI u)), some (.int (nI v)), some (.int w0), some (.int (nI X)), some (.int 1), some (.int (nI (c + eC g e))), some (.int (nI (e + 1))), none] rfl ?_
          exact ih (e + 1) (by omega) _ (bdr_1 hc ⟨q1, q2⟩ q3)
        · skip
          have hn : bdr g X g.length = none := by have z := bdr_none (bdr_2 hc ⟨q1, q2⟩ q3) (g.length - (e + 1)); rwa [show e + 1 + (g.length - (e + 1)) = g.length by omega] at z
          refine rn_iload 58 dX9_blockade_56 rfl rfl ?_
          refine rn_aload_n 59 dX9_blockade_58 rfl rfl rfl ?_
          refine rn_get 62 (.ref 23) dX9_blockade_59 fl_X9_7 rfl rfl rfl rfl ?_
          refine rn_bipush (v := 80) 64 dX9_blockade_62 (by decide) rfl ?_
          refine rn_iald 65 (mu 23 80) dX9_blockade_64 rfl (vp_in_nI (n := 80) (by decide) (by decide)) rfl rfl ?_
          refine rn_icmp_ge 162 68 dX9_blockade_65 (by decide) rfl (fun c65 => absurd c65 (by rw [hg.2.2.1]; exact nI_ge hlt (by omega))) (fun _ => ?_)
          refine rn_iload 70 dX9_blockade_68 rfl rfl ?_
          refine rn_if_eq 162 73 dX9_blockade_70 (by decide) rfl (fun c70 => absurd c70 (by decide)) (fun _ => ?_)
          refine rn_iload 75 dX9_blockade_73 rfl rfl ?_
          refine rn_aload_n 76 dX9_blockade_75 rfl rfl rfl ?_
          refine rn_iload 78 dX9_blockade_76 rfl rfl ?_
          refine rn_iconst (v := 0) 79 dX9_blockade_78 (by decide) rfl ?_
          refine rn_cvp mX9_of [.int (nI e), .int 0] [.int (nI X)] 82 (.int (nI (eF g e))) dX9_blockade_79 cv_X9_46 rfl rfl rfl (by simp [Value.category]) rfl (c_ofe d h hg (w := 0) hlt (by omega)) ?_
          refine rn_ishr 83 dX9_blockade_82 rfl ?_
          refine rn_iconst (v := 1) 84 dX9_blockade_83 (by decide) rfl ?_
          refine rn_iand 85 dX9_blockade_84 rfl ?_
          rw [b1]
          refine rn_iconst (v := 1) 86 dX9_blockade_85 (by decide) rfl ?_
          refine rn_icmp_ne 108 89 dX9_blockade_86 (by decide) rfl (fun c86 => absurd (rfl) c86) (fun _ => ?_)
          refine rn_iload 91 dX9_blockade_89 rfl rfl ?_
          refine rn_aload_n 92 dX9_blockade_91 rfl rfl rfl ?_
          refine rn_iload 94 dX9_blockade_92 rfl rfl ?_
          refine rn_iconst (v := 1) 95 dX9_blockade_94 (by decide) rfl ?_
          refine rn_cvp mX9_of [.int (nI e), .int 1] [.int (nI X)] 98 (.int (nI (eT g e))) dX9_blockade_95 cv_X9_46 rfl rfl rfl (by simp [Value.category]) rfl (c_ofe d h hg (w := 1) hlt (by omega)) ?_
          refine rn_ishr 99 dX9_blockade_98 rfl ?_
          refine rn_iconst (v := 1) 100 dX9_blockade_99 (by decide) rfl ?_
          refine rn_iand 101 dX9_blockade_100 rfl ?_
          rw [b2]
          refine rn_if_ne 108 104 dX9_blockade_101 (by decide) rfl (fun c101 => absurd (rfl) c101) (fun _ => ?_)
          refine rn_iconst (v := 1) 105 dX9_blockade_104 (by decide) rfl ?_
          refine rn_goto 109 dX9_blockade_105 (by decide) ?_
          refine rn_istore 111 [some (.ref 22), some (.int (nI u)), some (.int (nI v)), some (.int w0), some (.int (nI X)), some (.int 1), some (.int (nI c)), some (.int (nI e)), some (.int 1)] dX9_blockade_109 rfl (Nat.le_of_ble_eq_true rfl) rfl ?_
          refine rn_iload 113 dX9_blockade_111 rfl rfl ?_
          refine rn_if_eq 128 116 dX9_blockade_113 (by decide) rfl (fun c113 => absurd c113 (by decide)) (fun _ => ?_)
          refine rn_aload_n 117 dX9_blockade_116 rfl rfl rfl ?_
          refine rn_iload 119 dX9_blockade_117 rfl rfl ?_
          refine rn_iconst (v := 3) 120 dX9_blockade_119 (by decide) rfl ?_
          refine rn_cvp mX9_of [.int (nI e), .int 3] [] 123 (.int (nI (eY g e))) dX9_blockade_120 cv_X9_46 rfl rfl rfl (by simp [Value.category]) rfl (c_ofe d h hg (w := 3) hlt (by omega)) ?_
          refine rn_bipush (v := 100) 125 dX9_blockade_123 (by decide) rfl ?_
          refine rn_icmp_ne 132 128 dX9_blockade_125 (by decide) rfl (fun _ => ?_) (fun c125 => absurd c125 (fun z => q3 ((nI_eq (b := 100) (by have := hok.2.2.2.1; omega) (by omega)).mp z)))
          refine rn_iconst (v := 0) 133 dX9_blockade_132 (by decide) rfl ?_
          refine rn_istore 135 [some (.ref 22), some (.int (nI u)), some (.int (nI v)), some (.int w0), some (.int (nI X)), some (.int 0), some (.int (nI c)), some (.int (nI e)), some (.int 1)] dX9_blockade_133 rfl (Nat.le_of_ble_eq_true rfl) rfl ?_
          refine rn_iload 137 dX9_blockade_135 rfl rfl ?_
          refine rn_iload 139 dX9_blockade_137 rfl rfl ?_
          refine rn_if_eq 152 142 dX9_blockade_139 (by decide) rfl (fun c139 => absurd c139 (by decide)) (fun _ => ?_)
          refine rn_aload_n 143 dX9_blockade_142 rfl rfl rfl ?_
          refine rn_iload 145 dX9_blockade_143 rfl rfl ?_
          refine rn_iconst (v := 4) 146 dX9_blockade_145 (by decide) rfl ?_
          refine rn_cvp mX9_of [.int (nI e), .int 4] [.int (nI c)] 149 (.int (nI (eC g e))) dX9_blockade_146 cv_X9_46 rfl rfl rfl (by simp [Value.category]) rfl (c_ofe d h hg (w := 4) hlt (by omega)) ?_
          refine rn_goto 153 dX9_blockade_149 (by decide) ?_
          refine rn_iadd 154 dX9_blockade_153 rfl ?_
          rw [nI_add]
          refine rn_istore 156 [some (.ref 22), some (.int (nI u)), some (.int (nI v)), some (.int w0), some (.int (nI X)), some (.int 0), some (.int (nI (c + eC g e))), some (.int (nI e)), some (.int 1)] dX9_blockade_154 rfl (Nat.le_of_ble_eq_true rfl) rfl ?_
          refine rn_iinc (v := (nI (e + 1))) 159 [some (.ref 22), some (.int (nI u)), some (.int (nI v)), some (.int w0), some (.int (nI X)), some (.int 0), some (.int (nI (c + eC g e))), some (.int (nI (e + 1))), some (.int 1)] dX9_blockade_156 rfl (nI_1 _) rfl rfl ?_
          refine rn_goto 56 dX9_blockade_159 (by decide) ?_
          refine rn_iload 58 dX9_blockade_56 rfl rfl ?_
          refine rn_aload_n 59 dX9_blockade_58 rfl rfl rfl ?_
          refine rn_get 62 (.ref 23) dX9_blockade_59 fl_X9_7 rfl rfl rfl rfl ?_
          refine rn_bipush (v := 80) 64 dX9_blockade_62 (by decide) rfl ?_
          refine rn_iald 65 (mu 23 80) dX9_blockade_64 rfl (vp_in_nI (n := 80) (by decide) (by decide)) rfl rfl ?_
          refine rn_icmp_ge 162 68 dX9_blockade_65 (by decide) rfl (fun c65 => ?_) (fun c65 => ?_)
          · skip
            refine rn_drop 7 [some (.ref 22), some (.int (nI u)), some (.int (nI v)), some (.int w0), some (.int (nI X)), some (.int 0), some (.int (nI (c + eC g e))), none, some (.int 1)] rfl ?_
            refine rn_drop 8 [some (.ref 22), some (.int (nI u)), some (.int (nI v)), some (.int w0), some (.int (nI X)), some (.int 0), some (.int (nI (c + eC g e))), none, none] rfl ?_
            exact kk0 _ hn
          · skip
            refine rn_iload 70 dX9_blockade_68 rfl rfl ?_
            refine rn_if_eq 162 73 dX9_blockade_70 (by decide) rfl (fun _ => ?_) (fun c70 => absurd (by decide) c70)
            refine rn_drop 7 [some (.ref 22), some (.int (nI u)), some (.int (nI v)), some (.int w0), some (.int (nI X)), some (.int 0), some (.int (nI (c + eC g e))), none, some (.int 1)] rfl ?_
            refine rn_drop 8 [some (.ref 22), some (.int (nI u)), some (.int (nI v)), some (.int w0), some (.int (nI X)), some (.int 0), some (.int (nI (c + eC g e))), none, none] rfl ?_
            exact kk0 _ hn
    · skip
      have b1 : (nI X >>> (nI (eF g e) &&& 31)) &&& 1 = 0 := by rw [nb_bit (by omega) (by omega), if_neg q1]
      refine rn_iload 58 dX9_blockade_56 rfl rfl ?_
      refine rn_aload_n 59 dX9_blockade_58 rfl rfl rfl ?_
      refine rn_get 62 (.ref 23) dX9_blockade_59 fl_X9_7 rfl rfl rfl rfl ?_
      refine rn_bipush (v := 80) 64 dX9_blockade_62 (by decide) rfl ?_
      refine rn_iald 65 (mu 23 80) dX9_blockade_64 rfl (vp_in_nI (n := 80) (by decide) (by decide)) rfl rfl ?_
      refine rn_icmp_ge 162 68 dX9_blockade_65 (by decide) rfl (fun c65 => absurd c65 (by rw [hg.2.2.1]; exact nI_ge hlt (by omega))) (fun _ => ?_)
      refine rn_iload 70 dX9_blockade_68 rfl rfl ?_
      refine rn_if_eq 162 73 dX9_blockade_70 (by decide) rfl (fun c70 => absurd c70 (by decide)) (fun _ => ?_)
      refine rn_iload 75 dX9_blockade_73 rfl rfl ?_
      refine rn_aload_n 76 dX9_blockade_75 rfl rfl rfl ?_
      refine rn_iload 78 dX9_blockade_76 rfl rfl ?_
      refine rn_iconst (v := 0) 79 dX9_blockade_78 (by decide) rfl ?_
      refine rn_cvp mX9_of [.int (nI e), .int 0] [.int (nI X)] 82 (.int (nI (eF g e))) dX9_blockade_79 cv_X9_46 rfl rfl rfl (by simp [Value.category]) rfl (c_ofe d h hg (w := 0) hlt (by omega)) ?_
      refine rn_ishr 83 dX9_blockade_82 rfl ?_
      refine rn_iconst (v := 1) 84 dX9_blockade_83 (by decide) rfl ?_
      refine rn_iand 85 dX9_blockade_84 rfl ?_
      rw [b1]
      refine rn_iconst (v := 1) 86 dX9_blockade_85 (by decide) rfl ?_
      refine rn_icmp_ne 108 89 dX9_blockade_86 (by decide) rfl (fun _ => ?_) (fun c86 => absurd c86 (by decide))
      refine rn_iconst (v := 0) 109 dX9_blockade_108 (by decide) rfl ?_
      refine rn_istore 111 [some (.ref 22), some (.int (nI u)), some (.int (nI v)), some (.int w0), some (.int (nI X)), some (.int 1), some (.int (nI c)), some (.int (nI e)), some (.int 0)] dX9_blockade_109 rfl (Nat.le_of_ble_eq_true rfl) rfl ?_
      refine rn_iload 113 dX9_blockade_111 rfl rfl ?_
      refine rn_if_eq 128 116 dX9_blockade_113 (by decide) rfl (fun _ => ?_) (fun c113 => absurd (by decide) c113)
      refine rn_iconst (v := 1) 129 dX9_blockade_128 (by decide) rfl ?_
      refine rn_goto 133 dX9_blockade_129 (by decide) ?_
      refine rn_istore 135 [some (.ref 22), some (.int (nI u)), some (.int (nI v)), some (.int w0), some (.int (nI X)), some (.int 1), some (.int (nI c)), some (.int (nI e)), some (.int 0)] dX9_blockade_133 rfl (Nat.le_of_ble_eq_true rfl) rfl ?_
      refine rn_iload 137 dX9_blockade_135 rfl rfl ?_
      refine rn_iload 139 dX9_blockade_137 rfl rfl ?_
      refine rn_if_eq 152 142 dX9_blockade_139 (by decide) rfl (fun _ => ?_) (fun c139 => absurd (by decide) c139)
      refine rn_iconst (v := 0) 153 dX9_blockade_152 (by decide) rfl ?_
      refine rn_iadd 154 dX9_blockade_153 rfl ?_
      rw [show nI c + 0 = nI c from nI_add _ 0]
      refine rn_istore 156 [some (.ref 22), some (.int (nI u)), some (.int (nI v)), some (.int w0), some (.int (nI X)), some (.int 1), some (.int (nI c)), some (.int (nI e)), some (.int 0)] dX9_blockade_154 rfl (Nat.le_of_ble_eq_true rfl) rfl ?_
      refine rn_iinc (v := (nI (e + 1))) 159 [some (.ref 22), some (.int (nI u)), some (.int (nI v)), some (.int w0), some (.int (nI X)), some (.int 1), some (.int (nI c)), some (.int (nI (e + 1))), some (.int 0)] dX9_blockade_156 rfl (nI_1 _) rfl rfl ?_
      refine rn_goto 56 dX9_blockade_159 (by decide) ?_
      refine rn_drop 8 [some (.ref 22), some (.int (nI u)), some (.int (nI v)), some (.int w0), some (.int (nI X)), some (.int 1), some (.int (nI c)), some (.int (nI (e + 1))), none] rfl ?_
      exact ih (e + 1) (by omega) c (bdr_0 hc (fun z => q1 z.1))

set_option maxRecDepth 100000 in
set_option maxHeartbeats 2000000 in
theorem lp_mblk (d : Nat) {g : List Ed} {u v : Nat} (hu : u < 8) (hv : v < 8) {mu : Nat → Nat → Int32} (h : Int64) (hg : mg g mu) : ∀ (k X : Nat), X + k = 256 → rn_R none mX9_blockade (d + 2) 16 [some (.ref 22), some (.int (nI u)), some (.int (nI v)), some (.int (oI (bkk g u v X))), some (.int (nI X)), none, none, none, none] [] mu h (pq (some (.int (oI (bkk g u v 256)))) mu h) := by
  intro k
  induction k with
  | zero =>
    intro X hek
    refine rn_iload 18 dX9_blockade_16 rfl rfl ?_
    refine rn_sipush (v := 256) 21 dX9_blockade_18 (by decide) rfl ?_
    refine rn_icmp_ge 191 24 dX9_blockade_21 (by decide) rfl (fun _ => ?_) (fun c21 => absurd (nI_le (a := 256) (by omega) (by omega)) c21)
    refine rn_iload_n 192 dX9_blockade_191 rfl rfl rfl ?_
    exact rn_iret rfl dX9_blockade_192 (⟨by rw [show X = 256 by omega], rfl, rfl⟩)
  | succ k ih =>
    intro X hek
    have hX : X < 256 := by omega
    have h16 := hg.1
    by_cases q1 : X.testBit u = true
    · skip
      have b1 : (nI X >>> (nI u &&& 31)) &&& 1 = 1 := by rw [nb_bit (by omega) (by omega), if_pos q1]
      by_cases q2 : X.testBit v = true
      · skip
        have b2 : (nI X >>> (nI v &&& 31)) &&& 1 = 1 := by rw [nb_bit (by omega) (by omega), if_pos q2]
        refine rn_iload 18 dX9_blockade_16 rfl rfl ?_
        refine rn_sipush (v := 256) 21 dX9_blockade_18 (by decide) rfl ?_
        refine rn_icmp_ge 191 24 dX9_blockade_21 (by decide) rfl (fun c21 => absurd c21 (nI_ge (b := 256) (by omega) (by omega))) (fun _ => ?_)
        refine rn_iload 26 dX9_blockade_24 rfl rfl ?_
        refine rn_iload_n 27 dX9_blockade_26 rfl rfl rfl ?_
        refine rn_ishr 28 dX9_blockade_27 rfl ?_
        refine rn_iconst (v := 1) 29 dX9_blockade_28 (by decide) rfl ?_
        refine rn_iand 30 dX9_blockade_29 rfl ?_
        rw [b1]
        refine rn_iconst (v := 1) 31 dX9_blockade_30 (by decide) rfl ?_
        refine rn_icmp_ne 47 34 dX9_blockade_31 (by decide) rfl (fun c31 => absurd (rfl) c31) (fun _ => ?_)
        refine rn_iload 36 dX9_blockade_34 rfl rfl ?_
        refine rn_iload_n 37 dX9_blockade_36 rfl rfl rfl ?_
        refine rn_ishr 38 dX9_blockade_37 rfl ?_
        refine rn_iconst (v := 1) 39 dX9_blockade_38 (by decide) rfl ?_
        refine rn_iand 40 dX9_blockade_39 rfl ?_
        rw [b2]
        refine rn_if_ne 47 43 dX9_blockade_40 (by decide) rfl (fun _ => ?_) (fun c40 => absurd c40 (by decide))
        refine rn_iconst (v := 0) 48 dX9_blockade_47 (by decide) rfl ?_
        refine rn_istore 50 [some (.ref 22), some (.int (nI u)), some (.int (nI v)), some (.int (oI (bkk g u v X))), some (.int (nI X)), some (.int 0), none, none, none] dX9_blockade_48 rfl (Nat.le_of_ble_eq_true rfl) rfl ?_
        refine rn_iconst (v := 0) 51 dX9_blockade_50 (by decide) rfl ?_
        refine rn_istore 53 [some (.ref 22), some (.int (nI u)), some (.int (nI v)), some (.int (oI (bkk g u v X))), some (.int (nI X)), some (.int 0), some (.int 0), none, none] dX9_blockade_51 rfl (Nat.le_of_ble_eq_true rfl) rfl ?_
        refine rn_iconst (v := 0) 54 dX9_blockade_53 (by decide) rfl ?_
        refine rn_istore 56 [some (.ref 22), some (.int (nI u)), some (.int (nI v)), some (.int (oI (bkk g u v X))), some (.int (nI X)), some (.int 0), some (.int 0), some (.int 0), none] dX9_blockade_54 rfl (Nat.le_of_ble_eq_true rfl) rfl ?_
        refine rn_iload 58 dX9_blockade_56 rfl rfl ?_
        refine rn_aload_n 59 dX9_blockade_58 rfl rfl rfl ?_
        refine rn_get 62 (.ref 23) dX9_blockade_59 fl_X9_7 rfl rfl rfl rfl ?_
        refine rn_bipush (v := 80) 64 dX9_blockade_62 (by decide) rfl ?_
        refine rn_iald 65 (mu 23 80) dX9_blockade_64 rfl (vp_in_nI (n := 80) (by decide) (by decide)) rfl rfl ?_
        refine rn_icmp_ge 162 68 dX9_blockade_65 (by decide) rfl (fun c65 => ?_) (fun c65 => ?_)
        · skip
          refine rn_iload 164 dX9_blockade_162 rfl rfl ?_
          refine rn_if_eq 183 167 dX9_blockade_164 (by decide) rfl (fun _ => ?_) (fun c164 => absurd (by decide) c164)
          refine rn_iload_n 184 dX9_blockade_183 rfl rfl rfl ?_
          refine rn_istore_n 185 [some (.ref 22), some (.int (nI u)), some (.int (nI v)), some (.int (oI (bkk g u v X))), some (.int (nI X)), some (.int 0), some (.int 0), some (.int 0), none] dX9_blockade_184 rfl rfl (Nat.le_of_ble_eq_true rfl) rfl ?_
          refine rn_iinc (v := (nI (X + 1))) 188 [some (.ref 22), some (.int (nI u)), some (.int (nI v)), some (.int (oI (bkk g u v X))), some (.int (nI (X + 1))), some (.int 0), some (.int 0), some (.int 0), none] dX9_blockade_185 rfl (nI_1 _) rfl rfl ?_
          refine rn_goto 16 dX9_blockade_188 (by decide) ?_
          refine rn_drop 5 [some (.ref 22), some (.int (nI u)), some (.int (nI v)), some (.int (oI (bkk g u v X))), some (.int (nI (X + 1))), none, some (.int 0), some (.int 0), none] rfl ?_
          refine rn_drop 6 [some (.ref 22), some (.int (nI u)), some (.int (nI v)), some (.int (oI (bkk g u v X))), some (.int (nI (X + 1))), none, none, some (.int 0), none] rfl ?_
          refine rn_drop 7 [some (.ref 22), some (.int (nI u)), some (.int (nI v)), some (.int (oI (bkk g u v X))), some (.int (nI (X + 1))), none, none, none, none] rfl ?_
          have z := ih (X + 1) (by omega)
          rw [show bkk g u v (X + 1) = bkk g u v X from by show (if _ then bkS (bkk g u v X) (bdr g X g.length) else bkk g u v X) = _; rw [if_neg (fun z => z.2 q2)]] at z
          exact z
        · skip
          refine rn_iload 70 dX9_blockade_68 rfl rfl ?_
          refine rn_if_eq 162 73 dX9_blockade_70 (by decide) rfl (fun _ => ?_) (fun c70 => absurd (by decide) c70)
          refine rn_iload 164 dX9_blockade_162 rfl rfl ?_
          refine rn_if_eq 183 167 dX9_blockade_164 (by decide) rfl (fun _ => ?_) (fun c164 => absurd (by decide) c164)
          refine rn_iload_n 184 dX9_blockade_183 rfl rfl rfl ?_
          refine rn_istore_n 185 [some (.ref 22), some (.int (nI u)), some (.int (nI v)), some (.int (oI (bkk g u v X))), some (.int (nI X)), some (.int 0), some (.int 0), some (.int 0), none] dX9_blockade_184 rfl rfl (Nat.le_of_ble_eq_true rfl) rfl ?_
          refine rn_iinc (v := (nI (X + 1))) 188 [some (.ref 22), some (.int (nI u)), some (.int (nI v)), some (.int (oI (bkk g u v X))), some (.int (nI (X + 1))), some (.int 0), some (.int 0), some (.int 0), none] dX9_blockade_185 rfl (nI_1 _) rfl rfl ?_
          refine rn_goto 16 dX9_blockade_188 (by decide) ?_
          refine rn_drop 5 [some (.ref 22), some (.int (nI u)), some (.int (nI v)), some (.int (oI (bkk g u v X))), some (.int (nI (X + 1))), none, some (.int 0), some (.int 0), none] rfl ?_
          refine rn_drop 6 [some (.ref 22), some (.int (nI u)), some (.int (nI v)), some (.int (oI (bkk g u v X))), some (.int (nI (X + 1))), none, none, some (.int 0), none] rfl ?_
          refine rn_drop 7 [some (.ref 22), some (.int (nI u)), some (.int (nI v)), some (.int (oI (bkk g u v X))), some (.int (nI (X + 1))), none, none, none, none] rfl ?_
          have z := ih (X + 1) (by omega)
          rw [show bkk g u v (X + 1) = bkk g u v X from by show (if _ then bkS (bkk g u v X) (bdr g X g.length) else bkk g u v X) = _; rw [if_neg (fun z => z.2 q2)]] at z
          exact z
      · skip
        have b2 : (nI X >>> (nI v &&& 31)) &&& 1 = 0 := by rw [nb_bit (by omega) (by omega), if_neg q2]
        refine rn_iload 18 dX9_blockade_16 rfl rfl ?_
        refine rn_sipush (v := 256) 21 dX9_blockade_18 (by decide) rfl ?_
        refine rn_icmp_ge 191 24 dX9_blockade_21 (by decide) rfl (fun c21 => absurd c21 (nI_ge (b := 256) (by omega) (by omega))) (fun _ => ?_)
        refine rn_iload 26 dX9_blockade_24 rfl rfl ?_
        refine rn_iload_n 27 dX9_blockade_26 rfl rfl rfl ?_
        refine rn_ishr 28 dX9_blockade_27 rfl ?_
        refine rn_iconst (v := 1) 29 dX9_blockade_28 (by decide) rfl ?_
        refine rn_iand 30 dX9_blockade_29 rfl ?_
        rw [b1]
        refine rn_iconst (v := 1) 31 dX9_blockade_30 (by decide) rfl ?_
        refine rn_icmp_ne 47 34 dX9_blockade_31 (by decide) rfl (fun c31 => absurd (rfl) c31) (fun _ => ?_)
        refine rn_iload 36 dX9_blockade_34 rfl rfl ?_
        refine rn_iload_n 37 dX9_blockade_36 rfl rfl rfl ?_
        refine rn_ishr 38 dX9_blockade_37 rfl ?_
        refine rn_iconst (v := 1) 39 dX9_blockade_38 (by decide) rfl ?_
        refine rn_iand 40 dX9_blockade_39 rfl ?_
        rw [b2]
        refine rn_if_ne 47 43 dX9_blockade_40 (by decide) rfl (fun c40 => absurd (rfl) c40) (fun _ => ?_)
        refine rn_iconst (v := 1) 44 dX9_blockade_43 (by decide) rfl ?_
        refine rn_goto 48 dX9_blockade_44 (by decide) ?_
        refine rn_istore 50 [some (.ref 22), some (.int (nI u)), some (.int (nI v)), some (.int (oI (bkk g u v X))), some (.int (nI X)), some (.int 1), none, none, none] dX9_blockade_48 rfl (Nat.le_of_ble_eq_true rfl) rfl ?_
        refine rn_iconst (v := 0) 51 dX9_blockade_50 (by decide) rfl ?_
        refine rn_istore 53 [some (.ref 22), some (.int (nI u)), some (.int (nI v)), some (.int (oI (bkk g u v X))), some (.int (nI X)), some (.int 1), some (.int 0), none, none] dX9_blockade_51 rfl (Nat.le_of_ble_eq_true rfl) rfl ?_
        refine rn_iconst (v := 0) 54 dX9_blockade_53 (by decide) rfl ?_
        refine rn_istore 56 [some (.ref 22), some (.int (nI u)), some (.int (nI v)), some (.int (oI (bkk g u v X))), some (.int (nI X)), some (.int 1), some (.int 0), some (.int 0), none] dX9_blockade_54 rfl (Nat.le_of_ble_eq_true rfl) rfl ?_
        refine lp_mbord (d + 1) hX hg (fun c hb => ?_) (fun c hb => ?_) g.length 0 (by omega) 0 rfl
        · skip
          have hc := bdr_le hg.2.1 _ _ (Nat.le_refl _) hb
          cases hk : bkk g u v X with
          | none =>
            show rn_R _ mX9_blockade _ 162 [some (.ref 22), some (.int (nI u)), some (.int (nI v)), some (.int (oI none)), some (.int (nI X)), some (.int 1), some (.int (nI c)), none, none] [] mu h _
            refine rn_iload 164 dX9_blockade_162 rfl rfl ?_
            refine rn_if_eq 183 167 dX9_blockade_164 (by decide) rfl (fun c164 => absurd c164 (by decide)) (fun _ => ?_)
            refine rn_iload_n 168 dX9_blockade_167 rfl rfl rfl ?_
            refine rn_iconst (v := (-1)) 169 dX9_blockade_168 (by decide) rfl ?_
            refine rn_icmp_eq 178 172 dX9_blockade_169 (by decide) rfl (fun _ => ?_) (fun c169 => absurd (rfl) c169)
            refine rn_iload 180 dX9_blockade_178 rfl rfl ?_
            refine rn_goto 184 dX9_blockade_180 (by decide) ?_
            refine rn_istore_n 185 [some (.ref 22), some (.int (nI u)), some (.int (nI v)), some (.int (nI c)), some (.int (nI X)), some (.int 1), some (.int (nI c)), none, none] dX9_blockade_184 rfl rfl (Nat.le_of_ble_eq_true rfl) rfl ?_
            refine rn_iinc (v := (nI (X + 1))) 188 [some (.ref 22), some (.int (nI u)), some (.int (nI v)), some (.int (nI c)), some (.int (nI (X + 1))), some (.int 1), some (.int (nI c)), none, none] dX9_blockade_185 rfl (nI_1 _) rfl rfl ?_
            refine rn_goto 16 dX9_blockade_188 (by decide) ?_
            refine rn_drop 5 [some (.ref 22), some (.int (nI u)), some (.int (nI v)), some (.int (nI c)), some (.int (nI (X + 1))), none, some (.int (nI c)), none, none] rfl ?_
            refine rn_drop 6 [some (.ref 22), some (.int (nI u)), some (.int (nI v)), some (.int (nI c)), some (.int (nI (X + 1))), none, none, none, none] rfl ?_
            have z := ih (X + 1) (by omega)
            rw [show bkk g u v (X + 1) = some c from by show (if _ then bkS (bkk g u v X) (bdr g X g.length) else bkk g u v X) = _; rw [if_pos ⟨q1, q2⟩, hb, hk]; rfl] at z
            exact z
          | some m =>
            have hm := bkk_le hg.2.1 _ _ hk
            have nm : ¬ oI (some m) = -1 := oI_ne (by omega)
            show rn_R _ mX9_blockade _ 162 [some (.ref 22), some (.int (nI u)), some (.int (nI v)), some (.int (oI (some m))), some (.int (nI X)), some (.int 1), some (.int (nI c)), none, none] [] mu h _
            by_cases q3 : c < m
            · skip
              refine rn_iload 164 dX9_blockade_162 rfl rfl ?_
              refine rn_if_eq 183 167 dX9_blockade_164 (by decide) rfl (fun c164 => absurd c164 (by decide)) (fun _ => ?_)
              refine rn_iload_n 168 dX9_blockade_167 rfl rfl rfl ?_
              refine rn_iconst (v := (-1)) 169 dX9_blockade_168 (by decide) rfl ?_
              refine rn_icmp_eq 178 172 dX9_blockade_169 (by decide) rfl (fun c169 => absurd c169 (nm)) (fun _ => ?_)
              refine rn_iload 174 dX9_blockade_172 rfl rfl ?_
              refine rn_iload_n 175 dX9_blockade_174 rfl rfl rfl ?_
              refine rn_icmp_ge 183 178 dX9_blockade_175 (by decide) rfl (fun c175 => absurd c175 (nI_ge q3 (by omega))) (fun _ => ?_)
              refine rn_iload 180 dX9_blockade_178 rfl rfl ?_
              refine rn_goto 184 dX9_blockade_180 (by decide) ?_
              refine rn_istore_n 185 [some (.ref 22), some (.int (nI u)), some (.int (nI v)), some (.int (nI c)), some (.int (nI X)), some (.int 1), some (.int (nI c)), none, none] dX9_blockade_184 rfl rfl (Nat.le_of_ble_eq_true rfl) rfl ?_
              refine rn_iinc (v := (nI (X + 1))) 188 [some (.ref 22), some (.int (nI u)), some (.int (nI v)), some (.int (nI c)), some (.int (nI (X + 1))), some (.int 1), some (.int (nI c)), none, none] dX9_blockade_185 rfl (nI_1 _) rfl rfl ?_
              refine rn_goto 16 dX9_blockade_188 (by decide) ?_
              refine rn_drop 5 [some (.ref 22), some (.int (nI u)), some (.int (nI v)), some (.int (nI c)), some (.int (nI (X + 1))), none, some (.int (nI c)), none, none] rfl ?_
              refine rn_drop 6 [some (.ref 22), some (.int (nI u)), some (.int (nI v)), some (.int (nI c)), some (.int (nI (X + 1))), none, none, none, none] rfl ?_
              have z := ih (X + 1) (by omega)
              rw [show bkk g u v (X + 1) = some c from by show (if _ then bkS (bkk g u v X) (bdr g X g.length) else bkk g u v X) = _; rw [if_pos ⟨q1, q2⟩, hb, hk]; exact if_pos q3] at z
              exact z
            · skip
              refine rn_iload 164 dX9_blockade_162 rfl rfl ?_
              refine rn_if_eq 183 167 dX9_blockade_164 (by decide) rfl (fun c164 => absurd c164 (by decide)) (fun _ => ?_)
              refine rn_iload_n 168 dX9_blockade_167 rfl rfl rfl ?_
              refine rn_iconst (v := (-1)) 169 dX9_blockade_168 (by decide) rfl ?_
              refine rn_icmp_eq 178 172 dX9_blockade_169 (by decide) rfl (fun c169 => absurd c169 (nm)) (fun _ => ?_)
              refine rn_iload 174 dX9_blockade_172 rfl rfl ?_
              refine rn_iload_n 175 dX9_blockade_174 rfl rfl rfl ?_
              refine rn_icmp_ge 183 178 dX9_blockade_175 (by decide) rfl (fun _ => ?_) (fun c175 => absurd (nI_le (by omega) (by omega)) c175)
              refine rn_iload_n 184 dX9_blockade_183 rfl rfl rfl ?_
              refine rn_istore_n 185 [some (.ref 22), some (.int (nI u)), some (.int (nI v)), some (.int (oI (some m))), some (.int (nI X)), some (.int 1), some (.int (nI c)), none, none] dX9_blockade_184 rfl rfl (Nat.le_of_ble_eq_true rfl) rfl ?_
              refine rn_iinc (v := (nI (X + 1))) 188 [some (.ref 22), some (.int (nI u)), some (.int (nI v)), some (.int (oI (some m))), some (.int (nI (X + 1))), some (.int 1), some (.int (nI c)), none, none] dX9_blockade_185 rfl (nI_1 _) rfl rfl ?_
              refine rn_goto 16 dX9_blockade_188 (by decide) ?_
              refine rn_drop 5 [some (.ref 22), some (.int (nI u)), some (.int (nI v)), some (.int (oI (some m))), some (.int (nI (X + 1))), none, some (.int (nI c)), none, none] rfl ?_
              refine rn_drop 6 [some (.ref 22), some (.int (nI u)), some (.int (nI v)), some (.int (oI (some m))), some (.int (nI (X + 1))), none, none, none, none] rfl ?_
              have z := ih (X + 1) (by omega)
              rw [show bkk g u v (X + 1) = some m from by show (if _ then bkS (bkk g u v X) (bdr g X g.length) else bkk g u v X) = _; rw [if_pos ⟨q1, q2⟩, hb, hk]; exact if_neg q3] at z
              exact z
        · skip
          refine rn_iload 164 dX9_blockade_162 rfl rfl ?_
          refine rn_if_eq 183 167 dX9_blockade_164 (by decide) rfl (fun _ => ?_) (fun c164 => absurd (by decide) c164)
          refine rn_iload_n 184 dX9_blockade_183 rfl rfl rfl ?_
          refine rn_istore_n 185 [some (.ref 22), some (.int (nI u)), some (.int (nI v)), some (.int (oI (bkk g u v X))), some (.int (nI X)), some (.int 0), some (.int c), none, none] dX9_blockade_184 rfl rfl (Nat.le_of_ble_eq_true rfl) rfl ?_
          refine rn_iinc (v := (nI (X + 1))) 188 [some (.ref 22), some (.int (nI u)), some (.int (nI v)), some (.int (oI (bkk g u v X))), some (.int (nI (X + 1))), some (.int 0), some (.int c), none, none] dX9_blockade_185 rfl (nI_1 _) rfl rfl ?_
          refine rn_goto 16 dX9_blockade_188 (by decide) ?_
          refine rn_drop 5 [some (.ref 22), some (.int (nI u)), some (.int (nI v)), some (.int (oI (bkk g u v X))), some (.int (nI (X + 1))), none, some (.int c), none, none] rfl ?_
          refine rn_drop 6 [some (.ref 22), some (.int (nI u)), some (.int (nI v)), some (.int (oI (bkk g u v X))), some (.int (nI (X + 1))), none, none, none, none] rfl ?_
          have z := ih (X + 1) (by omega)
          rw [show bkk g u v (X + 1) = bkk g u v X from by show (if _ then bkS (bkk g u v X) (bdr g X g.length) else bkk g u v X) = _; rw [if_pos ⟨q1, q2⟩, hb]; rfl] at z
          exact z
    · skip
      have b1 : (nI X >>> (nI u &&& 31)) &&& 1 = 0 := by rw [nb_bit (by omega) (by omega), if_neg q1]
      refine rn_iload 18 dX9_blockade_16 rfl rfl ?_
      refine rn_sipush (v := 256) 21 dX9_blockade_18 (by decide) rfl ?_
      refine rn_icmp_ge 191 24 dX9_blockade_21 (by decide) rfl (fun c21 => absurd c21 (nI_ge (b := 256) (by omega) (by omega))) (fun _ => ?_)
      refine rn_iload 26 dX9_blockade_24 rfl rfl ?_
      refine rn_iload_n 27 dX9_blockade_26 rfl rfl rfl ?_
      refine rn_ishr 28 dX9_blockade_27 rfl ?_
      refine rn_iconst (v := 1) 29 dX9_blockade_28 (by decide) rfl ?_
      refine rn_iand 30 dX9_blockade_29 rfl ?_
      rw [b1]
      refine rn_iconst (v := 1) 31 dX9_blockade_30 (by decide) rfl ?_
      refine rn_icmp_ne 47 34 dX9_blockade_31 (by decide) rfl (fun _ => ?_) (fun c31 => absurd c31 (by decide))
      refine rn_iconst (v := 0) 48 dX9_blockade_47 (by decide) rfl ?_
      refine rn_istore 50 [some (.ref 22), some (.int (nI u)), some (.int (nI v)), some (.int (oI (bkk g u v X))), some (.int (nI X)), some (.int 0), none, none, none] dX9_blockade_48 rfl (Nat.le_of_ble_eq_true rfl) rfl ?_
      refine rn_iconst (v := 0) 51 dX9_blockade_50 (by decide) rfl ?_
      refine rn_istore 53 [some (.ref 22), some (.int (nI u)), some (.int (nI v)), some (.int (oI (bkk g u v X))), some (.int (nI X)), some (.int 0), some (.int 0), none, none] dX9_blockade_51 rfl (Nat.le_of_ble_eq_true rfl) rfl ?_
      refine rn_iconst (v := 0) 54 dX9_blockade_53 (by decide) rfl ?_
      refine rn_istore 56 [some (.ref 22), some (.int (nI u)), some (.int (nI v)), some (.int (oI (bkk g u v X))), some (.int (nI X)), some (.int 0), some (.int 0), some (.int 0), none] dX9_blockade_54 rfl (Nat.le_of_ble_eq_true rfl) rfl ?_
      refine rn_iload 58 dX9_blockade_56 rfl rfl ?_
      refine rn_aload_n 59 dX9_blockade_58 rfl rfl rfl ?_
      refine rn_get 62 (.ref 23) dX9_blockade_59 fl_X9_7 rfl rfl rfl rfl ?_
      refine rn_bipush (v := 80) 64 dX9_blockade_62 (by decide) rfl ?_
      refine rn_iald 65 (mu 23 80) dX9_blockade_64 rfl (vp_in_nI (n := 80) (by decide) (by decide)) rfl rfl ?_
      refine rn_icmp_ge 162 68 dX9_blockade_65 (by decide) rfl (fun c65 => ?_) (fun c65 => ?_)
      · skip
        refine rn_iload 164 dX9_blockade_162 rfl rfl ?_
        refine rn_if_eq 183 167 dX9_blockade_164 (by decide) rfl (fun _ => ?_) (fun c164 => absurd (by decide) c164)
        refine rn_iload_n 184 dX9_blockade_183 rfl rfl rfl ?_
        refine rn_istore_n 185 [some (.ref 22), some (.int (nI u)), some (.int (nI v)), some (.int (oI (bkk g u v X))), some (.int (nI X)), some (.int 0), some (.int 0), some (.int 0), none] dX9_blockade_184 rfl rfl (Nat.le_of_ble_eq_true rfl) rfl ?_
        refine rn_iinc (v := (nI (X + 1))) 188 [some (.ref 22), some (.int (nI u)), some (.int (nI v)), some (.int (oI (bkk g u v X))), some (.int (nI (X + 1))), some (.int 0), some (.int 0), some (.int 0), none] dX9_blockade_185 rfl (nI_1 _) rfl rfl ?_
        refine rn_goto 16 dX9_blockade_188 (by decide) ?_
        refine rn_drop 5 [some (.ref 22), some (.int (nI u)), some (.int (nI v)), some (.int (oI (bkk g u v X))), some (.int (nI (X + 1))), none, some (.int 0), some (.int 0), none] rfl ?_
        refine rn_drop 6 [some (.ref 22), some (.int (nI u)), some (.int (nI v)), some (.int (oI (bkk g u v X))), some (.int (nI (X + 1))), none, none, some (.int 0), none] rfl ?_
        refine rn_drop 7 [some (.ref 22), some (.int (nI u)), some (.int (nI v)), some (.int (oI (bkk g u v X))), some (.int (nI (X + 1))), none, none, none, none] rfl ?_
        have z := ih (X + 1) (by omega)
        rw [show bkk g u v (X + 1) = bkk g u v X from by show (if _ then bkS (bkk g u v X) (bdr g X g.length) else bkk g u v X) = _; rw [if_neg (fun z => q1 z.1)]] at z
        exact z
      · skip
        refine rn_iload 70 dX9_blockade_68 rfl rfl ?_
        refine rn_if_eq 162 73 dX9_blockade_70 (by decide) rfl (fun _ => ?_) (fun c70 => absurd (by decide) c70)
        refine rn_iload 164 dX9_blockade_162 rfl rfl ?_
        refine rn_if_eq 183 167 dX9_blockade_164 (by decide) rfl (fun _ => ?_) (fun c164 => absurd (by decide) c164)
        refine rn_iload_n 184 dX9_blockade_183 rfl rfl rfl ?_
        refine rn_istore_n 185 [some (.ref 22), some (.int (nI u)), some (.int (nI v)), some (.int (oI (bkk g u v X))), some (.int (nI X)), some (.int 0), some (.int 0), some (.int 0), none] dX9_blockade_184 rfl rfl (Nat.le_of_ble_eq_true rfl) rfl ?_
        refine rn_iinc (v := (nI (X + 1))) 188 [some (.ref 22), some (.int (nI u)), some (.int (nI v)), some (.int (oI (bkk g u v X))), some (.int (nI (X + 1))), some (.int 0), some (.int 0), some (.int 0), none] dX9_blockade_185 rfl (nI_1 _) rfl rfl ?_
        refine rn_goto 16 dX9_blockade_188 (by decide) ?_
        refine rn_drop 5 [some (.ref 22), some (.int (nI u)), some (.int (nI v)), some (.int (oI (bkk g u v X))), some (.int (nI (X + 1))), none, some (.int 0), some (.int 0), none] rfl ?_
        refine rn_drop 6 [some (.ref 22), some (.int (nI u)), some (.int (nI v)), some (.int (oI (bkk g u v X))), some (.int (nI (X + 1))), none, none, some (.int 0), none] rfl ?_
        refine rn_drop 7 [some (.ref 22), some (.int (nI u)), some (.int (nI v)), some (.int (oI (bkk g u v X))), some (.int (nI (X + 1))), none, none, none, none] rfl ?_
        have z := ih (X + 1) (by omega)
        rw [show bkk g u v (X + 1) = bkk g u v X from by show (if _ then bkS (bkk g u v X) (bdr g X g.length) else bkk g u v X) = _; rw [if_neg (fun z => q1 z.1)]] at z
        exact z

set_option maxRecDepth 100000 in
set_option maxHeartbeats 2000000 in
theorem m_blockade_b (d : Nat) {g : List Ed} {a : Nat} {hs : List Sg} {tx : List Nat} {f : Int32} {v1 v2 : Int32} (hv : ¬ ((isin v1 8 ∧ isin v2 8))) : MC mX9_blockade (d + 2) [.int v1, .int v2] (g, a, hs, tx, f) (g, a, hs, tx, f) (.int (-2)) := by
  intro mu h hs0
  obtain ⟨hg, ha, hh, ht, hf⟩ := id hs0
  simp only at hg ha hh ht hf
  refine gd_of rfl (Nat.le_of_ble_eq_true rfl) ?_
  show rn_R none mX9_blockade (d + 2) 0 [some (.ref 22), some (.int v1), some (.int v2), none, none, none, none, none, none] [] mu h (fun r mu' _ => r = some (.int (-2)) ∧ mS (g, a, hs, tx, f) mu' ∧ ∀ c, c < 22 → mu' c = mu c)
  have qq0 : ¬ (isin v1 8 ∧ isin v2 8) := fun z => hv (z)
  refine rn_iload_n 1 dX9_blockade_0 rfl rfl rfl ?_
  refine rn_iload_n 2 dX9_blockade_1 rfl rfl rfl ?_
  refine rn_csp mX9_areNodes [.int v1, .int v2] [] 5 (.int 0) dX9_blockade_2 cs_X9_53 rfl rfl (by simp [Value.category]) rfl (c_mareNodes_f (d) mu h qq0) ?_
  refine rn_if_ne 11 8 dX9_blockade_5 (by decide) rfl (fun c5 => absurd (rfl) c5) (fun _ => ?_)
  refine rn_bipush (v := (-2)) 10 dX9_blockade_8 (by decide) rfl ?_
  exact rn_iret rfl dX9_blockade_10 (⟨rfl, hs0, fun _ _ => rfl⟩)

set_option maxRecDepth 100000 in
set_option maxHeartbeats 2000000 in
theorem m_blockade_t (d : Nat) {g : List Ed} {a : Nat} {hs : List Sg} {tx : List Nat} {f : Int32} {u v : Nat} (hu : u < 8) (hv : v < 8) : MC mX9_blockade (d + 2) [.int (nI u), .int (nI v)] (g, a, hs, tx, f) (g, a, hs, tx, f) (.int (oI (bkk g u v 256))) := by
  intro mu h hs0
  obtain ⟨hg, ha, hh, ht, hf⟩ := id hs0
  simp only at hg ha hh ht hf
  refine gd_of rfl (Nat.le_of_ble_eq_true rfl) ?_
  show rn_R none mX9_blockade (d + 2) 0 [some (.ref 22), some (.int (nI u)), some (.int (nI v)), none, none, none, none, none, none] [] mu h (fun r mu' _ => r = some (.int (oI (bkk g u v 256))) ∧ mS (g, a, hs, tx, f) mu' ∧ ∀ c, c < 22 → mu' c = mu c)
  refine rn_iload_n 1 dX9_blockade_0 rfl rfl rfl ?_
  refine rn_iload_n 2 dX9_blockade_1 rfl rfl rfl ?_
  refine rn_csp mX9_areNodes [.int (nI u), .int (nI v)] [] 5 (.int 1) dX9_blockade_2 cs_X9_53 rfl rfl (by simp [Value.category]) rfl (c_mareNodes_t (d) mu h ⟨u, hu, rfl⟩ ⟨v, hv, rfl⟩) ?_
  refine rn_if_ne 11 8 dX9_blockade_5 (by decide) rfl (fun _ => ?_) (fun c5 => absurd c5 (by decide))
  refine rn_iconst (v := (-1)) 12 dX9_blockade_11 (by decide) rfl ?_
  refine rn_istore_n 13 [some (.ref 22), some (.int (nI u)), some (.int (nI v)), some (.int (-1)), none, none, none, none, none] dX9_blockade_12 rfl rfl (Nat.le_of_ble_eq_true rfl) rfl ?_
  refine rn_iconst (v := 0) 14 dX9_blockade_13 (by decide) rfl ?_
  refine rn_istore 16 [some (.ref 22), some (.int (nI u)), some (.int (nI v)), some (.int (-1)), some (.int 0), none, none, none, none] dX9_blockade_14 rfl (Nat.le_of_ble_eq_true rfl) rfl ?_
  exact rn_mono (lp_mblk d hu hv h hg 256 0 (by omega)) (fun r m2 h2 q => ⟨q.1, q.2.1 ▸ hs0, fun c hc => by rw [q.2.1]⟩)

theorem op_blockade (v1 v2 : Int32) : OP mX8_blockade mX9_blockade [.int v1, .int v2] := by
  rintro ⟨g, a, hs, tx, f⟩
  by_cases hv : isin v1 8 ∧ isin v2 8
  · obtain ⟨⟨u, hu, rfl⟩, v, hv, rfl⟩ := hv
    exact ⟨_, _, x_blockade_t 97 hu hv, m_blockade_t 98 hu hv⟩
  · exact ⟨_, _, x_blockade_b 98 hv, m_blockade_b 98 hv⟩
