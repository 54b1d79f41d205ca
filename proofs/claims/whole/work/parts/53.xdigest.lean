/-! BOTH SIDES: digest -/
def hx (h : Int64) (v : Int32) : Int64 := 31 * h + v.toInt64
def hF (f : Nat → Int32) : Nat → Int64 → Int64
  | 0, h => h
  | k + 1, h => hx (hF f k h) (f k)
def edV (g : List Ed) (a e w : Nat) : Nat := if w < 5 then eP g e w else if a.testBit e then 1 else 0
def vgC (g : List Ed) (a : Nat) (hs : List Sg) (tx : List Nat) (w : Nat) : Int32 := nI (ctV g a hs tx w)
def vgE (g : List Ed) (a j : Nat) : Int32 := nI (edV g a (j / 6) (j % 6))
def vgD (g : List Ed) (a j : Nat) : Int32 := nI (xD g a (j / 8) (j % 8) 0)
def vgT (tx : List Nat) (i : Nat) : Int32 := nI (tx.getD i 0)
def dgV (g : List Ed) (a : Nat) (hs : List Sg) (tx : List Nat) (f : Int32) : Int64 := hF (vgT tx) tx.length (hx (hF (vgD g a) 64 (hF (vgE g a) (6 * g.length) (hF (vgC g a hs tx) 7 61))) f)
theorem xt_at {tx : List Nat} {i : Nat} (hi : i < tx.length) : tx[i]? = some (tx.getD i 0) := by
  rw [List.getD_eq_getElem?_getD, List.getElem?_eq_getElem hi]; rfl
theorem c_xedge (d : Nat) {g : List Ed} {a : Nat} {hs : List Sg} {tx : List Nat} {f : Int32} {mu : Nat → Nat → Int32} (h : Int64) (hs0 : xS (g, a, hs, tx, f) mu) {e w : Nat} (he : e < g.length) (hw : w < 6) : gd_G mX8_edge (d + 2) [.ref 0, .int (nI e), .int (nI w)] mu h (fun r mu' _ => r = some (.int (nI (edV g a e w))) ∧ xS (g, a, hs, tx, f) mu' ∧ ∀ c, 22 ≤ c → mu' c = mu c) := by
  rcases Nat.lt_or_ge w 5 with q | q
  · have e1 : edV g a e w = eP g e w := if_pos q
    rw [e1]
    exact x_edge_p d he q mu h hs0
  · obtain rfl : w = 5 := by omega
    have e1 : (Value.int (nI (edV g a e 5))) = .int (if a.testBit e then 1 else 0) := by
      show Value.int (nI (if a.testBit e then 1 else 0)) = _
      split <;> rfl
    rw [e1]
    exact x_edge_a (d + 1) he mu h hs0

set_option maxRecDepth 100000 in
set_option maxHeartbeats 2000000 in
theorem lp_dg4 (d : Nat) {g : List Ed} {a : Nat} {hs : List Sg} {tx : List Nat} {f : Int32} {mu0 : Nat → Nat → Int32} {H : Int64} : ∀ (k e : Nat) (mu : Nat → Nat → Int32) (h : Int64), e + k = tx.length → (xS (g, a, hs, tx, f) mu) → (∀ c, 22 ≤ c → mu c = mu0 c) → rn_R none mX8_digest (d + 5) 157 [some (.ref 0), some (.long (hF (vgT tx) e H)), none, some (.int (nI e)), none] [] mu h (fun r mu' _ => r = some (.long (hF (vgT tx) tx.length H)) ∧ xS (g, a, hs, tx, f) mu' ∧ ∀ c, 22 ≤ c → mu' c = mu0 c) := by
  intro k
  induction k with
  | zero =>
    intro e mu h hek hs0 hfr
    obtain ⟨hg, ha, hh, ht, hf⟩ := id hs0
    simp only at hg ha hh ht hf
    refine rn_iload_n 158 dX8_digest_157 rfl rfl rfl ?_
    refine rn_aload_n 159 dX8_digest_158 rfl rfl rfl ?_
    refine rn_get 162 (.ref 5) dX8_digest_159 fl_X8_26 rfl rfl rfl rfl ?_
    refine rn_get 165 (.int (mu 5 2)) dX8_digest_162 fl_X8_119 rfl rfl rfl rfl ?_
    refine rn_icmp_ge 190 168 dX8_digest_165 (by decide) rfl (fun _ => ?_) (fun c165 => absurd (by rw [ht.2.1]; exact nI_le (by omega) (by have := ht.1; omega)) c165)
    refine rn_lload_n 191 dX8_digest_190 rfl rfl rfl ?_
    exact rn_lret rfl dX8_digest_191 (⟨by rw [show e = tx.length by omega], hs0, hfr⟩)
  | succ k ih =>
    intro e mu h hek hs0 hfr
    obtain ⟨hg, ha, hh, ht, hf⟩ := id hs0
    simp only at hg ha hh ht hf
    have hlt : e < tx.length := by omega
    have h11 := ht.1
    refine rn_iload_n 158 dX8_digest_157 rfl rfl rfl ?_
    refine rn_aload_n 159 dX8_digest_158 rfl rfl rfl ?_
    refine rn_get 162 (.ref 5) dX8_digest_159 fl_X8_26 rfl rfl rfl rfl ?_
    refine rn_get 165 (.int (mu 5 2)) dX8_digest_162 fl_X8_119 rfl rfl rfl rfl ?_
    refine rn_icmp_ge 190 168 dX8_digest_165 (by decide) rfl (fun c165 => absurd c165 (by rw [ht.2.1]; exact nI_ge hlt (by omega))) (fun _ => ?_)
    refine rn_ldc2 171 dX8_digest_168 kc_X8_229 rfl ?_
    refine rn_lload_n 172 dX8_digest_171 rfl rfl rfl ?_
    refine rn_lmul 173 dX8_digest_172 rfl ?_
    refine rn_aload_n 174 dX8_digest_173 rfl rfl rfl ?_
    refine rn_get 177 (.ref 5) dX8_digest_174 fl_X8_26 rfl rfl rfl rfl ?_
    refine rn_iload_n 178 dX8_digest_177 rfl rfl rfl ?_
    refine rn_cvp mX6_letterAt [.int (nI e)] [.long (31 * (hF (vgT tx) e H))] 181 (.int (nI (tx.getD e 0))) dX8_digest_178 cv_X8_243 rfl rfl rfl (by simp [Value.category]) rfl ((show lt tx e = nI (tx.getD e 0) from by unfold lt; rw [xt_at hlt]) ▸ c_letterAt (d + 4) h ht (p := e) (by omega)) ?_
    refine rn_i2l 182 dX8_digest_181 rfl ?_
    refine rn_ladd 183 dX8_digest_182 rfl ?_
    refine rn_lstore_n 184 [some (.ref 0), some (.long ((31 * (hF (vgT tx) e H)) + ((nI (tx.getD e 0)).toInt64))), none, some (.int (nI e)), none] dX8_digest_183 rfl rfl (Nat.le_of_ble_eq_true rfl) rfl ?_
    refine rn_iinc (v := (nI (e + 1))) 187 [some (.ref 0), some (.long ((31 * (hF (vgT tx) e H)) + ((nI (tx.getD e 0)).toInt64))), none, some (.int (nI (e + 1))), none] dX8_digest_184 rfl (nI_1 _) rfl rfl ?_
    refine rn_goto 157 dX8_digest_187 (by decide) ?_
    exact ih (e + 1) mu h (by omega) hs0 hfr

set_option maxRecDepth 100000 in
set_option maxHeartbeats 2000000 in
theorem lp_dgi (d : Nat) {g : List Ed} {a : Nat} {H : Int64} {s : Nat} {mu : Nat → Nat → Int32} {h : Int64} {Q : rn_Q} (hs : s < 8) (ho : ∀ x ∈ g, e_ok x) (hR : RD (rlay g a s 0).1 (rlay g a s 0).2 mu) (kk : rn_R none mX8_digest (d + 5) 137 [some (.ref 0), some (.long (hF (vgD g a) (8 * s + 8) H)), none, some (.int (nI s)), none] [] mu h Q) : ∀ (k t : Nat), t + k = 8 → rn_R none mX8_digest (d + 5) 107 [some (.ref 0), some (.long (hF (vgD g a) (8 * s + t) H)), none, some (.int (nI s)), some (.int (nI t))] [] mu h (Q) := by
  intro k
  induction k with
  | zero =>
    intro t hek
    refine rn_iload 109 dX8_digest_107 rfl rfl ?_
    refine rn_bipush (v := 8) 111 dX8_digest_109 (by decide) rfl ?_
    refine rn_icmp_ge 137 114 dX8_digest_111 (by decide) rfl (fun _ => ?_) (fun c111 => absurd (nI_le (a := 8) (by omega) (by omega)) c111)
    obtain rfl : t = 8 := by omega
    refine rn_drop 4 [some (.ref 0), some (.long (hF (vgD g a) (8 * s + 8) H)), none, some (.int (nI s)), none] rfl ?_
    exact kk
  | succ k ih =>
    intro t hek
    have ht : t < 8 := by omega
    have ev : vgD g a (8 * s + t) = nI (xD g a s t 0) := by unfold vgD; rw [show (8 * s + t) / 8 = s by omega, show (8 * s + t) % 8 = t by omega]
    have eh : hF (vgD g a) (8 * s + (t + 1)) H = 31 * hF (vgD g a) (8 * s + t) H + (nI (xD g a s t 0)).toInt64 := by rw [← ev]; rfl
    refine rn_iload 109 dX8_digest_107 rfl rfl ?_
    refine rn_bipush (v := 8) 111 dX8_digest_109 (by decide) rfl ?_
    refine rn_icmp_ge 137 114 dX8_digest_111 (by decide) rfl (fun c111 => absurd c111 (nI_ge (b := 8) (by omega) (by omega))) (fun _ => ?_)
    refine rn_ldc2 117 dX8_digest_114 kc_X8_229 rfl ?_
    refine rn_lload_n 118 dX8_digest_117 rfl rfl rfl ?_
    refine rn_lmul 119 dX8_digest_118 rfl ?_
    refine rn_aload_n 120 dX8_digest_119 rfl rfl rfl ?_
    refine rn_get 123 (.ref 8) dX8_digest_120 fl_X8_35 rfl rfl rfl rfl ?_
    refine rn_iload 125 dX8_digest_123 rfl rfl ?_
    refine rn_cvp mX5_distanceTo [.int (nI t)] [.long (31 * (hF (vgD g a) (8 * s + t) H))] 128 (.int (nI (xD g a s t 0))) dX8_digest_125 cv_X8_240 rfl rfl rfl (by simp [Value.category]) rfl ((xD_r g a s t ▸ c_distanceTo (d + 4) h hR ht)) ?_
    refine rn_i2l 129 dX8_digest_128 rfl ?_
    refine rn_ladd 130 dX8_digest_129 rfl ?_
    refine rn_lstore_n 131 [some (.ref 0), some (.long ((31 * (hF (vgD g a) (8 * s + t) H)) + ((nI (xD g a s t 0)).toInt64))), none, some (.int (nI s)), some (.int (nI t))] dX8_digest_130 rfl rfl (Nat.le_of_ble_eq_true rfl) rfl ?_
    refine rn_iinc (v := (nI (t + 1))) 134 [some (.ref 0), some (.long ((31 * (hF (vgD g a) (8 * s + t) H)) + ((nI (xD g a s t 0)).toInt64))), none, some (.int (nI s)), some (.int (nI (t + 1)))] dX8_digest_131 rfl (nI_1 _) rfl rfl ?_
    refine rn_goto 107 dX8_digest_134 (by decide) ?_
    have z := ih (t + 1) (by omega)
    rw [eh] at z
    exact z

set_option maxRecDepth 100000 in
set_option maxHeartbeats 2000000 in
theorem lp_dg3 (d : Nat) {g : List Ed} {a : Nat} {hs : List Sg} {tx : List Nat} {f : Int32} {mu0 : Nat → Nat → Int32} {H : Int64} : ∀ (k s : Nat) (mu : Nat → Nat → Int32) (h : Int64), s + k = 8 → (xS (g, a, hs, tx, f) mu) → (∀ c, 22 ≤ c → mu c = mu0 c) → rn_R none mX8_digest (d + 5) 82 [some (.ref 0), some (.long (hF (vgD g a) (8 * s) H)), none, some (.int (nI s)), none] [] mu h (fun r mu' _ => r = some (.long (hF (vgT tx) tx.length (hx (hF (vgD g a) 64 H) f))) ∧ xS (g, a, hs, tx, f) mu' ∧ ∀ c, 22 ≤ c → mu' c = mu0 c) := by
  intro k
  induction k with
  | zero =>
    intro s mu h hek hs0 hfr
    obtain ⟨hg, ha, hh, ht, hf⟩ := id hs0
    simp only at hg ha hh ht hf
    refine rn_iload_n 83 dX8_digest_82 rfl rfl rfl ?_
    refine rn_bipush (v := 8) 85 dX8_digest_83 (by decide) rfl ?_
    refine rn_icmp_ge 143 88 dX8_digest_85 (by decide) rfl (fun _ => ?_) (fun c85 => absurd (nI_le (a := 8) (by omega) (by omega)) c85)
    obtain rfl : s = 8 := by omega
    refine rn_drop 3 [some (.ref 0), some (.long (hF (vgD g a) (8 * 8) H)), none, none, none] rfl ?_
    refine rn_ldc2 146 dX8_digest_143 kc_X8_229 rfl ?_
    refine rn_lload_n 147 dX8_digest_146 rfl rfl rfl ?_
    refine rn_lmul 148 dX8_digest_147 rfl ?_
    refine rn_aload_n 149 dX8_digest_148 rfl rfl rfl ?_
    refine rn_get 152 (.int (mu 0 8)) dX8_digest_149 fl_X8_71 rfl rfl rfl rfl ?_
    rw [hf]
    refine rn_i2l 153 dX8_digest_152 rfl ?_
    refine rn_ladd 154 dX8_digest_153 rfl ?_
    refine rn_lstore_n 155 [some (.ref 0), some (.long ((31 * (hF (vgD g a) (8 * 8) H)) + ((f).toInt64))), none, none, none] dX8_digest_154 rfl rfl (Nat.le_of_ble_eq_true rfl) rfl ?_
    refine rn_iconst (v := 0) 156 dX8_digest_155 (by decide) rfl ?_
    refine rn_istore_n 157 [some (.ref 0), some (.long ((31 * (hF (vgD g a) (8 * 8) H)) + ((f).toInt64))), none, some (.int 0), none] dX8_digest_156 rfl rfl (Nat.le_of_ble_eq_true rfl) rfl ?_
    exact lp_dg4 d (mu0 := mu0) tx.length 0 mu h (by omega) hs0 hfr
  | succ k ih =>
    intro s mu h hek hs0 hfr
    obtain ⟨hg, ha, hh, ht, hf⟩ := id hs0
    simp only at hg ha hh ht hf
    have hp := pw_le hg.1
    have ha2 := ha.2
    have hs8 : s < 8 := by omega
    refine rn_iload_n 83 dX8_digest_82 rfl rfl rfl ?_
    refine rn_bipush (v := 8) 85 dX8_digest_83 (by decide) rfl ?_
    refine rn_icmp_ge 143 88 dX8_digest_85 (by decide) rfl (fun c85 => absurd c85 (nI_ge (b := 8) (by omega) (by omega))) (fun _ => ?_)
    refine rn_aload_n 89 dX8_digest_88 rfl rfl rfl ?_
    refine rn_get 92 (.ref 8) dX8_digest_89 fl_X8_35 rfl rfl rfl rfl ?_
    refine rn_iload_n 93 dX8_digest_92 rfl rfl rfl ?_
    refine rn_aload_n 94 dX8_digest_93 rfl rfl rfl ?_
    refine rn_get 97 (.ref 1) dX8_digest_94 fl_X8_10 rfl rfl rfl rfl ?_
    refine rn_get 100 (.int (mu 1 2)) dX8_digest_97 fl_X8_111 rfl rfl rfl rfl ?_
    rw [ha.1]
    refine rn_iconst (v := 0) 101 dX8_digest_100 (by decide) rfl ?_
    refine rn_callV mX5_run [.int (nI s), .int (nI a), .int 0] [] dX8_digest_101 cv_X8_237 rfl rfl rfl (by simp [Value.category]) (c_run (d + 3) (S := a) (s := s) (rep := 0) (by omega) hs8 (by omega) h hg) (fun r1 m1 h1 q1 _ => ?_)
    obtain ⟨e1, R1, W1, f1⟩ := q1
    subst e1
    have hg1 : xg g m1 := xg_fr hg f1
    show rn_R _ mX8_digest _ 104 [some (.ref 0), some (.long (hF (vgD g a) (8 * s) H)), none, some (.int (nI s)), none] [] m1 h1 _
    refine rn_iconst (v := 0) 105 dX8_digest_104 (by decide) rfl ?_
    refine rn_istore 107 [some (.ref 0), some (.long (hF (vgD g a) (8 * s) H)), none, some (.int (nI s)), some (.int 0)] dX8_digest_105 rfl (Nat.le_of_ble_eq_true rfl) rfl ?_
    rw [ee0] at R1
    refine lp_dgi d (g := g) (a := a) (s := s) (H := H) hs8 hg.2.1 R1 ?_ 8 0 (by omega)
    refine rn_iinc (v := (nI (s + 1))) 140 [some (.ref 0), some (.long (hF (vgD g a) (8 * s + 8) H)), none, some (.int (nI (s + 1))), none] dX8_digest_137 rfl (nI_1 _) rfl rfl ?_
    refine rn_goto 82 dX8_digest_140 (by decide) ?_
    exact ih (s + 1) m1 h1 (by omega) (xS_fr hs0 (fun c hc => f1 c (by omega))) (fun c hc => by rw [f1 c (by omega)]; exact hfr c hc)

set_option maxRecDepth 100000 in
set_option maxHeartbeats 2000000 in
theorem lp_dgw (d : Nat) {g : List Ed} {a : Nat} {hs : List Sg} {tx : List Nat} {f : Int32} {mu0 : Nat → Nat → Int32} {H : Int64} {e : Nat} (he : e < g.length) {Q : rn_Q} : ∀ (k w : Nat) (mu : Nat → Nat → Int32) (h : Int64), w + k = 6 → (xS (g, a, hs, tx, f) mu) → (∀ c, 22 ≤ c → mu c = mu0 c) → (∀ (mu' : Nat → Nat → Int32) (h' : Int64), xS (g, a, hs, tx, f) mu' → (∀ c, 22 ≤ c → mu' c = mu0 c) → rn_R none mX8_digest (d + 5) 74 [some (.ref 0), some (.long (hF (vgE g a) (6 * e + 6) H)), none, some (.int (nI e)), none] [] mu' h' Q) → rn_R none mX8_digest (d + 5) 47 [some (.ref 0), some (.long (hF (vgE g a) (6 * e + w) H)), none, some (.int (nI e)), some (.int (nI w))] [] mu h Q := by
  intro k
  induction k with
  | zero =>
    intro w mu h hek hs0 hfr kk
    refine rn_iload 49 dX8_digest_47 rfl rfl ?_
    refine rn_iconst (v := 5) 50 dX8_digest_49 (by decide) rfl ?_
    refine rn_icmp_gt 74 53 dX8_digest_50 (by decide) rfl (fun _ => ?_) (fun c50 => absurd (nI_lt (a := 5) (by omega) (by omega)) c50)
    obtain rfl : w = 6 := by omega
    refine rn_drop 4 [some (.ref 0), some (.long (hF (vgE g a) (6 * e + 6) H)), none, some (.int (nI e)), none] rfl ?_
    exact kk mu h hs0 hfr
  | succ k ih =>
    intro w mu h hek hs0 hfr kk
    have hw : w < 6 := by omega
    have ev : vgE g a (6 * e + w) = nI (edV g a e w) := by unfold vgE; rw [show (6 * e + w) / 6 = e by omega, show (6 * e + w) % 6 = w by omega]
    have eh : hF (vgE g a) (6 * e + (w + 1)) H = 31 * hF (vgE g a) (6 * e + w) H + (nI (edV g a e w)).toInt64 := by rw [← ev]; rfl
    refine rn_iload 49 dX8_digest_47 rfl rfl ?_
    refine rn_iconst (v := 5) 50 dX8_digest_49 (by decide) rfl ?_
    refine rn_icmp_gt 74 53 dX8_digest_50 (by decide) rfl (fun c50 => absurd c50 (nI_nlt (b := w) (a := 5) (by omega) (by omega))) (fun _ => ?_)
    refine rn_ldc2 56 dX8_digest_53 kc_X8_229 rfl ?_
    refine rn_lload_n 57 dX8_digest_56 rfl rfl rfl ?_
    refine rn_lmul 58 dX8_digest_57 rfl ?_
    refine rn_aload_n 59 dX8_digest_58 rfl rfl rfl ?_
    refine rn_iload_n 60 dX8_digest_59 rfl rfl rfl ?_
    refine rn_iload 62 dX8_digest_60 rfl rfl ?_
    refine rn_callV mX8_edge [.int (nI e), .int (nI w)] [.long (31 * (hF (vgE g a) (6 * e + w) H))] dX8_digest_62 cv_X8_234 rfl rfl rfl (by simp [Value.category]) (c_xedge (d + 2) h hs0 he hw) (fun r1 m1 h1 q1 _ => ?_)
    obtain ⟨e1, hs1, f1⟩ := q1
    subst e1
    show rn_R _ mX8_digest _ 65 [some (.ref 0), some (.long (hF (vgE g a) (6 * e + w) H)), none, some (.int (nI e)), some (.int (nI w))] [.int (nI (edV g a e w)), .long (31 * (hF (vgE g a) (6 * e + w) H))] m1 h1 _
    refine rn_i2l 66 dX8_digest_65 rfl ?_
    refine rn_ladd 67 dX8_digest_66 rfl ?_
    refine rn_lstore_n 68 [some (.ref 0), some (.long ((31 * (hF (vgE g a) (6 * e + w) H)) + ((nI (edV g a e w)).toInt64))), none, some (.int (nI e)), some (.int (nI w))] dX8_digest_67 rfl rfl (Nat.le_of_ble_eq_true rfl) rfl ?_
    refine rn_iinc (v := (nI (w + 1))) 71 [some (.ref 0), some (.long ((31 * (hF (vgE g a) (6 * e + w) H)) + ((nI (edV g a e w)).toInt64))), none, some (.int (nI e)), some (.int (nI (w + 1)))] dX8_digest_68 rfl (nI_1 _) rfl rfl ?_
    refine rn_goto 47 dX8_digest_71 (by decide) ?_
    have z := ih (w + 1) m1 h1 (by omega) hs1 (fun c hc => by rw [f1 c hc]; exact hfr c hc) kk
    rw [eh] at z
    exact z

set_option maxRecDepth 100000 in
set_option maxHeartbeats 2000000 in
theorem lp_dg2 (d : Nat) {g : List Ed} {a : Nat} {hs : List Sg} {tx : List Nat} {f : Int32} {mu0 : Nat → Nat → Int32} {H : Int64} : ∀ (k e : Nat) (mu : Nat → Nat → Int32) (h : Int64), e + k = g.length → (xS (g, a, hs, tx, f) mu) → (∀ c, 22 ≤ c → mu c = mu0 c) → rn_R none mX8_digest (d + 5) 33 [some (.ref 0), some (.long (hF (vgE g a) (6 * e) H)), none, some (.int (nI e)), none] [] mu h (fun r mu' _ => r = some (.long (hF (vgT tx) tx.length (hx (hF (vgD g a) 64 (hF (vgE g a) (6 * g.length) H)) f))) ∧ xS (g, a, hs, tx, f) mu' ∧ ∀ c, 22 ≤ c → mu' c = mu0 c) := by
  intro k
  induction k with
  | zero =>
    intro e mu h hek hs0 hfr
    obtain ⟨hg, ha, hh, ht, hf⟩ := id hs0
    simp only at hg ha hh ht hf
    refine rn_iload_n 34 dX8_digest_33 rfl rfl rfl ?_
    refine rn_aload_n 35 dX8_digest_34 rfl rfl rfl ?_
    refine rn_get 38 (.ref 1) dX8_digest_35 fl_X8_10 rfl rfl rfl rfl ?_
    refine rn_get 41 (.int (mu 1 1)) dX8_digest_38 fl_X8_82 rfl rfl rfl rfl ?_
    refine rn_icmp_ge 80 44 dX8_digest_41 (by decide) rfl (fun _ => ?_) (fun c41 => absurd (by rw [hg.2.2.1]; exact nI_le (by omega) (by have := hg.1; omega)) c41)
    obtain rfl : e = g.length := by omega
    refine rn_drop 3 [some (.ref 0), some (.long (hF (vgE g a) (6 * g.length) H)), none, none, none] rfl ?_
    refine rn_iconst (v := 0) 81 dX8_digest_80 (by decide) rfl ?_
    refine rn_istore_n 82 [some (.ref 0), some (.long (hF (vgE g a) (6 * g.length) H)), none, some (.int 0), none] dX8_digest_81 rfl rfl (Nat.le_of_ble_eq_true rfl) rfl ?_
    exact lp_dg3 d (mu0 := mu0) 8 0 mu h (by omega) hs0 hfr
  | succ k ih =>
    intro e mu h hek hs0 hfr
    obtain ⟨hg, ha, hh, ht, hf⟩ := id hs0
    simp only at hg ha hh ht hf
    have hlt : e < g.length := by omega
    have h16 := hg.1
    refine rn_iload_n 34 dX8_digest_33 rfl rfl rfl ?_
    refine rn_aload_n 35 dX8_digest_34 rfl rfl rfl ?_
    refine rn_get 38 (.ref 1) dX8_digest_35 fl_X8_10 rfl rfl rfl rfl ?_
    refine rn_get 41 (.int (mu 1 1)) dX8_digest_38 fl_X8_82 rfl rfl rfl rfl ?_
    refine rn_icmp_ge 80 44 dX8_digest_41 (by decide) rfl (fun c41 => absurd c41 (by rw [hg.2.2.1]; exact nI_ge hlt (by omega))) (fun _ => ?_)
    refine rn_iconst (v := 0) 45 dX8_digest_44 (by decide) rfl ?_
    refine rn_istore 47 [some (.ref 0), some (.long (hF (vgE g a) (6 * e) H)), none, some (.int (nI e)), some (.int 0)] dX8_digest_45 rfl (Nat.le_of_ble_eq_true rfl) rfl ?_
    refine lp_dgw d (mu0 := mu0) hlt 6 0 mu h (by omega) hs0 hfr (fun m1 h1 hs1 hfr1 => ?_)
    refine rn_iinc (v := (nI (e + 1))) 77 [some (.ref 0), some (.long (hF (vgE g a) (6 * e + 6) H)), none, some (.int (nI (e + 1))), none] dX8_digest_74 rfl (nI_1 _) rfl rfl ?_
    refine rn_goto 33 dX8_digest_77 (by decide) ?_
    exact ih (e + 1) m1 h1 (by omega) hs1 hfr1

set_option maxRecDepth 100000 in
set_option maxHeartbeats 2000000 in
theorem lp_dg1 (d : Nat) {g : List Ed} {a : Nat} {hs : List Sg} {tx : List Nat} {f : Int32} {mu0 : Nat → Nat → Int32} : ∀ (k e : Nat) (mu : Nat → Nat → Int32) (h : Int64), e + k = 7 → (xS (g, a, hs, tx, f) mu) → (∀ c, 22 ≤ c → mu c = mu0 c) → rn_R none mX8_digest (d + 5) 6 [some (.ref 0), some (.long (hF (vgC g a hs tx) e 61)), none, some (.int (nI e)), none] [] mu h (fun r mu' _ => r = some (.long (dgV g a hs tx f)) ∧ xS (g, a, hs, tx, f) mu' ∧ ∀ c, 22 ≤ c → mu' c = mu0 c) := by
  intro k
  induction k with
  | zero =>
    intro e mu h hek hs0 hfr
    refine rn_iload_n 7 dX8_digest_6 rfl rfl rfl ?_
    refine rn_bipush (v := 7) 9 dX8_digest_7 (by decide) rfl ?_
    refine rn_icmp_ge 31 12 dX8_digest_9 (by decide) rfl (fun _ => ?_) (fun c9 => absurd (nI_le (a := 7) (by omega) (by omega)) c9)
    obtain rfl : e = 7 := by omega
    refine rn_drop 3 [some (.ref 0), some (.long (hF (vgC g a hs tx) 7 61)), none, none, none] rfl ?_
    refine rn_iconst (v := 0) 32 dX8_digest_31 (by decide) rfl ?_
    refine rn_istore_n 33 [some (.ref 0), some (.long (hF (vgC g a hs tx) 7 61)), none, some (.int 0), none] dX8_digest_32 rfl rfl (Nat.le_of_ble_eq_true rfl) rfl ?_
    exact lp_dg2 d (mu0 := mu0) g.length 0 mu h (by omega) hs0 hfr
  | succ k ih =>
    intro e mu h hek hs0 hfr
    refine rn_iload_n 7 dX8_digest_6 rfl rfl rfl ?_
    refine rn_bipush (v := 7) 9 dX8_digest_7 (by decide) rfl ?_
    refine rn_icmp_ge 31 12 dX8_digest_9 (by decide) rfl (fun c9 => absurd c9 (nI_ge (b := 7) (by omega) (by omega))) (fun _ => ?_)
    refine rn_ldc2 15 dX8_digest_12 kc_X8_229 rfl ?_
    refine rn_lload_n 16 dX8_digest_15 rfl rfl rfl ?_
    refine rn_lmul 17 dX8_digest_16 rfl ?_
    refine rn_aload_n 18 dX8_digest_17 rfl rfl rfl ?_
    refine rn_iload_n 19 dX8_digest_18 rfl rfl rfl ?_
    refine rn_callV mX8_count [.int (nI e)] [.long (31 * (hF (vgC g a hs tx) e 61))] dX8_digest_19 cv_X8_231 rfl rfl rfl (by simp [Value.category]) (c_xcount (d + 1) h hs0 (by omega)) (fun r1 m1 h1 q1 _ => ?_)
    obtain ⟨e1, f1⟩ := q1
    subst e1
    show rn_R _ mX8_digest _ 22 [some (.ref 0), some (.long (hF (vgC g a hs tx) e 61)), none, some (.int (nI e)), none] [.int (nI (ctV g a hs tx e)), .long (31 * (hF (vgC g a hs tx) e 61))] m1 h1 _
    refine rn_i2l 23 dX8_digest_22 rfl ?_
    refine rn_ladd 24 dX8_digest_23 rfl ?_
    refine rn_lstore_n 25 [some (.ref 0), some (.long ((31 * (hF (vgC g a hs tx) e 61)) + ((nI (ctV g a hs tx e)).toInt64))), none, some (.int (nI e)), none] dX8_digest_24 rfl rfl (Nat.le_of_ble_eq_true rfl) rfl ?_
    refine rn_iinc (v := (nI (e + 1))) 28 [some (.ref 0), some (.long ((31 * (hF (vgC g a hs tx) e 61)) + ((nI (ctV g a hs tx e)).toInt64))), none, some (.int (nI (e + 1))), none] dX8_digest_25 rfl (nI_1 _) rfl rfl ?_
    refine rn_goto 6 dX8_digest_28 (by decide) ?_
    exact ih (e + 1) m1 h1 (by omega) (xS_fr hs0 (fun c hc => f1 c (by omega))) (fun c hc => by rw [f1 c (by omega)]; exact hfr c hc)

set_option maxRecDepth 100000 in
set_option maxHeartbeats 2000000 in
theorem x_digest (d : Nat) {g : List Ed} {a : Nat} {hs : List Sg} {tx : List Nat} {f : Int32}  : XC mX8_digest (d + 5) [] (g, a, hs, tx, f) (g, a, hs, tx, f) (.long (dgV g a hs tx f)) := by
  intro mu h hs0
  obtain ⟨hg, ha, hh, ht, hf⟩ := id hs0
  simp only at hg ha hh ht hf
  refine gd_of rfl (Nat.le_of_ble_eq_true rfl) ?_
  show rn_R none mX8_digest (d + 5) 0 [some (.ref 0), none, none, none, none] [] mu h (fun r mu' _ => r = some (.long (dgV g a hs tx f)) ∧ xS (g, a, hs, tx, f) mu' ∧ ∀ c, 22 ≤ c → mu' c = mu c)
  refine rn_ldc2 3 dX8_digest_0 kc_X8_227 rfl ?_
  refine rn_lstore_n 4 [some (.ref 0), some (.long (61)), none, none, none] dX8_digest_3 rfl rfl (Nat.le_of_ble_eq_true rfl) rfl ?_
  refine rn_iconst (v := 0) 5 dX8_digest_4 (by decide) rfl ?_
  refine rn_istore_n 6 [some (.ref 0), some (.long (61)), none, some (.int 0), none] dX8_digest_5 rfl rfl (Nat.le_of_ble_eq_true rfl) rfl ?_
  exact lp_dg1 d (mu0 := mu) 7 0 mu h (by omega) hs0 (fun _ _ => rfl)
