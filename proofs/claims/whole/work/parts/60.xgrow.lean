/-! THE CLASS: grow -/
def PG (g : List Ed) (s t rep aim : Nat) (m : Bool) (L : List (Nat × Nat)) (st : Sta) (mu0 : Nat → Nat → Int32) : rn_Q := fun r mu' _ => r = none ∧ SBm m (L.foldl (stp g s t rep aim m) st) mu' ∧ FA mu0 mu'

set_option maxRecDepth 100000 in
set_option maxHeartbeats 2000000 in
theorem lp_grow (dd : Nat) {g : List Ed} {s t B rep aim : Nat} {m : Bool} (hs : s < 8) (ht : t < 8) (hB : B ≤ 5) (hrep : rep ≤ 3) (haim : aim ≤ 9999) (hm : m = true → rep = 0 ∧ aim = 9999) {rc : Nat → Nat → Nat → List (Nat × Nat)} {S c sh dep D O : Nat} (hS : S < 2 ^ g.length) (hc : c ≤ B) (hO : O < 65536) (HR : ∀ (S2 c2 sh2 : Nat) (st2 : Sta) (mu2 : Nat → Nat → Int32) (h2 : Int64), S2 < 2 ^ g.length → c2 ≤ B → sh2 < 65536 → xg g mu2 → CFx s t B rep aim m mu2 → SBm m st2 mu2 → gd_G mX0_grow (dd + 1) [.ref 19, .int (nI S2), .int (nI c2), .int (nI sh2), .int (nI (dep + 1))] mu2 h2 (PG g s t rep aim m (rc S2 c2 sh2) st2 mu2)) {mu0 : Nat → Nat → Int32} : ∀ (k e : Nat) (cl : Nat) (st : Sta) (mu : Nat → Nat → Int32) (h : Int64), e + k = g.length → (xg g mu) → (CFx s t B rep aim m mu) → (cl < 65536) → (SBm m st mu) → (FA mu0 mu) → rn_R none mX0_grow (dd + 2) 98 [some (.ref 19), some (.int (nI S)), some (.int (nI c)), some (.int (nI sh)), some (.int (nI dep)), some (.int (nI D)), some (.int (nI O)), some (.int (nI cl)), some (.int (nI e)), none] [] mu h (PG g s t rep aim m (gwE g B S c O rc k e cl) st mu0) := by
  intro k
  induction k with
  | zero =>
    intro e cl st mu h hek hg hcf hcl hsb hfa
    refine rn_iload 100 dX0_grow_98 rfl rfl ?_
    refine rn_aload_n 101 dX0_grow_100 rfl rfl rfl ?_
    refine rn_get 104 (.ref 1) dX0_grow_101 fl_X0_43 rfl rfl rfl rfl ?_
    refine rn_get 107 (.int (mu 1 1)) dX0_grow_104 fl_X0_75 rfl rfl rfl rfl ?_
    refine rn_icmp_ge 175 110 dX0_grow_107 (by decide) rfl (fun _ => ?_) (fun c107 => absurd (by rw [hg.2.2.1]; exact nI_le (by omega) (by have := hg.1; omega)) c107)
    exact rn_vret rfl dX0_grow_175 (⟨rfl, hsb, hfa⟩)
  | succ k ih =>
    intro e cl st mu h hek hg hcf hcl hsb hfa
    have hlt : e < g.length := by omega
    have h16 := hg.1
    have hp := pw_le hg.1
    have hok := e_at hg.2.1 hlt
    obtain ⟨f1_, f2_, f3_, f4_, f5_, f6_⟩ := id hcf
    by_cases q1 : O.testBit e = true
    · skip
      have bb : (nI O >>> (nI e &&& 31)) &&& 1 = 1 := by rw [nb_bit (by omega) (by omega), if_pos q1]
      have em : gwE g B S c O rc (k + 1) e cl = (if c + eC g e ≤ B then rc (S ||| 2 ^ e) (c + eC g e) cl else []) ++ gwE g B S c O rc k (e + 1) (cl ||| 2 ^ e) := if_pos q1
      have hcl2 : cl ||| 2 ^ e < 65536 := tb_add_lt (n := 16) hcl (by omega)
      by_cases q2 : c + eC g e ≤ B
      · skip
        rw [em, if_pos q2]
        refine rn_iload 100 dX0_grow_98 rfl rfl ?_
        refine rn_aload_n 101 dX0_grow_100 rfl rfl rfl ?_
        refine rn_get 104 (.ref 1) dX0_grow_101 fl_X0_43 rfl rfl rfl rfl ?_
        refine rn_get 107 (.int (mu 1 1)) dX0_grow_104 fl_X0_75 rfl rfl rfl rfl ?_
        refine rn_icmp_ge 175 110 dX0_grow_107 (by decide) rfl (fun c107 => absurd c107 (by rw [hg.2.2.1]; exact nI_ge hlt (by omega))) (fun _ => ?_)
        refine rn_iload 112 dX0_grow_110 rfl rfl ?_
        refine rn_iload 114 dX0_grow_112 rfl rfl ?_
        refine rn_ishr 115 dX0_grow_114 rfl ?_
        refine rn_iconst (v := 1) 116 dX0_grow_115 (by decide) rfl ?_
        refine rn_iand 117 dX0_grow_116 rfl ?_
        rw [bb]
        refine rn_if_eq 169 120 dX0_grow_117 (by decide) rfl (fun c117 => absurd c117 (by decide)) (fun _ => ?_)
        refine rn_iload_n 121 dX0_grow_120 rfl rfl rfl ?_
        refine rn_aload_n 122 dX0_grow_121 rfl rfl rfl ?_
        refine rn_get 125 (.ref 1) dX0_grow_122 fl_X0_43 rfl rfl rfl rfl ?_
        refine rn_iload 127 dX0_grow_125 rfl rfl ?_
        refine rn_cvp mX2_cost [.int (nI e)] [.int (nI c)] 130 (.int (nI (eC g e))) dX0_grow_127 cv_X0_80 rfl rfl rfl (by simp [Value.category]) rfl (c_cost dd h hg hlt) ?_
        refine rn_iadd 131 dX0_grow_130 rfl ?_
        rw [nI_add]
        refine rn_istore 133 [some (.ref 19), some (.int (nI S)), some (.int (nI c)), some (.int (nI sh)), some (.int (nI dep)), some (.int (nI D)), some (.int (nI O)), some (.int (nI cl)), some (.int (nI e)), some (.int (nI (c + eC g e)))] dX0_grow_131 rfl (Nat.le_of_ble_eq_true rfl) rfl ?_
        refine rn_iload 135 dX0_grow_133 rfl rfl ?_
        refine rn_aload_n 136 dX0_grow_135 rfl rfl rfl ?_
        refine rn_get 139 (.int (mu 19 4)) dX0_grow_136 fl_X0_18 rfl rfl rfl rfl ?_
        refine rn_icmp_gt 160 142 dX0_grow_139 (by decide) rfl (fun c139 => absurd c139 (by rw [f3_]; exact nI_nlt q2 (by omega))) (fun _ => ?_)
        refine rn_aload_n 143 dX0_grow_142 rfl rfl rfl ?_
        refine rn_iload_n 144 dX0_grow_143 rfl rfl rfl ?_
        refine rn_iconst (v := 1) 145 dX0_grow_144 (by decide) rfl ?_
        refine rn_iload 147 dX0_grow_145 rfl rfl ?_
        refine rn_ishl 148 dX0_grow_147 rfl ?_
        refine rn_ior 149 dX0_grow_148 rfl ?_
        rw [nb_1 (by omega), nb_or]
        refine rn_iload 151 dX0_grow_149 rfl rfl ?_
        refine rn_iload 153 dX0_grow_151 rfl rfl ?_
        refine rn_iload 155 dX0_grow_153 rfl rfl ?_
        refine rn_iconst (v := 1) 156 dX0_grow_155 (by decide) rfl ?_
        refine rn_iadd 157 dX0_grow_156 rfl ?_
        rw [nI_1]
        refine rn_callV mX0_grow [.int (nI (S ||| 2 ^ e)), .int (nI (c + eC g e)), .int (nI cl), .int (nI (dep + 1))] [] dX0_grow_157 cv_X0_51 rfl rfl rfl (by simp [Value.category]) (HR (S ||| 2 ^ e) (c + eC g e) cl st mu h (tb_add_lt hS hlt) q2 hcl hg hcf hsb) (fun r1 m1 h1 qq _ => ?_)
        obtain ⟨e1, sb1, fa1⟩ := qq
        subst e1
        show rn_R _ mX0_grow _ 160 [some (.ref 19), some (.int (nI S)), some (.int (nI c)), some (.int (nI sh)), some (.int (nI dep)), some (.int (nI D)), some (.int (nI O)), some (.int (nI cl)), some (.int (nI e)), some (.int (nI (c + eC g e)))] [] m1 h1 _
        refine rn_iload 162 dX0_grow_160 rfl rfl ?_
        refine rn_iconst (v := 1) 163 dX0_grow_162 (by decide) rfl ?_
        refine rn_iload 165 dX0_grow_163 rfl rfl ?_
        refine rn_ishl 166 dX0_grow_165 rfl ?_
        refine rn_ior 167 dX0_grow_166 rfl ?_
        rw [nb_1 (by omega), nb_or]
        refine rn_istore 169 [some (.ref 19), some (.int (nI S)), some (.int (nI c)), some (.int (nI sh)), some (.int (nI dep)), some (.int (nI D)), some (.int (nI O)), some (.int (nI (cl ||| 2 ^ e))), some (.int (nI e)), some (.int (nI (c + eC g e)))] dX0_grow_167 rfl (Nat.le_of_ble_eq_true rfl) rfl ?_
        refine rn_iinc (v := (nI (e + 1))) 172 [some (.ref 19), some (.int (nI S)), some (.int (nI c)), some (.int (nI sh)), some (.int (nI dep)), some (.int (nI D)), some (.int (nI O)), some (.int (nI (cl ||| 2 ^ e))), some (.int (nI (e + 1))), some (.int (nI (c + eC g e)))] dX0_grow_169 rfl (nI_1 _) rfl rfl ?_
        refine rn_goto 98 dX0_grow_172 (by decide) ?_
        refine rn_drop 9 [some (.ref 19), some (.int (nI S)), some (.int (nI c)), some (.int (nI sh)), some (.int (nI dep)), some (.int (nI D)), some (.int (nI O)), some (.int (nI (cl ||| 2 ^ e))), some (.int (nI (e + 1))), none] rfl ?_
        have z := ih (e + 1) (cl ||| 2 ^ e) _ m1 h1 (by omega) (xg_FA hg fa1) (CFx_of hcf fa1) hcl2 sb1 (FA_tr hfa fa1)
        refine rn_mono z (fun r m2 h2 q => ⟨q.1, ?_, q.2.2⟩)
        rw [List.foldl_append]
        exact q.2.1
      · skip
        rw [em, if_neg q2]
        refine rn_iload 100 dX0_grow_98 rfl rfl ?_
        refine rn_aload_n 101 dX0_grow_100 rfl rfl rfl ?_
        refine rn_get 104 (.ref 1) dX0_grow_101 fl_X0_43 rfl rfl rfl rfl ?_
        refine rn_get 107 (.int (mu 1 1)) dX0_grow_104 fl_X0_75 rfl rfl rfl rfl ?_
        refine rn_icmp_ge 175 110 dX0_grow_107 (by decide) rfl (fun c107 => absurd c107 (by rw [hg.2.2.1]; exact nI_ge hlt (by omega))) (fun _ => ?_)
        refine rn_iload 112 dX0_grow_110 rfl rfl ?_
        refine rn_iload 114 dX0_grow_112 rfl rfl ?_
        refine rn_ishr 115 dX0_grow_114 rfl ?_
        refine rn_iconst (v := 1) 116 dX0_grow_115 (by decide) rfl ?_
        refine rn_iand 117 dX0_grow_116 rfl ?_
        rw [bb]
        refine rn_if_eq 169 120 dX0_grow_117 (by decide) rfl (fun c117 => absurd c117 (by decide)) (fun _ => ?_)
        refine rn_iload_n 121 dX0_grow_120 rfl rfl rfl ?_
        refine rn_aload_n 122 dX0_grow_121 rfl rfl rfl ?_
        refine rn_get 125 (.ref 1) dX0_grow_122 fl_X0_43 rfl rfl rfl rfl ?_
        refine rn_iload 127 dX0_grow_125 rfl rfl ?_
        refine rn_cvp mX2_cost [.int (nI e)] [.int (nI c)] 130 (.int (nI (eC g e))) dX0_grow_127 cv_X0_80 rfl rfl rfl (by simp [Value.category]) rfl (c_cost dd h hg hlt) ?_
        refine rn_iadd 131 dX0_grow_130 rfl ?_
        rw [nI_add]
        refine rn_istore 133 [some (.ref 19), some (.int (nI S)), some (.int (nI c)), some (.int (nI sh)), some (.int (nI dep)), some (.int (nI D)), some (.int (nI O)), some (.int (nI cl)), some (.int (nI e)), some (.int (nI (c + eC g e)))] dX0_grow_131 rfl (Nat.le_of_ble_eq_true rfl) rfl ?_
        refine rn_iload 135 dX0_grow_133 rfl rfl ?_
        refine rn_aload_n 136 dX0_grow_135 rfl rfl rfl ?_
        refine rn_get 139 (.int (mu 19 4)) dX0_grow_136 fl_X0_18 rfl rfl rfl rfl ?_
        refine rn_icmp_gt 160 142 dX0_grow_139 (by decide) rfl (fun _ => ?_) (fun c139 => absurd (by rw [f3_]; exact nI_lt (by omega) (by omega)) c139)
        refine rn_iload 162 dX0_grow_160 rfl rfl ?_
        refine rn_iconst (v := 1) 163 dX0_grow_162 (by decide) rfl ?_
        refine rn_iload 165 dX0_grow_163 rfl rfl ?_
        refine rn_ishl 166 dX0_grow_165 rfl ?_
        refine rn_ior 167 dX0_grow_166 rfl ?_
        rw [nb_1 (by omega), nb_or]
        refine rn_istore 169 [some (.ref 19), some (.int (nI S)), some (.int (nI c)), some (.int (nI sh)), some (.int (nI dep)), some (.int (nI D)), some (.int (nI O)), some (.int (nI (cl ||| 2 ^ e))), some (.int (nI e)), some (.int (nI (c + eC g e)))] dX0_grow_167 rfl (Nat.le_of_ble_eq_true rfl) rfl ?_
        refine rn_iinc (v := (nI (e + 1))) 172 [some (.ref 19), some (.int (nI S)), some (.int (nI c)), some (.int (nI sh)), some (.int (nI dep)), some (.int (nI D)), some (.int (nI O)), some (.int (nI (cl ||| 2 ^ e))), some (.int (nI (e + 1))), some (.int (nI (c + eC g e)))] dX0_grow_169 rfl (nI_1 _) rfl rfl ?_
        refine rn_goto 98 dX0_grow_172 (by decide) ?_
        refine rn_drop 9 [some (.ref 19), some (.int (nI S)), some (.int (nI c)), some (.int (nI sh)), some (.int (nI dep)), some (.int (nI D)), some (.int (nI O)), some (.int (nI (cl ||| 2 ^ e))), some (.int (nI (e + 1))), none] rfl ?_
        exact ih (e + 1) (cl ||| 2 ^ e) st mu h (by omega) hg hcf hcl2 hsb hfa
    · skip
      have bb : (nI O >>> (nI e &&& 31)) &&& 1 = 0 := by rw [nb_bit (by omega) (by omega), if_neg q1]
      have em : gwE g B S c O rc (k + 1) e cl = gwE g B S c O rc k (e + 1) cl := if_neg q1
      rw [em]
      refine rn_iload 100 dX0_grow_98 rfl rfl ?_
      refine rn_aload_n 101 dX0_grow_100 rfl rfl rfl ?_
      refine rn_get 104 (.ref 1) dX0_grow_101 fl_X0_43 rfl rfl rfl rfl ?_
      refine rn_get 107 (.int (mu 1 1)) dX0_grow_104 fl_X0_75 rfl rfl rfl rfl ?_
      refine rn_icmp_ge 175 110 dX0_grow_107 (by decide) rfl (fun c107 => absurd c107 (by rw [hg.2.2.1]; exact nI_ge hlt (by omega))) (fun _ => ?_)
      refine rn_iload 112 dX0_grow_110 rfl rfl ?_
      refine rn_iload 114 dX0_grow_112 rfl rfl ?_
      refine rn_ishr 115 dX0_grow_114 rfl ?_
      refine rn_iconst (v := 1) 116 dX0_grow_115 (by decide) rfl ?_
      refine rn_iand 117 dX0_grow_116 rfl ?_
      rw [bb]
      refine rn_if_eq 169 120 dX0_grow_117 (by decide) rfl (fun _ => ?_) (fun c117 => absurd (by decide) c117)
      refine rn_iinc (v := (nI (e + 1))) 172 [some (.ref 19), some (.int (nI S)), some (.int (nI c)), some (.int (nI sh)), some (.int (nI dep)), some (.int (nI D)), some (.int (nI O)), some (.int (nI cl)), some (.int (nI (e + 1))), none] dX0_grow_169 rfl (nI_1 _) rfl rfl ?_
      refine rn_goto 98 dX0_grow_172 (by decide) ?_
      exact ih (e + 1) cl st mu h (by omega) hg hcf hcl hsb hfa

theorem mkF_lt {g : List Ed} {s t S H : Nat} (h16 : g.length ≤ 16) (hS : S < 2 ^ g.length) (hH : H < 65536) : mkF g s t S H < 65536 := by
  refine Nat.lt_pow_two_of_testBit (n := 16) _ (fun i hi => ?_)
  cases a : (mkF g s t S H).testBit i
  · rfl
  · rcases mkF_bit.mp a with q | q
    · have := tb_lt (n := 16) hH q; omega
    · have := q.1; omega

set_option maxRecDepth 100000 in
set_option maxHeartbeats 2000000 in
theorem c_grow (d : Nat) {g : List Ed} {s t B rep aim : Nat} {m : Bool} (hs : s < 8) (ht : t < 8) (hB : B ≤ 5) (hrep : rep ≤ 3) (haim : aim ≤ 9999) (hm : m = true → rep = 0 ∧ aim = 9999) : ∀ (f dep S c sh : Nat) (st : Sta) (mu : Nat → Nat → Int32) (h : Int64), dep + f = 16 → S < 2 ^ g.length → c ≤ B → sh < 65536 → xg g mu → CFx s t B rep aim m mu → SBm m st mu → gd_G mX0_grow (d + f + 3) [.ref 19, .int (nI S), .int (nI c), .int (nI sh), .int (nI dep)] mu h (PG g s t rep aim m (gwL g s t rep B aim f S c sh) st mu) := by
  intro f
  induction f with
  | zero =>
    intro dep S c sh st mu h hdf hS hc hsh hg hcf hsb
    refine gd_of rfl (Nat.le_of_ble_eq_true rfl) ?_
    show rn_R none mX0_grow (d + 3) 0 [some (.ref 19), some (.int (nI S)), some (.int (nI c)), some (.int (nI sh)), some (.int (nI dep)), none, none, none, none, none] [] mu h (PG g s t rep aim m (gwL g s t rep B aim 0 S c sh) st mu)
    have h16 := hg.1
    have hp := pw_le hg.1
    have ho := hg.2.1
    have bx := xD_le (S := S) (s := s) (rep := rep) ho ht
    obtain ⟨f1_, f2_, f3_, f4_, f5_, f6_⟩ := id hcf
    refine rn_aload_n 1 dX0_grow_0 rfl rfl rfl ?_
    refine rn_get 4 (.ref 8) dX0_grow_1 fl_X0_47 rfl rfl rfl rfl ?_
    refine rn_aload_n 5 dX0_grow_4 rfl rfl rfl ?_
    refine rn_get 8 (.int (mu 19 2)) dX0_grow_5 fl_X0_9 rfl rfl rfl rfl ?_
    refine rn_iload_n 9 dX0_grow_8 rfl rfl rfl ?_
    refine rn_aload_n 10 dX0_grow_9 rfl rfl rfl ?_
    refine rn_get 13 (.int (mu 19 5)) dX0_grow_10 fl_X0_21 rfl rfl rfl rfl ?_
    rw [f1_, f4_]
    refine rn_callV mX5_run [.int (nI s), .int (nI S), .int (nI rep)] [] dX0_grow_13 cv_X0_55 rfl rfl rfl (by simp [Value.category]) (c_run (d + 1) (S := S) (s := s) (rep := rep) (by omega) hs (by omega) h hg) (fun r1 m1 h1 q1 _ => ?_)
    obtain ⟨e1, R1, W1, f1⟩ := q1
    subst e1
    have hg1 : xg g m1 := xg_fr hg f1
    show rn_R _ mX0_grow _ 16 [some (.ref 19), some (.int (nI S)), some (.int (nI c)), some (.int (nI sh)), some (.int (nI dep)), none, none, none, none, none] [] m1 h1 _
    have fa1 := FA_run f1
    have hcf1 := CFx_of hcf fa1
    have hsb1 : SBm m st m1 := SBm_19 hsb (f1 19 (by omega))
    obtain ⟨g1_, g2_, g3_, g4_, g5_, g6_⟩ := id hcf1
    have bu := (R1 t ht).2.2.2
    refine rn_aload_n 17 dX0_grow_16 rfl rfl rfl ?_
    refine rn_get 20 (.ref 8) dX0_grow_17 fl_X0_47 rfl rfl rfl rfl ?_
    refine rn_aload_n 21 dX0_grow_20 rfl rfl rfl ?_
    refine rn_get 24 (.int (m1 19 3)) dX0_grow_21 fl_X0_15 rfl rfl rfl rfl ?_
    rw [g2_]
    refine rn_cvp mX5_distanceTo [.int (nI t)] [] 27 (.int (nI (xD g S s t rep))) dX0_grow_24 cv_X0_61 rfl rfl rfl (by simp [Value.category]) rfl (c_distanceTo (d + 2) h1 R1 ht) ?_
    refine rn_istore 29 [some (.ref 19), some (.int (nI S)), some (.int (nI c)), some (.int (nI sh)), some (.int (nI dep)), some (.int (nI (xD g S s t rep))), none, none, none, none] dX0_grow_27 rfl (Nat.le_of_ble_eq_true rfl) rfl ?_
    refine rn_aload_n 30 dX0_grow_29 rfl rfl rfl ?_
    refine rn_get 33 (.ref 8) dX0_grow_30 fl_X0_47 rfl rfl rfl rfl ?_
    refine rn_aload_n 34 dX0_grow_33 rfl rfl rfl ?_
    refine rn_get 37 (.int (m1 19 3)) dX0_grow_34 fl_X0_15 rfl rfl rfl rfl ?_
    rw [g2_]
    refine rn_cvp mX5_usedTo [.int (nI t)] [] 40 (.int (nI (xU g S s t rep))) dX0_grow_37 cv_X0_65 rfl rfl rfl (by simp [Value.category]) rfl (c_usedTo (d + 2) h1 R1 ht) ?_
    refine rn_iload_n 41 dX0_grow_40 rfl rfl rfl ?_
    refine rn_iconst (v := (-1)) 42 dX0_grow_41 (by decide) rfl ?_
    refine rn_ixor 43 dX0_grow_42 rfl ?_
    refine rn_iand 44 dX0_grow_43 rfl ?_
    refine rn_iload_n 45 dX0_grow_44 rfl rfl rfl ?_
    refine rn_iconst (v := (-1)) 46 dX0_grow_45 (by decide) rfl ?_
    refine rn_ixor 47 dX0_grow_46 rfl ?_
    refine rn_iand 48 dX0_grow_47 rfl ?_
    rw [nb_andn, nb_andn]
    show rn_R _ _ _ _ _ [.int (nI (gwO g s t rep S sh))] _ _ _
    refine rn_istore 50 [some (.ref 19), some (.int (nI S)), some (.int (nI c)), some (.int (nI sh)), some (.int (nI dep)), some (.int (nI (xD g S s t rep))), some (.int (nI (gwO g s t rep S sh))), none, none, none] dX0_grow_48 rfl (Nat.le_of_ble_eq_true rfl) rfl ?_
    refine rn_aload_n 51 dX0_grow_50 rfl rfl rfl ?_
    refine rn_get 54 (.int (m1 19 7)) dX0_grow_51 fl_X0_27 rfl rfl rfl rfl ?_
    have hO : gwO g s t rep S sh < 65536 := nd_lt (n := 16) (nd_lt (n := 16) bu)
    rw [g6_]
    cases m with
    | true =>
      obtain ⟨rfl, rfl⟩ := hm rfl
      obtain ⟨u1, u2⟩ : m1 19 11 = nI st.2 ∧ st.2 < 65536 := hsb1
      show rn_R _ mX0_grow _ 54 [some (.ref 19), some (.int (nI S)), some (.int (nI c)), some (.int (nI sh)), some (.int (nI dep)), some (.int (nI (xD g S s t 0))), some (.int (nI (gwO g s t 0 S sh))), none, none, none] [.int (bi true)] m1 h1 _
      refine rn_if_eq 67 57 dX0_grow_54 (by decide) rfl (fun c54 => absurd c54 (by decide)) (fun _ => ?_)
      refine rn_aload_n 58 dX0_grow_57 rfl rfl rfl ?_
      refine rn_iload_n 59 dX0_grow_58 rfl rfl rfl ?_
      refine rn_iload 61 dX0_grow_59 rfl rfl ?_
      refine rn_callV mX0_markHelpful [.int (nI S), .int (nI (xD g S s t 0))] [] dX0_grow_61 cv_X0_68 rfl rfl rfl (by simp [Value.category]) (c_mark (d) hs ht hS h1 hg1 g1_ g2_ u1 u2) (fun r2 m2 h2 qq _ => ?_)
      obtain ⟨e2, e3, fa3⟩ := qq
      subst e2
      have fa2 := FA_tr fa1 fa3
      have sb2 : SBm true (stp g s t 0 9999 true st (S, c)) m2 := ⟨e3, mkF_lt h16 hS u2⟩
      show rn_R _ mX0_grow _ 64 [some (.ref 19), some (.int (nI S)), some (.int (nI c)), some (.int (nI sh)), some (.int (nI dep)), some (.int (nI (xD g S s t 0))), some (.int (nI (gwO g s t 0 S sh))), none, none, none] [] m2 h2 _
      refine rn_goto 75 dX0_grow_64 (by decide) ?_
      have hg2 := xg_FA hg fa2
      have hcf2 := CFx_of hcf fa2
      obtain ⟨k1_, k2_, k3_, k4_, k5_, k6_⟩ := id hcf2
      refine rn_iload 77 dX0_grow_75 rfl rfl ?_
      refine rn_aload_n 78 dX0_grow_77 rfl rfl rfl ?_
      refine rn_get 81 (.int (m2 19 6)) dX0_grow_78 fl_X0_24 rfl rfl rfl rfl ?_
      refine rn_icmp_ge 91 84 dX0_grow_81 (by decide) rfl (fun c81 => ?_) (fun c81 => ?_)
      · skip
        exact rn_vret rfl dX0_grow_91 (⟨rfl, sb2, fa2⟩)
      · skip
        refine rn_iload 86 dX0_grow_84 rfl rfl ?_
        refine rn_bipush (v := 16) 88 dX0_grow_86 (by decide) rfl ?_
        refine rn_icmp_lt 92 91 dX0_grow_88 (by decide) rfl (fun c88 => absurd c88 (by rw [show dep = 16 by omega]; decide)) (fun _ => ?_)
        exact rn_vret rfl dX0_grow_91 (⟨rfl, sb2, fa2⟩)
    | false =>
      have u1 : BB st.1 m1 := hsb1
      show rn_R _ mX0_grow _ 54 [some (.ref 19), some (.int (nI S)), some (.int (nI c)), some (.int (nI sh)), some (.int (nI dep)), some (.int (nI (xD g S s t rep))), some (.int (nI (gwO g s t rep S sh))), none, none, none] [.int (bi false)] m1 h1 _
      refine rn_if_eq 67 57 dX0_grow_54 (by decide) rfl (fun _ => ?_) (fun c54 => absurd (rfl) c54)
      refine rn_aload_n 68 dX0_grow_67 rfl rfl rfl ?_
      refine rn_iload_n 69 dX0_grow_68 rfl rfl rfl ?_
      refine rn_iload_n 70 dX0_grow_69 rfl rfl rfl ?_
      refine rn_iload 72 dX0_grow_70 rfl rfl ?_
      refine rn_callV mX0_weigh [.int (nI S), .int (nI c), .int (nI (xD g S s t rep))] [] dX0_grow_72 cv_X0_72 rfl rfl rfl (by simp [Value.category]) (c_weigh (d + 1) h1 (b := st.1) (aim := aim) u1 g5_ (by omega) (by omega) bx haim) (fun r2 m2 h2 qq _ => ?_)
      obtain ⟨e2, e3, fa3⟩ := qq
      subst e2
      have fa2 := FA_tr fa1 fa3
      have sb2 : SBm false (stp g s t rep aim false st (S, c)) m2 := e3
      show rn_R _ mX0_grow _ 75 [some (.ref 19), some (.int (nI S)), some (.int (nI c)), some (.int (nI sh)), some (.int (nI dep)), some (.int (nI (xD g S s t rep))), some (.int (nI (gwO g s t rep S sh))), none, none, none] [] m2 h2 _
      have hg2 := xg_FA hg fa2
      have hcf2 := CFx_of hcf fa2
      obtain ⟨k1_, k2_, k3_, k4_, k5_, k6_⟩ := id hcf2
      refine rn_iload 77 dX0_grow_75 rfl rfl ?_
      refine rn_aload_n 78 dX0_grow_77 rfl rfl rfl ?_
      refine rn_get 81 (.int (m2 19 6)) dX0_grow_78 fl_X0_24 rfl rfl rfl rfl ?_
      refine rn_icmp_ge 91 84 dX0_grow_81 (by decide) rfl (fun c81 => ?_) (fun c81 => ?_)
      · skip
        exact rn_vret rfl dX0_grow_91 (⟨rfl, sb2, fa2⟩)
      · skip
        refine rn_iload 86 dX0_grow_84 rfl rfl ?_
        refine rn_bipush (v := 16) 88 dX0_grow_86 (by decide) rfl ?_
        refine rn_icmp_lt 92 91 dX0_grow_88 (by decide) rfl (fun c88 => absurd c88 (by rw [show dep = 16 by omega]; decide)) (fun _ => ?_)
        exact rn_vret rfl dX0_grow_91 (⟨rfl, sb2, fa2⟩)
  | succ f ih =>
    intro dep S c sh st mu h hdf hS hc hsh hg hcf hsb
    refine gd_of rfl (Nat.le_of_ble_eq_true rfl) ?_
    show rn_R none mX0_grow (d + f + 4) 0 [some (.ref 19), some (.int (nI S)), some (.int (nI c)), some (.int (nI sh)), some (.int (nI dep)), none, none, none, none, none] [] mu h (PG g s t rep aim m (gwL g s t rep B aim (f + 1) S c sh) st mu)
    have h16 := hg.1
    have hp := pw_le hg.1
    have ho := hg.2.1
    have bx := xD_le (S := S) (s := s) (rep := rep) ho ht
    obtain ⟨f1_, f2_, f3_, f4_, f5_, f6_⟩ := id hcf
    refine rn_aload_n 1 dX0_grow_0 rfl rfl rfl ?_
    refine rn_get 4 (.ref 8) dX0_grow_1 fl_X0_47 rfl rfl rfl rfl ?_
    refine rn_aload_n 5 dX0_grow_4 rfl rfl rfl ?_
    refine rn_get 8 (.int (mu 19 2)) dX0_grow_5 fl_X0_9 rfl rfl rfl rfl ?_
    refine rn_iload_n 9 dX0_grow_8 rfl rfl rfl ?_
    refine rn_aload_n 10 dX0_grow_9 rfl rfl rfl ?_
    refine rn_get 13 (.int (mu 19 5)) dX0_grow_10 fl_X0_21 rfl rfl rfl rfl ?_
    rw [f1_, f4_]
    refine rn_callV mX5_run [.int (nI s), .int (nI S), .int (nI rep)] [] dX0_grow_13 cv_X0_55 rfl rfl rfl (by simp [Value.category]) (c_run (d + f + 2) (S := S) (s := s) (rep := rep) (by omega) hs (by omega) h hg) (fun r1 m1 h1 q1 _ => ?_)
    obtain ⟨e1, R1, W1, f1⟩ := q1
    subst e1
    have hg1 : xg g m1 := xg_fr hg f1
    show rn_R _ mX0_grow _ 16 [some (.ref 19), some (.int (nI S)), some (.int (nI c)), some (.int (nI sh)), some (.int (nI dep)), none, none, none, none, none] [] m1 h1 _
    have fa1 := FA_run f1
    have hcf1 := CFx_of hcf fa1
    have hsb1 : SBm m st m1 := SBm_19 hsb (f1 19 (by omega))
    obtain ⟨g1_, g2_, g3_, g4_, g5_, g6_⟩ := id hcf1
    have bu := (R1 t ht).2.2.2
    refine rn_aload_n 17 dX0_grow_16 rfl rfl rfl ?_
    refine rn_get 20 (.ref 8) dX0_grow_17 fl_X0_47 rfl rfl rfl rfl ?_
    refine rn_aload_n 21 dX0_grow_20 rfl rfl rfl ?_
    refine rn_get 24 (.int (m1 19 3)) dX0_grow_21 fl_X0_15 rfl rfl rfl rfl ?_
    rw [g2_]
    refine rn_cvp mX5_distanceTo [.int (nI t)] [] 27 (.int (nI (xD g S s t rep))) dX0_grow_24 cv_X0_61 rfl rfl rfl (by simp [Value.category]) rfl (c_distanceTo (d + f + 3) h1 R1 ht) ?_
    refine rn_istore 29 [some (.ref 19), some (.int (nI S)), some (.int (nI c)), some (.int (nI sh)), some (.int (nI dep)), some (.int (nI (xD g S s t rep))), none, none, none, none] dX0_grow_27 rfl (Nat.le_of_ble_eq_true rfl) rfl ?_
    refine rn_aload_n 30 dX0_grow_29 rfl rfl rfl ?_
    refine rn_get 33 (.ref 8) dX0_grow_30 fl_X0_47 rfl rfl rfl rfl ?_
    refine rn_aload_n 34 dX0_grow_33 rfl rfl rfl ?_
    refine rn_get 37 (.int (m1 19 3)) dX0_grow_34 fl_X0_15 rfl rfl rfl rfl ?_
    rw [g2_]
    refine rn_cvp mX5_usedTo [.int (nI t)] [] 40 (.int (nI (xU g S s t rep))) dX0_grow_37 cv_X0_65 rfl rfl rfl (by simp [Value.category]) rfl (c_usedTo (d + f + 3) h1 R1 ht) ?_
    refine rn_iload_n 41 dX0_grow_40 rfl rfl rfl ?_
    refine rn_iconst (v := (-1)) 42 dX0_grow_41 (by decide) rfl ?_
    refine rn_ixor 43 dX0_grow_42 rfl ?_
    refine rn_iand 44 dX0_grow_43 rfl ?_
    refine rn_iload_n 45 dX0_grow_44 rfl rfl rfl ?_
    refine rn_iconst (v := (-1)) 46 dX0_grow_45 (by decide) rfl ?_
    refine rn_ixor 47 dX0_grow_46 rfl ?_
    refine rn_iand 48 dX0_grow_47 rfl ?_
    rw [nb_andn, nb_andn]
    show rn_R _ _ _ _ _ [.int (nI (gwO g s t rep S sh))] _ _ _
    refine rn_istore 50 [some (.ref 19), some (.int (nI S)), some (.int (nI c)), some (.int (nI sh)), some (.int (nI dep)), some (.int (nI (xD g S s t rep))), some (.int (nI (gwO g s t rep S sh))), none, none, none] dX0_grow_48 rfl (Nat.le_of_ble_eq_true rfl) rfl ?_
    refine rn_aload_n 51 dX0_grow_50 rfl rfl rfl ?_
    refine rn_get 54 (.int (m1 19 7)) dX0_grow_51 fl_X0_27 rfl rfl rfl rfl ?_
    have hO : gwO g s t rep S sh < 65536 := nd_lt (n := 16) (nd_lt (n := 16) bu)
    rw [g6_]
    cases m with
    | true =>
      obtain ⟨rfl, rfl⟩ := hm rfl
      obtain ⟨u1, u2⟩ : m1 19 11 = nI st.2 ∧ st.2 < 65536 := hsb1
      show rn_R _ mX0_grow _ 54 [some (.ref 19), some (.int (nI S)), some (.int (nI c)), some (.int (nI sh)), some (.int (nI dep)), some (.int (nI (xD g S s t 0))), some (.int (nI (gwO g s t 0 S sh))), none, none, none] [.int (bi true)] m1 h1 _
      refine rn_if_eq 67 57 dX0_grow_54 (by decide) rfl (fun c54 => absurd c54 (by decide)) (fun _ => ?_)
      refine rn_aload_n 58 dX0_grow_57 rfl rfl rfl ?_
      refine rn_iload_n 59 dX0_grow_58 rfl rfl rfl ?_
      refine rn_iload 61 dX0_grow_59 rfl rfl ?_
      refine rn_callV mX0_markHelpful [.int (nI S), .int (nI (xD g S s t 0))] [] dX0_grow_61 cv_X0_68 rfl rfl rfl (by simp [Value.category]) (c_mark (d + f + 1) hs ht hS h1 hg1 g1_ g2_ u1 u2) (fun r2 m2 h2 qq _ => ?_)
      obtain ⟨e2, e3, fa3⟩ := qq
      subst e2
      have fa2 := FA_tr fa1 fa3
      have sb2 : SBm true (stp g s t 0 9999 true st (S, c)) m2 := ⟨e3, mkF_lt h16 hS u2⟩
      show rn_R _ mX0_grow _ 64 [some (.ref 19), some (.int (nI S)), some (.int (nI c)), some (.int (nI sh)), some (.int (nI dep)), some (.int (nI (xD g S s t 0))), some (.int (nI (gwO g s t 0 S sh))), none, none, none] [] m2 h2 _
      refine rn_goto 75 dX0_grow_64 (by decide) ?_
      have hg2 := xg_FA hg fa2
      have hcf2 := CFx_of hcf fa2
      obtain ⟨k1_, k2_, k3_, k4_, k5_, k6_⟩ := id hcf2
      have eg : gwL g s t 0 B 9999 (f + 1) S c sh = (S, c) :: (if 9999 ≤ xD g S s t 0 then [] else gwE g B S c (gwO g s t 0 S sh) (gwL g s t 0 B 9999 f) g.length 0 sh) := rfl
      rw [eg]
      by_cases q9 : 9999 ≤ xD g S s t 0
      · skip
        rw [if_pos q9]
        refine rn_iload 77 dX0_grow_75 rfl rfl ?_
        refine rn_aload_n 78 dX0_grow_77 rfl rfl rfl ?_
        refine rn_get 81 (.int (m2 19 6)) dX0_grow_78 fl_X0_24 rfl rfl rfl rfl ?_
        refine rn_icmp_ge 91 84 dX0_grow_81 (by decide) rfl (fun _ => ?_) (fun c81 => absurd (by rw [k5_]; exact nI_le q9 (by omega)) c81)
        exact rn_vret rfl dX0_grow_91 (⟨rfl, sb2, fa2⟩)
      · skip
        rw [if_neg q9]
        refine rn_iload 77 dX0_grow_75 rfl rfl ?_
        refine rn_aload_n 78 dX0_grow_77 rfl rfl rfl ?_
        refine rn_get 81 (.int (m2 19 6)) dX0_grow_78 fl_X0_24 rfl rfl rfl rfl ?_
        refine rn_icmp_ge 91 84 dX0_grow_81 (by decide) rfl (fun c81 => absurd c81 (by rw [k5_]; exact nI_ge (by omega) (by omega))) (fun _ => ?_)
        refine rn_iload 86 dX0_grow_84 rfl rfl ?_
        refine rn_bipush (v := 16) 88 dX0_grow_86 (by decide) rfl ?_
        refine rn_icmp_lt 92 91 dX0_grow_88 (by decide) rfl (fun _ => ?_) (fun c88 => absurd (nI_lt (b := 16) (by omega) (by omega)) c88)
        refine rn_iload_n 93 dX0_grow_92 rfl rfl rfl ?_
        refine rn_istore 95 [some (.ref 19), some (.int (nI S)), some (.int (nI c)), some (.int (nI sh)), some (.int (nI dep)), some (.int (nI (xD g S s t 0))), some (.int (nI (gwO g s t 0 S sh))), some (.int (nI sh)), none, none] dX0_grow_93 rfl (Nat.le_of_ble_eq_true rfl) rfl ?_
        refine rn_iconst (v := 0) 96 dX0_grow_95 (by decide) rfl ?_
        refine rn_istore 98 [some (.ref 19), some (.int (nI S)), some (.int (nI c)), some (.int (nI sh)), some (.int (nI dep)), some (.int (nI (xD g S s t 0))), some (.int (nI (gwO g s t 0 S sh))), some (.int (nI sh)), some (.int 0), none] dX0_grow_96 rfl (Nat.le_of_ble_eq_true rfl) rfl ?_
        refine rn_mono (lp_grow (d + f + 2) hs ht hB hrep haim hm (rc := gwL g s t 0 B 9999 f) (S := S) (c := c) (sh := sh) (dep := dep) (D := xD g S s t 0) (O := gwO g s t 0 S sh) hS hc hO (fun S2 c2 sh2 st2 mu2 h2 a1 a2 a3 a4 a5 a6 => ih (dep + 1) S2 c2 sh2 st2 mu2 h2 (by omega) a1 a2 a3 a4 a5 a6) (mu0 := mu) g.length 0 sh _ m2 h2 (by omega) hg2 hcf2 hsh sb2 fa2) (fun r m9 h9 q => q)
    | false =>
      have u1 : BB st.1 m1 := hsb1
      show rn_R _ mX0_grow _ 54 [some (.ref 19), some (.int (nI S)), some (.int (nI c)), some (.int (nI sh)), some (.int (nI dep)), some (.int (nI (xD g S s t rep))), some (.int (nI (gwO g s t rep S sh))), none, none, none] [.int (bi false)] m1 h1 _
      refine rn_if_eq 67 57 dX0_grow_54 (by decide) rfl (fun _ => ?_) (fun c54 => absurd (rfl) c54)
      refine rn_aload_n 68 dX0_grow_67 rfl rfl rfl ?_
      refine rn_iload_n 69 dX0_grow_68 rfl rfl rfl ?_
      refine rn_iload_n 70 dX0_grow_69 rfl rfl rfl ?_
      refine rn_iload 72 dX0_grow_70 rfl rfl ?_
      refine rn_callV mX0_weigh [.int (nI S), .int (nI c), .int (nI (xD g S s t rep))] [] dX0_grow_72 cv_X0_72 rfl rfl rfl (by simp [Value.category]) (c_weigh (d + f + 2) h1 (b := st.1) (aim := aim) u1 g5_ (by omega) (by omega) bx haim) (fun r2 m2 h2 qq _ => ?_)
      obtain ⟨e2, e3, fa3⟩ := qq
      subst e2
      have fa2 := FA_tr fa1 fa3
      have sb2 : SBm false (stp g s t rep aim false st (S, c)) m2 := e3
      show rn_R _ mX0_grow _ 75 [some (.ref 19), some (.int (nI S)), some (.int (nI c)), some (.int (nI sh)), some (.int (nI dep)), some (.int (nI (xD g S s t rep))), some (.int (nI (gwO g s t rep S sh))), none, none, none] [] m2 h2 _
      have hg2 := xg_FA hg fa2
      have hcf2 := CFx_of hcf fa2
      obtain ⟨k1_, k2_, k3_, k4_, k5_, k6_⟩ := id hcf2
      have eg : gwL g s t rep B aim (f + 1) S c sh = (S, c) :: (if aim ≤ xD g S s t rep then [] else gwE g B S c (gwO g s t rep S sh) (gwL g s t rep B aim f) g.length 0 sh) := rfl
      rw [eg]
      by_cases q9 : aim ≤ xD g S s t rep
      · skip
        rw [if_pos q9]
        refine rn_iload 77 dX0_grow_75 rfl rfl ?_
        refine rn_aload_n 78 dX0_grow_77 rfl rfl rfl ?_
        refine rn_get 81 (.int (m2 19 6)) dX0_grow_78 fl_X0_24 rfl rfl rfl rfl ?_
        refine rn_icmp_ge 91 84 dX0_grow_81 (by decide) rfl (fun _ => ?_) (fun c81 => absurd (by rw [k5_]; exact nI_le q9 (by omega)) c81)
        exact rn_vret rfl dX0_grow_91 (⟨rfl, sb2, fa2⟩)
      · skip
        rw [if_neg q9]
        refine rn_iload 77 dX0_grow_75 rfl rfl ?_
        refine rn_aload_n 78 dX0_grow_77 rfl rfl rfl ?_
        refine rn_get 81 (.int (m2 19 6)) dX0_grow_78 fl_X0_24 rfl rfl rfl rfl ?_
        refine rn_icmp_ge 91 84 dX0_grow_81 (by decide) rfl (fun c81 => absurd c81 (by rw [k5_]; exact nI_ge (by omega) (by omega))) (fun _ => ?_)
        refine rn_iload 86 dX0_grow_84 rfl rfl ?_
        refine rn_bipush (v := 16) 88 dX0_grow_86 (by decide) rfl ?_
        refine rn_icmp_lt 92 91 dX0_grow_88 (by decide) rfl (fun _ => ?_) (fun c88 => absurd (nI_lt (b := 16) (by omega) (by omega)) c88)
        refine rn_iload_n 93 dX0_grow_92 rfl rfl rfl ?_
        refine rn_istore 95 [some (.ref 19), some (.int (nI S)), some (.int (nI c)), some (.int (nI sh)), some (.int (nI dep)), some (.int (nI (xD g S s t rep))), some (.int (nI (gwO g s t rep S sh))), some (.int (nI sh)), none, none] dX0_grow_93 rfl (Nat.le_of_ble_eq_true rfl) rfl ?_
        refine rn_iconst (v := 0) 96 dX0_grow_95 (by decide) rfl ?_
        refine rn_istore 98 [some (.ref 19), some (.int (nI S)), some (.int (nI c)), some (.int (nI sh)), some (.int (nI dep)), some (.int (nI (xD g S s t rep))), some (.int (nI (gwO g s t rep S sh))), some (.int (nI sh)), some (.int 0), none] dX0_grow_96 rfl (Nat.le_of_ble_eq_true rfl) rfl ?_
        refine rn_mono (lp_grow (d + f + 2) hs ht hB hrep haim hm (rc := gwL g s t rep B aim f) (S := S) (c := c) (sh := sh) (dep := dep) (D := xD g S s t rep) (O := gwO g s t rep S sh) hS hc hO (fun S2 c2 sh2 st2 mu2 h2 a1 a2 a3 a4 a5 a6 => ih (dep + 1) S2 c2 sh2 st2 mu2 h2 (by omega) a1 a2 a3 a4 a5 a6) (mu0 := mu) g.length 0 sh _ m2 h2 (by omega) hg2 hcf2 hsh sb2 fa2) (fun r m9 h9 q => q)
