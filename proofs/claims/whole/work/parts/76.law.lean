/-! THE LAW: its loop, call by call -/
def mL_law : ym_T := (x, code, 4, some .boolean)
theorem an_int {ans : Value} (h : rt_ok (some .int) (some ans)) : ∃ v, ans = .int v := by
  cases ans <;> first | exact ⟨_, rfl⟩ | cases h
theorem an_long {ans : Value} (h : rt_ok (some .long) (some ans)) : ∃ v, ans = .long v := by
  cases ans <;> first | exact ⟨_, rfl⟩ | cases h
theorem lg_same (a : Int64) : lg_cmp a a = 0 := by
  unfold lg_cmp
  rw [if_neg (by exact Int64.lt_irrefl), if_pos rfl]
theorem lw_gt {i n : Nat} (hi : i ≤ 3072) (hn : n ≤ 3072) : nI n - 6 < nI i ↔ n < i + 6 := by
  have e : (nI n - 6).toInt = (n : Int) - 6 := pk_sub_toInt (a := n) (b := 6) (by omega) (by omega)
  rw [Int32.lt_iff_toInt_lt, e, nI_toInt (by omega)]
  omega

set_option maxRecDepth 100000 in
set_option maxHeartbeats 2000000 in
theorem law_c0 {len : Nat} {xs : Nat → Int32} (hlen : len ≤ 3072) {i : Nat} (hi : i + 6 ≤ len) {s : Sx} {mu : Nat → Nat → Int32} {h : Int64} {Q : rn_Q} (h1_ : xS s mu) (h2_ : mS s mu) (kk : ∀ (s2 : Sx) (mu2 : Nat → Nat → Int32) (h2 : Int64), xS s2 mu2 → mS s2 mu2 → rn_R (some (len, xs)) mL_law 101 1254 [some (.ref 99), some (.ref 0), some (.ref 22), some (.int (nI i))] [] mu2 h2 Q) : rn_R (some (len, xs)) mL_law 101 172 [some (.ref 99), some (.ref 0), some (.ref 22), some (.int (nI i))] [] mu h Q := by
  obtain ⟨ans, s2, hx, hm⟩ := op_addEdge (xs (i + 1)) (xs (i + 2)) (xs (i + 3)) (xs (i + 4)) (xs (i + 5)) s
  refine rn_aload_n 173 dL_law_172 rfl rfl rfl ?_
  refine rn_aload_n 174 dL_law_173 rfl rfl rfl ?_
  refine rn_iload_n 175 dL_law_174 rfl rfl rfl ?_
  refine rn_iconst (v := 1) 176 dL_law_175 (by decide) rfl ?_
  refine rn_iadd 177 dL_law_176 rfl ?_
  rw [show nI i + 1 = nI (i + 1) from nI_add i 1]
  refine rn_sld 178 (xs (i + 1)) dL_law_177 (vp_in_nI (by omega) (by omega)) (by rw [nI_clamp (by omega)]) rfl ?_
  refine rn_aload_n 179 dL_law_178 rfl rfl rfl ?_
  refine rn_iload_n 180 dL_law_179 rfl rfl rfl ?_
  refine rn_iconst (v := 2) 181 dL_law_180 (by decide) rfl ?_
  refine rn_iadd 182 dL_law_181 rfl ?_
  rw [show nI i + 2 = nI (i + 2) from nI_add i 2]
  refine rn_sld 183 (xs (i + 2)) dL_law_182 (vp_in_nI (by omega) (by omega)) (by rw [nI_clamp (by omega)]) rfl ?_
  refine rn_aload_n 184 dL_law_183 rfl rfl rfl ?_
  refine rn_iload_n 185 dL_law_184 rfl rfl rfl ?_
  refine rn_iconst (v := 3) 186 dL_law_185 (by decide) rfl ?_
  refine rn_iadd 187 dL_law_186 rfl ?_
  rw [show nI i + 3 = nI (i + 3) from nI_add i 3]
  refine rn_sld 188 (xs (i + 3)) dL_law_187 (vp_in_nI (by omega) (by omega)) (by rw [nI_clamp (by omega)]) rfl ?_
  refine rn_aload_n 189 dL_law_188 rfl rfl rfl ?_
  refine rn_iload_n 190 dL_law_189 rfl rfl rfl ?_
  refine rn_iconst (v := 4) 191 dL_law_190 (by decide) rfl ?_
  refine rn_iadd 192 dL_law_191 rfl ?_
  rw [show nI i + 4 = nI (i + 4) from nI_add i 4]
  refine rn_sld 193 (xs (i + 4)) dL_law_192 (vp_in_nI (by omega) (by omega)) (by rw [nI_clamp (by omega)]) rfl ?_
  refine rn_aload_n 194 dL_law_193 rfl rfl rfl ?_
  refine rn_iload_n 195 dL_law_194 rfl rfl rfl ?_
  refine rn_iconst (v := 5) 196 dL_law_195 (by decide) rfl ?_
  refine rn_iadd 197 dL_law_196 rfl ?_
  rw [show nI i + 5 = nI (i + 5) from nI_add i 5]
  refine rn_sld 198 (xs (i + 5)) dL_law_197 (vp_in_nI (by omega) (by omega)) (by rw [nI_clamp (by omega)]) rfl ?_
  refine rn_callV mX8_addEdge [.int (xs (i + 1)), .int (xs (i + 2)), .int (xs (i + 3)), .int (xs (i + 4)), .int (xs (i + 5))] [] dL_law_198 cv_L_13 rfl rfl rfl (by simp [Value.category]) (hx mu h h1_) (fun r1 m1 h1 q1 ok1 => ?_)
  obtain ⟨e1, x1, f1⟩ := q1
  subst e1
  obtain ⟨v, rfl⟩ := an_int ok1
  show rn_R _ mL_law _ 201 [some (.ref 99), some (.ref 0), some (.ref 22), some (.int (nI i))] [.int v] m1 h1 _
  refine rn_aload_n 202 dL_law_201 rfl rfl rfl ?_
  refine rn_aload_n 203 dL_law_202 rfl rfl rfl ?_
  refine rn_iload_n 204 dL_law_203 rfl rfl rfl ?_
  refine rn_iconst (v := 1) 205 dL_law_204 (by decide) rfl ?_
  refine rn_iadd 206 dL_law_205 rfl ?_
  rw [show nI i + 1 = nI (i + 1) from nI_add i 1]
  refine rn_sld 207 (xs (i + 1)) dL_law_206 (vp_in_nI (by omega) (by omega)) (by rw [nI_clamp (by omega)]) rfl ?_
  refine rn_aload_n 208 dL_law_207 rfl rfl rfl ?_
  refine rn_iload_n 209 dL_law_208 rfl rfl rfl ?_
  refine rn_iconst (v := 2) 210 dL_law_209 (by decide) rfl ?_
  refine rn_iadd 211 dL_law_210 rfl ?_
  rw [show nI i + 2 = nI (i + 2) from nI_add i 2]
  refine rn_sld 212 (xs (i + 2)) dL_law_211 (vp_in_nI (by omega) (by omega)) (by rw [nI_clamp (by omega)]) rfl ?_
  refine rn_aload_n 213 dL_law_212 rfl rfl rfl ?_
  refine rn_iload_n 214 dL_law_213 rfl rfl rfl ?_
  refine rn_iconst (v := 3) 215 dL_law_214 (by decide) rfl ?_
  refine rn_iadd 216 dL_law_215 rfl ?_
  rw [show nI i + 3 = nI (i + 3) from nI_add i 3]
  refine rn_sld 217 (xs (i + 3)) dL_law_216 (vp_in_nI (by omega) (by omega)) (by rw [nI_clamp (by omega)]) rfl ?_
  refine rn_aload_n 218 dL_law_217 rfl rfl rfl ?_
  refine rn_iload_n 219 dL_law_218 rfl rfl rfl ?_
  refine rn_iconst (v := 4) 220 dL_law_219 (by decide) rfl ?_
  refine rn_iadd 221 dL_law_220 rfl ?_
  rw [show nI i + 4 = nI (i + 4) from nI_add i 4]
  refine rn_sld 222 (xs (i + 4)) dL_law_221 (vp_in_nI (by omega) (by omega)) (by rw [nI_clamp (by omega)]) rfl ?_
  refine rn_aload_n 223 dL_law_222 rfl rfl rfl ?_
  refine rn_iload_n 224 dL_law_223 rfl rfl rfl ?_
  refine rn_iconst (v := 5) 225 dL_law_224 (by decide) rfl ?_
  refine rn_iadd 226 dL_law_225 rfl ?_
  rw [show nI i + 5 = nI (i + 5) from nI_add i 5]
  refine rn_sld 227 (xs (i + 5)) dL_law_226 (vp_in_nI (by omega) (by omega)) (by rw [nI_clamp (by omega)]) rfl ?_
  refine rn_callV mX9_addEdge [.int (xs (i + 1)), .int (xs (i + 2)), .int (xs (i + 3)), .int (xs (i + 4)), .int (xs (i + 5))] [.int v] dL_law_227 cv_L_17 rfl rfl rfl (by simp [Value.category]) (hm m1 h1 (mS_fr h2_ (fun c c1 c2 => f1 c c1))) (fun r2 m2 h2 q2 ok2 => ?_)
  obtain ⟨e2, y2, f2⟩ := q2
  subst e2
  show rn_R _ mL_law _ 230 [some (.ref 99), some (.ref 0), some (.ref 22), some (.int (nI i))] [.int v, .int v] m2 h2 _
  refine rn_icmp_eq 1254 233 dL_law_230 (by decide) rfl (fun _ => ?_) (fun c230 => absurd (rfl) c230)
  exact kk s2 m2 h2 (xS_fr x1 (fun c hc => f2 c (by omega))) y2

set_option maxRecDepth 100000 in
set_option maxHeartbeats 2000000 in
theorem law_c1 {len : Nat} {xs : Nat → Int32} (hlen : len ≤ 3072) {i : Nat} (hi : i + 6 ≤ len) {s : Sx} {mu : Nat → Nat → Int32} {h : Int64} {Q : rn_Q} (h1_ : xS s mu) (h2_ : mS s mu) (kk : ∀ (s2 : Sx) (mu2 : Nat → Nat → Int32) (h2 : Int64), xS s2 mu2 → mS s2 mu2 → rn_R (some (len, xs)) mL_law 101 1254 [some (.ref 99), some (.ref 0), some (.ref 22), some (.int (nI i))] [] mu2 h2 Q) : rn_R (some (len, xs)) mL_law 101 235 [some (.ref 99), some (.ref 0), some (.ref 22), some (.int (nI i))] [] mu h Q := by
  obtain ⟨ans, s2, hx, hm⟩ := op_removeEdge (xs (i + 1)) s
  refine rn_aload_n 236 dL_law_235 rfl rfl rfl ?_
  refine rn_aload_n 237 dL_law_236 rfl rfl rfl ?_
  refine rn_iload_n 238 dL_law_237 rfl rfl rfl ?_
  refine rn_iconst (v := 1) 239 dL_law_238 (by decide) rfl ?_
  refine rn_iadd 240 dL_law_239 rfl ?_
  rw [show nI i + 1 = nI (i + 1) from nI_add i 1]
  refine rn_sld 241 (xs (i + 1)) dL_law_240 (vp_in_nI (by omega) (by omega)) (by rw [nI_clamp (by omega)]) rfl ?_
  refine rn_callV mX8_removeEdge [.int (xs (i + 1))] [] dL_law_241 cv_L_18 rfl rfl rfl (by simp [Value.category]) (hx mu h h1_) (fun r1 m1 h1 q1 ok1 => ?_)
  obtain ⟨e1, x1, f1⟩ := q1
  subst e1
  obtain ⟨v, rfl⟩ := an_int ok1
  show rn_R _ mL_law _ 244 [some (.ref 99), some (.ref 0), some (.ref 22), some (.int (nI i))] [.int v] m1 h1 _
  refine rn_aload_n 245 dL_law_244 rfl rfl rfl ?_
  refine rn_aload_n 246 dL_law_245 rfl rfl rfl ?_
  refine rn_iload_n 247 dL_law_246 rfl rfl rfl ?_
  refine rn_iconst (v := 1) 248 dL_law_247 (by decide) rfl ?_
  refine rn_iadd 249 dL_law_248 rfl ?_
  rw [show nI i + 1 = nI (i + 1) from nI_add i 1]
  refine rn_sld 250 (xs (i + 1)) dL_law_249 (vp_in_nI (by omega) (by omega)) (by rw [nI_clamp (by omega)]) rfl ?_
  refine rn_callV mX9_removeEdge [.int (xs (i + 1))] [.int v] dL_law_250 cv_L_22 rfl rfl rfl (by simp [Value.category]) (hm m1 h1 (mS_fr h2_ (fun c c1 c2 => f1 c c1))) (fun r2 m2 h2 q2 ok2 => ?_)
  obtain ⟨e2, y2, f2⟩ := q2
  subst e2
  show rn_R _ mL_law _ 253 [some (.ref 99), some (.ref 0), some (.ref 22), some (.int (nI i))] [.int v, .int v] m2 h2 _
  refine rn_icmp_eq 1254 256 dL_law_253 (by decide) rfl (fun _ => ?_) (fun c253 => absurd (rfl) c253)
  exact kk s2 m2 h2 (xS_fr x1 (fun c hc => f2 c (by omega))) y2

set_option maxRecDepth 100000 in
set_option maxHeartbeats 2000000 in
theorem law_c2 {len : Nat} {xs : Nat → Int32} (hlen : len ≤ 3072) {i : Nat} (hi : i + 6 ≤ len) {s : Sx} {mu : Nat → Nat → Int32} {h : Int64} {Q : rn_Q} (h1_ : xS s mu) (h2_ : mS s mu) (kk : ∀ (s2 : Sx) (mu2 : Nat → Nat → Int32) (h2 : Int64), xS s2 mu2 → mS s2 mu2 → rn_R (some (len, xs)) mL_law 101 1254 [some (.ref 99), some (.ref 0), some (.ref 22), some (.int (nI i))] [] mu2 h2 Q) : rn_R (some (len, xs)) mL_law 101 258 [some (.ref 99), some (.ref 0), some (.ref 22), some (.int (nI i))] [] mu h Q := by
  obtain ⟨ans, s2, hx, hm⟩ := op_setEdge (xs (i + 1)) (xs (i + 2)) (xs (i + 3)) s
  refine rn_aload_n 259 dL_law_258 rfl rfl rfl ?_
  refine rn_aload_n 260 dL_law_259 rfl rfl rfl ?_
  refine rn_iload_n 261 dL_law_260 rfl rfl rfl ?_
  refine rn_iconst (v := 1) 262 dL_law_261 (by decide) rfl ?_
  refine rn_iadd 263 dL_law_262 rfl ?_
  rw [show nI i + 1 = nI (i + 1) from nI_add i 1]
  refine rn_sld 264 (xs (i + 1)) dL_law_263 (vp_in_nI (by omega) (by omega)) (by rw [nI_clamp (by omega)]) rfl ?_
  refine rn_aload_n 265 dL_law_264 rfl rfl rfl ?_
  refine rn_iload_n 266 dL_law_265 rfl rfl rfl ?_
  refine rn_iconst (v := 2) 267 dL_law_266 (by decide) rfl ?_
  refine rn_iadd 268 dL_law_267 rfl ?_
  rw [show nI i + 2 = nI (i + 2) from nI_add i 2]
  refine rn_sld 269 (xs (i + 2)) dL_law_268 (vp_in_nI (by omega) (by omega)) (by rw [nI_clamp (by omega)]) rfl ?_
  refine rn_aload_n 270 dL_law_269 rfl rfl rfl ?_
  refine rn_iload_n 271 dL_law_270 rfl rfl rfl ?_
  refine rn_iconst (v := 3) 272 dL_law_271 (by decide) rfl ?_
  refine rn_iadd 273 dL_law_272 rfl ?_
  rw [show nI i + 3 = nI (i + 3) from nI_add i 3]
  refine rn_sld 274 (xs (i + 3)) dL_law_273 (vp_in_nI (by omega) (by omega)) (by rw [nI_clamp (by omega)]) rfl ?_
  refine rn_callV mX8_setEdge [.int (xs (i + 1)), .int (xs (i + 2)), .int (xs (i + 3))] [] dL_law_274 cv_L_23 rfl rfl rfl (by simp [Value.category]) (hx mu h h1_) (fun r1 m1 h1 q1 ok1 => ?_)
  obtain ⟨e1, x1, f1⟩ := q1
  subst e1
  obtain ⟨v, rfl⟩ := an_int ok1
  show rn_R _ mL_law _ 277 [some (.ref 99), some (.ref 0), some (.ref 22), some (.int (nI i))] [.int v] m1 h1 _
  refine rn_aload_n 278 dL_law_277 rfl rfl rfl ?_
  refine rn_aload_n 279 dL_law_278 rfl rfl rfl ?_
  refine rn_iload_n 280 dL_law_279 rfl rfl rfl ?_
  refine rn_iconst (v := 1) 281 dL_law_280 (by decide) rfl ?_
  refine rn_iadd 282 dL_law_281 rfl ?_
  rw [show nI i + 1 = nI (i + 1) from nI_add i 1]
  refine rn_sld 283 (xs (i + 1)) dL_law_282 (vp_in_nI (by omega) (by omega)) (by rw [nI_clamp (by omega)]) rfl ?_
  refine rn_aload_n 284 dL_law_283 rfl rfl rfl ?_
  refine rn_iload_n 285 dL_law_284 rfl rfl rfl ?_
  refine rn_iconst (v := 2) 286 dL_law_285 (by decide) rfl ?_
  refine rn_iadd 287 dL_law_286 rfl ?_
  rw [show nI i + 2 = nI (i + 2) from nI_add i 2]
  refine rn_sld 288 (xs (i + 2)) dL_law_287 (vp_in_nI (by omega) (by omega)) (by rw [nI_clamp (by omega)]) rfl ?_
  refine rn_aload_n 289 dL_law_288 rfl rfl rfl ?_
  refine rn_iload_n 290 dL_law_289 rfl rfl rfl ?_
  refine rn_iconst (v := 3) 291 dL_law_290 (by decide) rfl ?_
  refine rn_iadd 292 dL_law_291 rfl ?_
  rw [show nI i + 3 = nI (i + 3) from nI_add i 3]
  refine rn_sld 293 (xs (i + 3)) dL_law_292 (vp_in_nI (by omega) (by omega)) (by rw [nI_clamp (by omega)]) rfl ?_
  refine rn_callV mX9_setEdge [.int (xs (i + 1)), .int (xs (i + 2)), .int (xs (i + 3))] [.int v] dL_law_293 cv_L_27 rfl rfl rfl (by simp [Value.category]) (hm m1 h1 (mS_fr h2_ (fun c c1 c2 => f1 c c1))) (fun r2 m2 h2 q2 ok2 => ?_)
  obtain ⟨e2, y2, f2⟩ := q2
  subst e2
  show rn_R _ mL_law _ 296 [some (.ref 99), some (.ref 0), some (.ref 22), some (.int (nI i))] [.int v, .int v] m2 h2 _
  refine rn_icmp_eq 1254 299 dL_law_296 (by decide) rfl (fun _ => ?_) (fun c296 => absurd (rfl) c296)
  exact kk s2 m2 h2 (xS_fr x1 (fun c hc => f2 c (by omega))) y2

set_option maxRecDepth 100000 in
set_option maxHeartbeats 2000000 in
theorem law_c3 {len : Nat} {xs : Nat → Int32} (hlen : len ≤ 3072) {i : Nat} (hi : i + 6 ≤ len) {s : Sx} {mu : Nat → Nat → Int32} {h : Int64} {Q : rn_Q} (h1_ : xS s mu) (h2_ : mS s mu) (kk : ∀ (s2 : Sx) (mu2 : Nat → Nat → Int32) (h2 : Int64), xS s2 mu2 → mS s2 mu2 → rn_R (some (len, xs)) mL_law 101 1254 [some (.ref 99), some (.ref 0), some (.ref 22), some (.int (nI i))] [] mu2 h2 Q) : rn_R (some (len, xs)) mL_law 101 301 [some (.ref 99), some (.ref 0), some (.ref 22), some (.int (nI i))] [] mu h Q := by
  obtain ⟨ans, s2, hx, hm⟩ := op_edge (xs (i + 1)) (xs (i + 2)) s
  refine rn_aload_n 302 dL_law_301 rfl rfl rfl ?_
  refine rn_aload_n 303 dL_law_302 rfl rfl rfl ?_
  refine rn_iload_n 304 dL_law_303 rfl rfl rfl ?_
  refine rn_iconst (v := 1) 305 dL_law_304 (by decide) rfl ?_
  refine rn_iadd 306 dL_law_305 rfl ?_
  rw [show nI i + 1 = nI (i + 1) from nI_add i 1]
  refine rn_sld 307 (xs (i + 1)) dL_law_306 (vp_in_nI (by omega) (by omega)) (by rw [nI_clamp (by omega)]) rfl ?_
  refine rn_aload_n 308 dL_law_307 rfl rfl rfl ?_
  refine rn_iload_n 309 dL_law_308 rfl rfl rfl ?_
  refine rn_iconst (v := 2) 310 dL_law_309 (by decide) rfl ?_
  refine rn_iadd 311 dL_law_310 rfl ?_
  rw [show nI i + 2 = nI (i + 2) from nI_add i 2]
  refine rn_sld 312 (xs (i + 2)) dL_law_311 (vp_in_nI (by omega) (by omega)) (by rw [nI_clamp (by omega)]) rfl ?_
  refine rn_callV mX8_edge [.int (xs (i + 1)), .int (xs (i + 2))] [] dL_law_312 cv_L_28 rfl rfl rfl (by simp [Value.category]) (hx mu h h1_) (fun r1 m1 h1 q1 ok1 => ?_)
  obtain ⟨e1, x1, f1⟩ := q1
  subst e1
  obtain ⟨v, rfl⟩ := an_int ok1
  show rn_R _ mL_law _ 315 [some (.ref 99), some (.ref 0), some (.ref 22), some (.int (nI i))] [.int v] m1 h1 _
  refine rn_aload_n 316 dL_law_315 rfl rfl rfl ?_
  refine rn_aload_n 317 dL_law_316 rfl rfl rfl ?_
  refine rn_iload_n 318 dL_law_317 rfl rfl rfl ?_
  refine rn_iconst (v := 1) 319 dL_law_318 (by decide) rfl ?_
  refine rn_iadd 320 dL_law_319 rfl ?_
  rw [show nI i + 1 = nI (i + 1) from nI_add i 1]
  refine rn_sld 321 (xs (i + 1)) dL_law_320 (vp_in_nI (by omega) (by omega)) (by rw [nI_clamp (by omega)]) rfl ?_
  refine rn_aload_n 322 dL_law_321 rfl rfl rfl ?_
  refine rn_iload_n 323 dL_law_322 rfl rfl rfl ?_
  refine rn_iconst (v := 2) 324 dL_law_323 (by decide) rfl ?_
  refine rn_iadd 325 dL_law_324 rfl ?_
  rw [show nI i + 2 = nI (i + 2) from nI_add i 2]
  refine rn_sld 326 (xs (i + 2)) dL_law_325 (vp_in_nI (by omega) (by omega)) (by rw [nI_clamp (by omega)]) rfl ?_
  refine rn_callV mX9_edge [.int (xs (i + 1)), .int (xs (i + 2))] [.int v] dL_law_326 cv_L_32 rfl rfl rfl (by simp [Value.category]) (hm m1 h1 (mS_fr h2_ (fun c c1 c2 => f1 c c1))) (fun r2 m2 h2 q2 ok2 => ?_)
  obtain ⟨e2, y2, f2⟩ := q2
  subst e2
  show rn_R _ mL_law _ 329 [some (.ref 99), some (.ref 0), some (.ref 22), some (.int (nI i))] [.int v, .int v] m2 h2 _
  refine rn_icmp_eq 1254 332 dL_law_329 (by decide) rfl (fun _ => ?_) (fun c329 => absurd (rfl) c329)
  exact kk s2 m2 h2 (xS_fr x1 (fun c hc => f2 c (by omega))) y2

set_option maxRecDepth 100000 in
set_option maxHeartbeats 2000000 in
theorem law_c4 {len : Nat} {xs : Nat → Int32} (hlen : len ≤ 3072) {i : Nat} (hi : i + 6 ≤ len) {s : Sx} {mu : Nat → Nat → Int32} {h : Int64} {Q : rn_Q} (h1_ : xS s mu) (h2_ : mS s mu) (kk : ∀ (s2 : Sx) (mu2 : Nat → Nat → Int32) (h2 : Int64), xS s2 mu2 → mS s2 mu2 → rn_R (some (len, xs)) mL_law 101 1254 [some (.ref 99), some (.ref 0), some (.ref 22), some (.int (nI i))] [] mu2 h2 Q) : rn_R (some (len, xs)) mL_law 101 334 [some (.ref 99), some (.ref 0), some (.ref 22), some (.int (nI i))] [] mu h Q := by
  obtain ⟨ans, s2, hx, hm⟩ := op_clear  s
  refine rn_aload_n 335 dL_law_334 rfl rfl rfl ?_
  refine rn_callV mX8_clear [] [] dL_law_335 cv_L_33 rfl rfl rfl (by simp [Value.category]) (hx mu h h1_) (fun r1 m1 h1 q1 ok1 => ?_)
  obtain ⟨e1, x1, f1⟩ := q1
  subst e1
  obtain ⟨v, rfl⟩ := an_int ok1
  show rn_R _ mL_law _ 338 [some (.ref 99), some (.ref 0), some (.ref 22), some (.int (nI i))] [.int v] m1 h1 _
  refine rn_aload_n 339 dL_law_338 rfl rfl rfl ?_
  refine rn_callV mX9_clear [] [.int v] dL_law_339 cv_L_37 rfl rfl rfl (by simp [Value.category]) (hm m1 h1 (mS_fr h2_ (fun c c1 c2 => f1 c c1))) (fun r2 m2 h2 q2 ok2 => ?_)
  obtain ⟨e2, y2, f2⟩ := q2
  subst e2
  show rn_R _ mL_law _ 342 [some (.ref 99), some (.ref 0), some (.ref 22), some (.int (nI i))] [.int v, .int v] m2 h2 _
  refine rn_icmp_eq 1254 345 dL_law_342 (by decide) rfl (fun _ => ?_) (fun c342 => absurd (rfl) c342)
  exact kk s2 m2 h2 (xS_fr x1 (fun c hc => f2 c (by omega))) y2

set_option maxRecDepth 100000 in
set_option maxHeartbeats 2000000 in
theorem law_c5 {len : Nat} {xs : Nat → Int32} (hlen : len ≤ 3072) {i : Nat} (hi : i + 6 ≤ len) {s : Sx} {mu : Nat → Nat → Int32} {h : Int64} {Q : rn_Q} (h1_ : xS s mu) (h2_ : mS s mu) (kk : ∀ (s2 : Sx) (mu2 : Nat → Nat → Int32) (h2 : Int64), xS s2 mu2 → mS s2 mu2 → rn_R (some (len, xs)) mL_law 101 1254 [some (.ref 99), some (.ref 0), some (.ref 22), some (.int (nI i))] [] mu2 h2 Q) : rn_R (some (len, xs)) mL_law 101 347 [some (.ref 99), some (.ref 0), some (.ref 22), some (.int (nI i))] [] mu h Q := by
  obtain ⟨ans, s2, hx, hm⟩ := op_type (xs (i + 1)) s
  refine rn_aload_n 348 dL_law_347 rfl rfl rfl ?_
  refine rn_aload_n 349 dL_law_348 rfl rfl rfl ?_
  refine rn_iload_n 350 dL_law_349 rfl rfl rfl ?_
  refine rn_iconst (v := 1) 351 dL_law_350 (by decide) rfl ?_
  refine rn_iadd 352 dL_law_351 rfl ?_
  rw [show nI i + 1 = nI (i + 1) from nI_add i 1]
  refine rn_sld 353 (xs (i + 1)) dL_law_352 (vp_in_nI (by omega) (by omega)) (by rw [nI_clamp (by omega)]) rfl ?_
  refine rn_callV mX8_type [.int (xs (i + 1))] [] dL_law_353 cv_L_38 rfl rfl rfl (by simp [Value.category]) (hx mu h h1_) (fun r1 m1 h1 q1 ok1 => ?_)
  obtain ⟨e1, x1, f1⟩ := q1
  subst e1
  obtain ⟨v, rfl⟩ := an_int ok1
  show rn_R _ mL_law _ 356 [some (.ref 99), some (.ref 0), some (.ref 22), some (.int (nI i))] [.int v] m1 h1 _
  refine rn_aload_n 357 dL_law_356 rfl rfl rfl ?_
  refine rn_aload_n 358 dL_law_357 rfl rfl rfl ?_
  refine rn_iload_n 359 dL_law_358 rfl rfl rfl ?_
  refine rn_iconst (v := 1) 360 dL_law_359 (by decide) rfl ?_
  refine rn_iadd 361 dL_law_360 rfl ?_
  rw [show nI i + 1 = nI (i + 1) from nI_add i 1]
  refine rn_sld 362 (xs (i + 1)) dL_law_361 (vp_in_nI (by omega) (by omega)) (by rw [nI_clamp (by omega)]) rfl ?_
  refine rn_callV mX9_type [.int (xs (i + 1))] [.int v] dL_law_362 cv_L_41 rfl rfl rfl (by simp [Value.category]) (hm m1 h1 (mS_fr h2_ (fun c c1 c2 => f1 c c1))) (fun r2 m2 h2 q2 ok2 => ?_)
  obtain ⟨e2, y2, f2⟩ := q2
  subst e2
  show rn_R _ mL_law _ 365 [some (.ref 99), some (.ref 0), some (.ref 22), some (.int (nI i))] [.int v, .int v] m2 h2 _
  refine rn_icmp_eq 1254 368 dL_law_365 (by decide) rfl (fun _ => ?_) (fun c365 => absurd (rfl) c365)
  exact kk s2 m2 h2 (xS_fr x1 (fun c hc => f2 c (by omega))) y2

set_option maxRecDepth 100000 in
set_option maxHeartbeats 2000000 in
theorem law_c6 {len : Nat} {xs : Nat → Int32} (hlen : len ≤ 3072) {i : Nat} (hi : i + 6 ≤ len) {s : Sx} {mu : Nat → Nat → Int32} {h : Int64} {Q : rn_Q} (h1_ : xS s mu) (h2_ : mS s mu) (kk : ∀ (s2 : Sx) (mu2 : Nat → Nat → Int32) (h2 : Int64), xS s2 mu2 → mS s2 mu2 → rn_R (some (len, xs)) mL_law 101 1254 [some (.ref 99), some (.ref 0), some (.ref 22), some (.int (nI i))] [] mu2 h2 Q) : rn_R (some (len, xs)) mL_law 101 370 [some (.ref 99), some (.ref 0), some (.ref 22), some (.int (nI i))] [] mu h Q := by
  obtain ⟨ans, s2, hx, hm⟩ := op_clearText  s
  refine rn_aload_n 371 dL_law_370 rfl rfl rfl ?_
  refine rn_callV mX8_clearText [] [] dL_law_371 cv_L_42 rfl rfl rfl (by simp [Value.category]) (hx mu h h1_) (fun r1 m1 h1 q1 ok1 => ?_)
  obtain ⟨e1, x1, f1⟩ := q1
  subst e1
  obtain ⟨v, rfl⟩ := an_int ok1
  show rn_R _ mL_law _ 374 [some (.ref 99), some (.ref 0), some (.ref 22), some (.int (nI i))] [.int v] m1 h1 _
  refine rn_aload_n 375 dL_law_374 rfl rfl rfl ?_
  refine rn_callV mX9_clearText [] [.int v] dL_law_375 cv_L_45 rfl rfl rfl (by simp [Value.category]) (hm m1 h1 (mS_fr h2_ (fun c c1 c2 => f1 c c1))) (fun r2 m2 h2 q2 ok2 => ?_)
  obtain ⟨e2, y2, f2⟩ := q2
  subst e2
  show rn_R _ mL_law _ 378 [some (.ref 99), some (.ref 0), some (.ref 22), some (.int (nI i))] [.int v, .int v] m2 h2 _
  refine rn_icmp_eq 1254 381 dL_law_378 (by decide) rfl (fun _ => ?_) (fun c378 => absurd (rfl) c378)
  exact kk s2 m2 h2 (xS_fr x1 (fun c hc => f2 c (by omega))) y2

set_option maxRecDepth 100000 in
set_option maxHeartbeats 2000000 in
theorem law_c7 {len : Nat} {xs : Nat → Int32} (hlen : len ≤ 3072) {i : Nat} (hi : i + 6 ≤ len) {s : Sx} {mu : Nat → Nat → Int32} {h : Int64} {Q : rn_Q} (h1_ : xS s mu) (h2_ : mS s mu) (kk : ∀ (s2 : Sx) (mu2 : Nat → Nat → Int32) (h2 : Int64), xS s2 mu2 → mS s2 mu2 → rn_R (some (len, xs)) mL_law 101 1254 [some (.ref 99), some (.ref 0), some (.ref 22), some (.int (nI i))] [] mu2 h2 Q) : rn_R (some (len, xs)) mL_law 101 383 [some (.ref 99), some (.ref 0), some (.ref 22), some (.int (nI i))] [] mu h Q := by
  obtain ⟨ans, s2, hx, hm⟩ := op_fault  s
  refine rn_aload_n 384 dL_law_383 rfl rfl rfl ?_
  refine rn_callV mX8_fault [] [] dL_law_384 cv_L_46 rfl rfl rfl (by simp [Value.category]) (hx mu h h1_) (fun r1 m1 h1 q1 ok1 => ?_)
  obtain ⟨e1, x1, f1⟩ := q1
  subst e1
  obtain ⟨v, rfl⟩ := an_int ok1
  show rn_R _ mL_law _ 387 [some (.ref 99), some (.ref 0), some (.ref 22), some (.int (nI i))] [.int v] m1 h1 _
  refine rn_aload_n 388 dL_law_387 rfl rfl rfl ?_
  refine rn_callV mX9_fault [] [.int v] dL_law_388 cv_L_49 rfl rfl rfl (by simp [Value.category]) (hm m1 h1 (mS_fr h2_ (fun c c1 c2 => f1 c c1))) (fun r2 m2 h2 q2 ok2 => ?_)
  obtain ⟨e2, y2, f2⟩ := q2
  subst e2
  show rn_R _ mL_law _ 391 [some (.ref 99), some (.ref 0), some (.ref 22), some (.int (nI i))] [.int v, .int v] m2 h2 _
  refine rn_icmp_eq 1254 394 dL_law_391 (by decide) rfl (fun _ => ?_) (fun c391 => absurd (rfl) c391)
  exact kk s2 m2 h2 (xS_fr x1 (fun c hc => f2 c (by omega))) y2

set_option maxRecDepth 100000 in
set_option maxHeartbeats 2000000 in
theorem law_c8 {len : Nat} {xs : Nat → Int32} (hlen : len ≤ 3072) {i : Nat} (hi : i + 6 ≤ len) {s : Sx} {mu : Nat → Nat → Int32} {h : Int64} {Q : rn_Q} (h1_ : xS s mu) (h2_ : mS s mu) (kk : ∀ (s2 : Sx) (mu2 : Nat → Nat → Int32) (h2 : Int64), xS s2 mu2 → mS s2 mu2 → rn_R (some (len, xs)) mL_law 101 1254 [some (.ref 99), some (.ref 0), some (.ref 22), some (.int (nI i))] [] mu2 h2 Q) : rn_R (some (len, xs)) mL_law 101 396 [some (.ref 99), some (.ref 0), some (.ref 22), some (.int (nI i))] [] mu h Q := by
  obtain ⟨ans, s2, hx, hm⟩ := op_load  s
  refine rn_aload_n 397 dL_law_396 rfl rfl rfl ?_
  refine rn_callV mX8_load [] [] dL_law_397 cv_L_50 rfl rfl rfl (by simp [Value.category]) (hx mu h h1_) (fun r1 m1 h1 q1 ok1 => ?_)
  obtain ⟨e1, x1, f1⟩ := q1
  subst e1
  obtain ⟨v, rfl⟩ := an_int ok1
  show rn_R _ mL_law _ 400 [some (.ref 99), some (.ref 0), some (.ref 22), some (.int (nI i))] [.int v] m1 h1 _
  refine rn_aload_n 401 dL_law_400 rfl rfl rfl ?_
  refine rn_callV mX9_load [] [.int v] dL_law_401 cv_L_53 rfl rfl rfl (by simp [Value.category]) (hm m1 h1 (mS_fr h2_ (fun c c1 c2 => f1 c c1))) (fun r2 m2 h2 q2 ok2 => ?_)
  obtain ⟨e2, y2, f2⟩ := q2
  subst e2
  show rn_R _ mL_law _ 404 [some (.ref 99), some (.ref 0), some (.ref 22), some (.int (nI i))] [.int v, .int v] m2 h2 _
  refine rn_icmp_eq 1254 407 dL_law_404 (by decide) rfl (fun _ => ?_) (fun c404 => absurd (rfl) c404)
  exact kk s2 m2 h2 (xS_fr x1 (fun c hc => f2 c (by omega))) y2

set_option maxRecDepth 100000 in
set_option maxHeartbeats 2000000 in
theorem law_c9 {len : Nat} {xs : Nat → Int32} (hlen : len ≤ 3072) {i : Nat} (hi : i + 6 ≤ len) {s : Sx} {mu : Nat → Nat → Int32} {h : Int64} {Q : rn_Q} (h1_ : xS s mu) (h2_ : mS s mu) (kk : ∀ (s2 : Sx) (mu2 : Nat → Nat → Int32) (h2 : Int64), xS s2 mu2 → mS s2 mu2 → rn_R (some (len, xs)) mL_law 101 1254 [some (.ref 99), some (.ref 0), some (.ref 22), some (.int (nI i))] [] mu2 h2 Q) : rn_R (some (len, xs)) mL_law 101 409 [some (.ref 99), some (.ref 0), some (.ref 22), some (.int (nI i))] [] mu h Q := by
  by_cases qb : xs (i + 2) = 0
  · skip
    obtain ⟨ans, s2, hx, hm⟩ := op_attack (xs (i + 1)) 0 (Or.inl rfl) s
    refine rn_aload_n 410 dL_law_409 rfl rfl rfl ?_
    refine rn_aload_n 411 dL_law_410 rfl rfl rfl ?_
    refine rn_iload_n 412 dL_law_411 rfl rfl rfl ?_
    refine rn_iconst (v := 1) 413 dL_law_412 (by decide) rfl ?_
    refine rn_iadd 414 dL_law_413 rfl ?_
    rw [show nI i + 1 = nI (i + 1) from nI_add i 1]
    refine rn_sld 415 (xs (i + 1)) dL_law_414 (vp_in_nI (by omega) (by omega)) (by rw [nI_clamp (by omega)]) rfl ?_
    refine rn_aload_n 416 dL_law_415 rfl rfl rfl ?_
    refine rn_iload_n 417 dL_law_416 rfl rfl rfl ?_
    refine rn_iconst (v := 2) 418 dL_law_417 (by decide) rfl ?_
    refine rn_iadd 419 dL_law_418 rfl ?_
    rw [show nI i + 2 = nI (i + 2) from nI_add i 2]
    refine rn_sld 420 (xs (i + 2)) dL_law_419 (vp_in_nI (by omega) (by omega)) (by rw [nI_clamp (by omega)]) rfl ?_
    refine rn_if_eq 427 423 dL_law_420 (by decide) rfl (fun _ => ?_) (fun c420 => absurd (qb) c420)
    refine rn_iconst (v := 0) 428 dL_law_427 (by decide) rfl ?_
    refine rn_callV mX8_attack [.int (xs (i + 1)), .int 0] [] dL_law_428 cv_L_54 rfl rfl rfl (by simp [Value.category]) (hx mu h h1_) (fun r1 m1 h1 q1 ok1 => ?_)
    obtain ⟨e1, x1, f1⟩ := q1
    subst e1
    obtain ⟨v, rfl⟩ := an_int ok1
    show rn_R _ mL_law _ 431 [some (.ref 99), some (.ref 0), some (.ref 22), some (.int (nI i))] [.int v] m1 h1 _
    refine rn_aload_n 432 dL_law_431 rfl rfl rfl ?_
    refine rn_aload_n 433 dL_law_432 rfl rfl rfl ?_
    refine rn_iload_n 434 dL_law_433 rfl rfl rfl ?_
    refine rn_iconst (v := 1) 435 dL_law_434 (by decide) rfl ?_
    refine rn_iadd 436 dL_law_435 rfl ?_
    rw [show nI i + 1 = nI (i + 1) from nI_add i 1]
    refine rn_sld 437 (xs (i + 1)) dL_law_436 (vp_in_nI (by omega) (by omega)) (by rw [nI_clamp (by omega)]) rfl ?_
    refine rn_aload_n 438 dL_law_437 rfl rfl rfl ?_
    refine rn_iload_n 439 dL_law_438 rfl rfl rfl ?_
    refine rn_iconst (v := 2) 440 dL_law_439 (by decide) rfl ?_
    refine rn_iadd 441 dL_law_440 rfl ?_
    rw [show nI i + 2 = nI (i + 2) from nI_add i 2]
    refine rn_sld 442 (xs (i + 2)) dL_law_441 (vp_in_nI (by omega) (by omega)) (by rw [nI_clamp (by omega)]) rfl ?_
    refine rn_if_eq 449 445 dL_law_442 (by decide) rfl (fun _ => ?_) (fun c442 => absurd (qb) c442)
    refine rn_iconst (v := 0) 450 dL_law_449 (by decide) rfl ?_
    refine rn_callV mX9_attack [.int (xs (i + 1)), .int 0] [.int v] dL_law_450 cv_L_58 rfl rfl rfl (by simp [Value.category]) (hm m1 h1 (mS_fr h2_ (fun c c1 c2 => f1 c c1))) (fun r2 m2 h2 q2 ok2 => ?_)
    obtain ⟨e2, y2, f2⟩ := q2
    subst e2
    show rn_R _ mL_law _ 453 [some (.ref 99), some (.ref 0), some (.ref 22), some (.int (nI i))] [.int v, .int v] m2 h2 _
    refine rn_icmp_eq 1254 456 dL_law_453 (by decide) rfl (fun _ => ?_) (fun c453 => absurd (rfl) c453)
    exact kk s2 m2 h2 (xS_fr x1 (fun c hc => f2 c (by omega))) y2
  · skip
    obtain ⟨ans, s2, hx, hm⟩ := op_attack (xs (i + 1)) 1 (Or.inr rfl) s
    refine rn_aload_n 410 dL_law_409 rfl rfl rfl ?_
    refine rn_aload_n 411 dL_law_410 rfl rfl rfl ?_
    refine rn_iload_n 412 dL_law_411 rfl rfl rfl ?_
    refine rn_iconst (v := 1) 413 dL_law_412 (by decide) rfl ?_
    refine rn_iadd 414 dL_law_413 rfl ?_
    rw [show nI i + 1 = nI (i + 1) from nI_add i 1]
    refine rn_sld 415 (xs (i + 1)) dL_law_414 (vp_in_nI (by omega) (by omega)) (by rw [nI_clamp (by omega)]) rfl ?_
    refine rn_aload_n 416 dL_law_415 rfl rfl rfl ?_
    refine rn_iload_n 417 dL_law_416 rfl rfl rfl ?_
    refine rn_iconst (v := 2) 418 dL_law_417 (by decide) rfl ?_
    refine rn_iadd 419 dL_law_418 rfl ?_
    rw [show nI i + 2 = nI (i + 2) from nI_add i 2]
    refine rn_sld 420 (xs (i + 2)) dL_law_419 (vp_in_nI (by omega) (by omega)) (by rw [nI_clamp (by omega)]) rfl ?_
    refine rn_if_eq 427 423 dL_law_420 (by decide) rfl (fun c420 => absurd c420 (qb)) (fun _ => ?_)
    refine rn_iconst (v := 1) 424 dL_law_423 (by decide) rfl ?_
    refine rn_goto 428 dL_law_424 (by decide) ?_
    refine rn_callV mX8_attack [.int (xs (i + 1)), .int 1] [] dL_law_428 cv_L_54 rfl rfl rfl (by simp [Value.category]) (hx mu h h1_) (fun r1 m1 h1 q1 ok1 => ?_)
    obtain ⟨e1, x1, f1⟩ := q1
    subst e1
    obtain ⟨v, rfl⟩ := an_int ok1
    show rn_R _ mL_law _ 431 [some (.ref 99), some (.ref 0), some (.ref 22), some (.int (nI i))] [.int v] m1 h1 _
    refine rn_aload_n 432 dL_law_431 rfl rfl rfl ?_
    refine rn_aload_n 433 dL_law_432 rfl rfl rfl ?_
    refine rn_iload_n 434 dL_law_433 rfl rfl rfl ?_
    refine rn_iconst (v := 1) 435 dL_law_434 (by decide) rfl ?_
    refine rn_iadd 436 dL_law_435 rfl ?_
    rw [show nI i + 1 = nI (i + 1) from nI_add i 1]
    refine rn_sld 437 (xs (i + 1)) dL_law_436 (vp_in_nI (by omega) (by omega)) (by rw [nI_clamp (by omega)]) rfl ?_
    refine rn_aload_n 438 dL_law_437 rfl rfl rfl ?_
    refine rn_iload_n 439 dL_law_438 rfl rfl rfl ?_
    refine rn_iconst (v := 2) 440 dL_law_439 (by decide) rfl ?_
    refine rn_iadd 441 dL_law_440 rfl ?_
    rw [show nI i + 2 = nI (i + 2) from nI_add i 2]
    refine rn_sld 442 (xs (i + 2)) dL_law_441 (vp_in_nI (by omega) (by omega)) (by rw [nI_clamp (by omega)]) rfl ?_
    refine rn_if_eq 449 445 dL_law_442 (by decide) rfl (fun c442 => absurd c442 (qb)) (fun _ => ?_)
    refine rn_iconst (v := 1) 446 dL_law_445 (by decide) rfl ?_
    refine rn_goto 450 dL_law_446 (by decide) ?_
    refine rn_callV mX9_attack [.int (xs (i + 1)), .int 1] [.int v] dL_law_450 cv_L_58 rfl rfl rfl (by simp [Value.category]) (hm m1 h1 (mS_fr h2_ (fun c c1 c2 => f1 c c1))) (fun r2 m2 h2 q2 ok2 => ?_)
    obtain ⟨e2, y2, f2⟩ := q2
    subst e2
    show rn_R _ mL_law _ 453 [some (.ref 99), some (.ref 0), some (.ref 22), some (.int (nI i))] [.int v, .int v] m2 h2 _
    refine rn_icmp_eq 1254 456 dL_law_453 (by decide) rfl (fun _ => ?_) (fun c453 => absurd (rfl) c453)
    exact kk s2 m2 h2 (xS_fr x1 (fun c hc => f2 c (by omega))) y2

set_option maxRecDepth 100000 in
set_option maxHeartbeats 2000000 in
theorem law_c10 {len : Nat} {xs : Nat → Int32} (hlen : len ≤ 3072) {i : Nat} (hi : i + 6 ≤ len) {s : Sx} {mu : Nat → Nat → Int32} {h : Int64} {Q : rn_Q} (h1_ : xS s mu) (h2_ : mS s mu) (kk : ∀ (s2 : Sx) (mu2 : Nat → Nat → Int32) (h2 : Int64), xS s2 mu2 → mS s2 mu2 → rn_R (some (len, xs)) mL_law 101 1254 [some (.ref 99), some (.ref 0), some (.ref 22), some (.int (nI i))] [] mu2 h2 Q) : rn_R (some (len, xs)) mL_law 101 458 [some (.ref 99), some (.ref 0), some (.ref 22), some (.int (nI i))] [] mu h Q := by
  obtain ⟨ans, s2, hx, hm⟩ := op_setAttack (xs (i + 1)) s
  refine rn_aload_n 459 dL_law_458 rfl rfl rfl ?_
  refine rn_aload_n 460 dL_law_459 rfl rfl rfl ?_
  refine rn_iload_n 461 dL_law_460 rfl rfl rfl ?_
  refine rn_iconst (v := 1) 462 dL_law_461 (by decide) rfl ?_
  refine rn_iadd 463 dL_law_462 rfl ?_
  rw [show nI i + 1 = nI (i + 1) from nI_add i 1]
  refine rn_sld 464 (xs (i + 1)) dL_law_463 (vp_in_nI (by omega) (by omega)) (by rw [nI_clamp (by omega)]) rfl ?_
  refine rn_callV mX8_setAttack [.int (xs (i + 1))] [] dL_law_464 cv_L_59 rfl rfl rfl (by simp [Value.category]) (hx mu h h1_) (fun r1 m1 h1 q1 ok1 => ?_)
  obtain ⟨e1, x1, f1⟩ := q1
  subst e1
  obtain ⟨v, rfl⟩ := an_int ok1
  show rn_R _ mL_law _ 467 [some (.ref 99), some (.ref 0), some (.ref 22), some (.int (nI i))] [.int v] m1 h1 _
  refine rn_aload_n 468 dL_law_467 rfl rfl rfl ?_
  refine rn_aload_n 469 dL_law_468 rfl rfl rfl ?_
  refine rn_iload_n 470 dL_law_469 rfl rfl rfl ?_
  refine rn_iconst (v := 1) 471 dL_law_470 (by decide) rfl ?_
  refine rn_iadd 472 dL_law_471 rfl ?_
  rw [show nI i + 1 = nI (i + 1) from nI_add i 1]
  refine rn_sld 473 (xs (i + 1)) dL_law_472 (vp_in_nI (by omega) (by omega)) (by rw [nI_clamp (by omega)]) rfl ?_
  refine rn_callV mX9_setAttack [.int (xs (i + 1))] [.int v] dL_law_473 cv_L_62 rfl rfl rfl (by simp [Value.category]) (hm m1 h1 (mS_fr h2_ (fun c c1 c2 => f1 c c1))) (fun r2 m2 h2 q2 ok2 => ?_)
  obtain ⟨e2, y2, f2⟩ := q2
  subst e2
  show rn_R _ mL_law _ 476 [some (.ref 99), some (.ref 0), some (.ref 22), some (.int (nI i))] [.int v, .int v] m2 h2 _
  refine rn_icmp_eq 1254 479 dL_law_476 (by decide) rfl (fun _ => ?_) (fun c476 => absurd (rfl) c476)
  exact kk s2 m2 h2 (xS_fr x1 (fun c hc => f2 c (by omega))) y2

set_option maxRecDepth 100000 in
set_option maxHeartbeats 2000000 in
theorem law_c11 {len : Nat} {xs : Nat → Int32} (hlen : len ≤ 3072) {i : Nat} (hi : i + 6 ≤ len) {s : Sx} {mu : Nat → Nat → Int32} {h : Int64} {Q : rn_Q} (h1_ : xS s mu) (h2_ : mS s mu) (kk : ∀ (s2 : Sx) (mu2 : Nat → Nat → Int32) (h2 : Int64), xS s2 mu2 → mS s2 mu2 → rn_R (some (len, xs)) mL_law 101 1254 [some (.ref 99), some (.ref 0), some (.ref 22), some (.int (nI i))] [] mu2 h2 Q) : rn_R (some (len, xs)) mL_law 101 481 [some (.ref 99), some (.ref 0), some (.ref 22), some (.int (nI i))] [] mu h Q := by
  obtain ⟨ans, s2, hx, hm⟩ := op_distance (xs (i + 1)) (xs (i + 2)) s
  refine rn_aload_n 482 dL_law_481 rfl rfl rfl ?_
  refine rn_aload_n 483 dL_law_482 rfl rfl rfl ?_
  refine rn_iload_n 484 dL_law_483 rfl rfl rfl ?_
  refine rn_iconst (v := 1) 485 dL_law_484 (by decide) rfl ?_
  refine rn_iadd 486 dL_law_485 rfl ?_
  rw [show nI i + 1 = nI (i + 1) from nI_add i 1]
  refine rn_sld 487 (xs (i + 1)) dL_law_486 (vp_in_nI (by omega) (by omega)) (by rw [nI_clamp (by omega)]) rfl ?_
  refine rn_aload_n 488 dL_law_487 rfl rfl rfl ?_
  refine rn_iload_n 489 dL_law_488 rfl rfl rfl ?_
  refine rn_iconst (v := 2) 490 dL_law_489 (by decide) rfl ?_
  refine rn_iadd 491 dL_law_490 rfl ?_
  rw [show nI i + 2 = nI (i + 2) from nI_add i 2]
  refine rn_sld 492 (xs (i + 2)) dL_law_491 (vp_in_nI (by omega) (by omega)) (by rw [nI_clamp (by omega)]) rfl ?_
  refine rn_callV mX8_distance [.int (xs (i + 1)), .int (xs (i + 2))] [] dL_law_492 cv_L_63 rfl rfl rfl (by simp [Value.category]) (hx mu h h1_) (fun r1 m1 h1 q1 ok1 => ?_)
  obtain ⟨e1, x1, f1⟩ := q1
  subst e1
  obtain ⟨v, rfl⟩ := an_int ok1
  show rn_R _ mL_law _ 495 [some (.ref 99), some (.ref 0), some (.ref 22), some (.int (nI i))] [.int v] m1 h1 _
  refine rn_aload_n 496 dL_law_495 rfl rfl rfl ?_
  refine rn_aload_n 497 dL_law_496 rfl rfl rfl ?_
  refine rn_iload_n 498 dL_law_497 rfl rfl rfl ?_
  refine rn_iconst (v := 1) 499 dL_law_498 (by decide) rfl ?_
  refine rn_iadd 500 dL_law_499 rfl ?_
  rw [show nI i + 1 = nI (i + 1) from nI_add i 1]
  refine rn_sld 501 (xs (i + 1)) dL_law_500 (vp_in_nI (by omega) (by omega)) (by rw [nI_clamp (by omega)]) rfl ?_
  refine rn_aload_n 502 dL_law_501 rfl rfl rfl ?_
  refine rn_iload_n 503 dL_law_502 rfl rfl rfl ?_
  refine rn_iconst (v := 2) 504 dL_law_503 (by decide) rfl ?_
  refine rn_iadd 505 dL_law_504 rfl ?_
  rw [show nI i + 2 = nI (i + 2) from nI_add i 2]
  refine rn_sld 506 (xs (i + 2)) dL_law_505 (vp_in_nI (by omega) (by omega)) (by rw [nI_clamp (by omega)]) rfl ?_
  refine rn_callV mX9_distance [.int (xs (i + 1)), .int (xs (i + 2))] [.int v] dL_law_506 cv_L_66 rfl rfl rfl (by simp [Value.category]) (hm m1 h1 (mS_fr h2_ (fun c c1 c2 => f1 c c1))) (fun r2 m2 h2 q2 ok2 => ?_)
  obtain ⟨e2, y2, f2⟩ := q2
  subst e2
  show rn_R _ mL_law _ 509 [some (.ref 99), some (.ref 0), some (.ref 22), some (.int (nI i))] [.int v, .int v] m2 h2 _
  refine rn_icmp_eq 1254 512 dL_law_509 (by decide) rfl (fun _ => ?_) (fun c509 => absurd (rfl) c509)
  exact kk s2 m2 h2 (xS_fr x1 (fun c hc => f2 c (by omega))) y2

set_option maxRecDepth 100000 in
set_option maxHeartbeats 2000000 in
theorem law_c12 {len : Nat} {xs : Nat → Int32} (hlen : len ≤ 3072) {i : Nat} (hi : i + 6 ≤ len) {s : Sx} {mu : Nat → Nat → Int32} {h : Int64} {Q : rn_Q} (h1_ : xS s mu) (h2_ : mS s mu) (kk : ∀ (s2 : Sx) (mu2 : Nat → Nat → Int32) (h2 : Int64), xS s2 mu2 → mS s2 mu2 → rn_R (some (len, xs)) mL_law 101 1254 [some (.ref 99), some (.ref 0), some (.ref 22), some (.int (nI i))] [] mu2 h2 Q) : rn_R (some (len, xs)) mL_law 101 514 [some (.ref 99), some (.ref 0), some (.ref 22), some (.int (nI i))] [] mu h Q := by
  obtain ⟨ans, s2, hx, hm⟩ := op_first (xs (i + 1)) (xs (i + 2)) (xs (i + 3)) s
  refine rn_aload_n 515 dL_law_514 rfl rfl rfl ?_
  refine rn_aload_n 516 dL_law_515 rfl rfl rfl ?_
  refine rn_iload_n 517 dL_law_516 rfl rfl rfl ?_
  refine rn_iconst (v := 1) 518 dL_law_517 (by decide) rfl ?_
  refine rn_iadd 519 dL_law_518 rfl ?_
  rw [show nI i + 1 = nI (i + 1) from nI_add i 1]
  refine rn_sld 520 (xs (i + 1)) dL_law_519 (vp_in_nI (by omega) (by omega)) (by rw [nI_clamp (by omega)]) rfl ?_
  refine rn_aload_n 521 dL_law_520 rfl rfl rfl ?_
  refine rn_iload_n 522 dL_law_521 rfl rfl rfl ?_
  refine rn_iconst (v := 2) 523 dL_law_522 (by decide) rfl ?_
  refine rn_iadd 524 dL_law_523 rfl ?_
  rw [show nI i + 2 = nI (i + 2) from nI_add i 2]
  refine rn_sld 525 (xs (i + 2)) dL_law_524 (vp_in_nI (by omega) (by omega)) (by rw [nI_clamp (by omega)]) rfl ?_
  refine rn_aload_n 526 dL_law_525 rfl rfl rfl ?_
  refine rn_iload_n 527 dL_law_526 rfl rfl rfl ?_
  refine rn_iconst (v := 3) 528 dL_law_527 (by decide) rfl ?_
  refine rn_iadd 529 dL_law_528 rfl ?_
  rw [show nI i + 3 = nI (i + 3) from nI_add i 3]
  refine rn_sld 530 (xs (i + 3)) dL_law_529 (vp_in_nI (by omega) (by omega)) (by rw [nI_clamp (by omega)]) rfl ?_
  refine rn_callV mX8_first [.int (xs (i + 1)), .int (xs (i + 2)), .int (xs (i + 3))] [] dL_law_530 cv_L_67 rfl rfl rfl (by simp [Value.category]) (hx mu h h1_) (fun r1 m1 h1 q1 ok1 => ?_)
  obtain ⟨e1, x1, f1⟩ := q1
  subst e1
  obtain ⟨v, rfl⟩ := an_int ok1
  show rn_R _ mL_law _ 533 [some (.ref 99), some (.ref 0), some (.ref 22), some (.int (nI i))] [.int v] m1 h1 _
  refine rn_aload_n 534 dL_law_533 rfl rfl rfl ?_
  refine rn_aload_n 535 dL_law_534 rfl rfl rfl ?_
  refine rn_iload_n 536 dL_law_535 rfl rfl rfl ?_
  refine rn_iconst (v := 1) 537 dL_law_536 (by decide) rfl ?_
  refine rn_iadd 538 dL_law_537 rfl ?_
  rw [show nI i + 1 = nI (i + 1) from nI_add i 1]
  refine rn_sld 539 (xs (i + 1)) dL_law_538 (vp_in_nI (by omega) (by omega)) (by rw [nI_clamp (by omega)]) rfl ?_
  refine rn_aload_n 540 dL_law_539 rfl rfl rfl ?_
  refine rn_iload_n 541 dL_law_540 rfl rfl rfl ?_
  refine rn_iconst (v := 2) 542 dL_law_541 (by decide) rfl ?_
  refine rn_iadd 543 dL_law_542 rfl ?_
  rw [show nI i + 2 = nI (i + 2) from nI_add i 2]
  refine rn_sld 544 (xs (i + 2)) dL_law_543 (vp_in_nI (by omega) (by omega)) (by rw [nI_clamp (by omega)]) rfl ?_
  refine rn_aload_n 545 dL_law_544 rfl rfl rfl ?_
  refine rn_iload_n 546 dL_law_545 rfl rfl rfl ?_
  refine rn_iconst (v := 3) 547 dL_law_546 (by decide) rfl ?_
  refine rn_iadd 548 dL_law_547 rfl ?_
  rw [show nI i + 3 = nI (i + 3) from nI_add i 3]
  refine rn_sld 549 (xs (i + 3)) dL_law_548 (vp_in_nI (by omega) (by omega)) (by rw [nI_clamp (by omega)]) rfl ?_
  refine rn_callV mX9_first [.int (xs (i + 1)), .int (xs (i + 2)), .int (xs (i + 3))] [.int v] dL_law_549 cv_L_70 rfl rfl rfl (by simp [Value.category]) (hm m1 h1 (mS_fr h2_ (fun c c1 c2 => f1 c c1))) (fun r2 m2 h2 q2 ok2 => ?_)
  obtain ⟨e2, y2, f2⟩ := q2
  subst e2
  show rn_R _ mL_law _ 552 [some (.ref 99), some (.ref 0), some (.ref 22), some (.int (nI i))] [.int v, .int v] m2 h2 _
  refine rn_icmp_eq 1254 555 dL_law_552 (by decide) rfl (fun _ => ?_) (fun c552 => absurd (rfl) c552)
  exact kk s2 m2 h2 (xS_fr x1 (fun c hc => f2 c (by omega))) y2

set_option maxRecDepth 100000 in
set_option maxHeartbeats 2000000 in
theorem law_c13 {len : Nat} {xs : Nat → Int32} (hlen : len ≤ 3072) {i : Nat} (hi : i + 6 ≤ len) {s : Sx} {mu : Nat → Nat → Int32} {h : Int64} {Q : rn_Q} (h1_ : xS s mu) (h2_ : mS s mu) (kk : ∀ (s2 : Sx) (mu2 : Nat → Nat → Int32) (h2 : Int64), xS s2 mu2 → mS s2 mu2 → rn_R (some (len, xs)) mL_law 101 1254 [some (.ref 99), some (.ref 0), some (.ref 22), some (.int (nI i))] [] mu2 h2 Q) : rn_R (some (len, xs)) mL_law 101 557 [some (.ref 99), some (.ref 0), some (.ref 22), some (.int (nI i))] [] mu h Q := by
  obtain ⟨ans, s2, hx, hm⟩ := op_paths (xs (i + 1)) (xs (i + 2)) (xs (i + 3)) s
  refine rn_aload_n 558 dL_law_557 rfl rfl rfl ?_
  refine rn_aload_n 559 dL_law_558 rfl rfl rfl ?_
  refine rn_iload_n 560 dL_law_559 rfl rfl rfl ?_
  refine rn_iconst (v := 1) 561 dL_law_560 (by decide) rfl ?_
  refine rn_iadd 562 dL_law_561 rfl ?_
  rw [show nI i + 1 = nI (i + 1) from nI_add i 1]
  refine rn_sld 563 (xs (i + 1)) dL_law_562 (vp_in_nI (by omega) (by omega)) (by rw [nI_clamp (by omega)]) rfl ?_
  refine rn_aload_n 564 dL_law_563 rfl rfl rfl ?_
  refine rn_iload_n 565 dL_law_564 rfl rfl rfl ?_
  refine rn_iconst (v := 2) 566 dL_law_565 (by decide) rfl ?_
  refine rn_iadd 567 dL_law_566 rfl ?_
  rw [show nI i + 2 = nI (i + 2) from nI_add i 2]
  refine rn_sld 568 (xs (i + 2)) dL_law_567 (vp_in_nI (by omega) (by omega)) (by rw [nI_clamp (by omega)]) rfl ?_
  refine rn_aload_n 569 dL_law_568 rfl rfl rfl ?_
  refine rn_iload_n 570 dL_law_569 rfl rfl rfl ?_
  refine rn_iconst (v := 3) 571 dL_law_570 (by decide) rfl ?_
  refine rn_iadd 572 dL_law_571 rfl ?_
  rw [show nI i + 3 = nI (i + 3) from nI_add i 3]
  refine rn_sld 573 (xs (i + 3)) dL_law_572 (vp_in_nI (by omega) (by omega)) (by rw [nI_clamp (by omega)]) rfl ?_
  refine rn_callV mX8_paths [.int (xs (i + 1)), .int (xs (i + 2)), .int (xs (i + 3))] [] dL_law_573 cv_L_71 rfl rfl rfl (by simp [Value.category]) (hx mu h h1_) (fun r1 m1 h1 q1 ok1 => ?_)
  obtain ⟨e1, x1, f1⟩ := q1
  subst e1
  obtain ⟨v, rfl⟩ := an_int ok1
  show rn_R _ mL_law _ 576 [some (.ref 99), some (.ref 0), some (.ref 22), some (.int (nI i))] [.int v] m1 h1 _
  refine rn_aload_n 577 dL_law_576 rfl rfl rfl ?_
  refine rn_aload_n 578 dL_law_577 rfl rfl rfl ?_
  refine rn_iload_n 579 dL_law_578 rfl rfl rfl ?_
  refine rn_iconst (v := 1) 580 dL_law_579 (by decide) rfl ?_
  refine rn_iadd 581 dL_law_580 rfl ?_
  rw [show nI i + 1 = nI (i + 1) from nI_add i 1]
  refine rn_sld 582 (xs (i + 1)) dL_law_581 (vp_in_nI (by omega) (by omega)) (by rw [nI_clamp (by omega)]) rfl ?_
  refine rn_aload_n 583 dL_law_582 rfl rfl rfl ?_
  refine rn_iload_n 584 dL_law_583 rfl rfl rfl ?_
  refine rn_iconst (v := 2) 585 dL_law_584 (by decide) rfl ?_
  refine rn_iadd 586 dL_law_585 rfl ?_
  rw [show nI i + 2 = nI (i + 2) from nI_add i 2]
  refine rn_sld 587 (xs (i + 2)) dL_law_586 (vp_in_nI (by omega) (by omega)) (by rw [nI_clamp (by omega)]) rfl ?_
  refine rn_aload_n 588 dL_law_587 rfl rfl rfl ?_
  refine rn_iload_n 589 dL_law_588 rfl rfl rfl ?_
  refine rn_iconst (v := 3) 590 dL_law_589 (by decide) rfl ?_
  refine rn_iadd 591 dL_law_590 rfl ?_
  rw [show nI i + 3 = nI (i + 3) from nI_add i 3]
  refine rn_sld 592 (xs (i + 3)) dL_law_591 (vp_in_nI (by omega) (by omega)) (by rw [nI_clamp (by omega)]) rfl ?_
  refine rn_callV mX9_paths [.int (xs (i + 1)), .int (xs (i + 2)), .int (xs (i + 3))] [.int v] dL_law_592 cv_L_74 rfl rfl rfl (by simp [Value.category]) (hm m1 h1 (mS_fr h2_ (fun c c1 c2 => f1 c c1))) (fun r2 m2 h2 q2 ok2 => ?_)
  obtain ⟨e2, y2, f2⟩ := q2
  subst e2
  show rn_R _ mL_law _ 595 [some (.ref 99), some (.ref 0), some (.ref 22), some (.int (nI i))] [.int v, .int v] m2 h2 _
  refine rn_icmp_eq 1254 598 dL_law_595 (by decide) rfl (fun _ => ?_) (fun c595 => absurd (rfl) c595)
  exact kk s2 m2 h2 (xS_fr x1 (fun c hc => f2 c (by omega))) y2

set_option maxRecDepth 100000 in
set_option maxHeartbeats 2000000 in
theorem law_c14 {len : Nat} {xs : Nat → Int32} (hlen : len ≤ 3072) {i : Nat} (hi : i + 6 ≤ len) {s : Sx} {mu : Nat → Nat → Int32} {h : Int64} {Q : rn_Q} (h1_ : xS s mu) (h2_ : mS s mu) (kk : ∀ (s2 : Sx) (mu2 : Nat → Nat → Int32) (h2 : Int64), xS s2 mu2 → mS s2 mu2 → rn_R (some (len, xs)) mL_law 101 1254 [some (.ref 99), some (.ref 0), some (.ref 22), some (.int (nI i))] [] mu2 h2 Q) : rn_R (some (len, xs)) mL_law 101 600 [some (.ref 99), some (.ref 0), some (.ref 22), some (.int (nI i))] [] mu h Q := by
  obtain ⟨ans, s2, hx, hm⟩ := op_pathLength (xs (i + 1)) (xs (i + 2)) (xs (i + 3)) s
  refine rn_aload_n 601 dL_law_600 rfl rfl rfl ?_
  refine rn_aload_n 602 dL_law_601 rfl rfl rfl ?_
  refine rn_iload_n 603 dL_law_602 rfl rfl rfl ?_
  refine rn_iconst (v := 1) 604 dL_law_603 (by decide) rfl ?_
  refine rn_iadd 605 dL_law_604 rfl ?_
  rw [show nI i + 1 = nI (i + 1) from nI_add i 1]
  refine rn_sld 606 (xs (i + 1)) dL_law_605 (vp_in_nI (by omega) (by omega)) (by rw [nI_clamp (by omega)]) rfl ?_
  refine rn_aload_n 607 dL_law_606 rfl rfl rfl ?_
  refine rn_iload_n 608 dL_law_607 rfl rfl rfl ?_
  refine rn_iconst (v := 2) 609 dL_law_608 (by decide) rfl ?_
  refine rn_iadd 610 dL_law_609 rfl ?_
  rw [show nI i + 2 = nI (i + 2) from nI_add i 2]
  refine rn_sld 611 (xs (i + 2)) dL_law_610 (vp_in_nI (by omega) (by omega)) (by rw [nI_clamp (by omega)]) rfl ?_
  refine rn_aload_n 612 dL_law_611 rfl rfl rfl ?_
  refine rn_iload_n 613 dL_law_612 rfl rfl rfl ?_
  refine rn_iconst (v := 3) 614 dL_law_613 (by decide) rfl ?_
  refine rn_iadd 615 dL_law_614 rfl ?_
  rw [show nI i + 3 = nI (i + 3) from nI_add i 3]
  refine rn_sld 616 (xs (i + 3)) dL_law_615 (vp_in_nI (by omega) (by omega)) (by rw [nI_clamp (by omega)]) rfl ?_
  refine rn_callV mX8_pathLength [.int (xs (i + 1)), .int (xs (i + 2)), .int (xs (i + 3))] [] dL_law_616 cv_L_75 rfl rfl rfl (by simp [Value.category]) (hx mu h h1_) (fun r1 m1 h1 q1 ok1 => ?_)
  obtain ⟨e1, x1, f1⟩ := q1
  subst e1
  obtain ⟨v, rfl⟩ := an_int ok1
  show rn_R _ mL_law _ 619 [some (.ref 99), some (.ref 0), some (.ref 22), some (.int (nI i))] [.int v] m1 h1 _
  refine rn_aload_n 620 dL_law_619 rfl rfl rfl ?_
  refine rn_aload_n 621 dL_law_620 rfl rfl rfl ?_
  refine rn_iload_n 622 dL_law_621 rfl rfl rfl ?_
  refine rn_iconst (v := 1) 623 dL_law_622 (by decide) rfl ?_
  refine rn_iadd 624 dL_law_623 rfl ?_
  rw [show nI i + 1 = nI (i + 1) from nI_add i 1]
  refine rn_sld 625 (xs (i + 1)) dL_law_624 (vp_in_nI (by omega) (by omega)) (by rw [nI_clamp (by omega)]) rfl ?_
  refine rn_aload_n 626 dL_law_625 rfl rfl rfl ?_
  refine rn_iload_n 627 dL_law_626 rfl rfl rfl ?_
  refine rn_iconst (v := 2) 628 dL_law_627 (by decide) rfl ?_
  refine rn_iadd 629 dL_law_628 rfl ?_
  rw [show nI i + 2 = nI (i + 2) from nI_add i 2]
  refine rn_sld 630 (xs (i + 2)) dL_law_629 (vp_in_nI (by omega) (by omega)) (by rw [nI_clamp (by omega)]) rfl ?_
  refine rn_aload_n 631 dL_law_630 rfl rfl rfl ?_
  refine rn_iload_n 632 dL_law_631 rfl rfl rfl ?_
  refine rn_iconst (v := 3) 633 dL_law_632 (by decide) rfl ?_
  refine rn_iadd 634 dL_law_633 rfl ?_
  rw [show nI i + 3 = nI (i + 3) from nI_add i 3]
  refine rn_sld 635 (xs (i + 3)) dL_law_634 (vp_in_nI (by omega) (by omega)) (by rw [nI_clamp (by omega)]) rfl ?_
  refine rn_callV mX9_pathLength [.int (xs (i + 1)), .int (xs (i + 2)), .int (xs (i + 3))] [.int v] dL_law_635 cv_L_78 rfl rfl rfl (by simp [Value.category]) (hm m1 h1 (mS_fr h2_ (fun c c1 c2 => f1 c c1))) (fun r2 m2 h2 q2 ok2 => ?_)
  obtain ⟨e2, y2, f2⟩ := q2
  subst e2
  show rn_R _ mL_law _ 638 [some (.ref 99), some (.ref 0), some (.ref 22), some (.int (nI i))] [.int v, .int v] m2 h2 _
  refine rn_icmp_eq 1254 641 dL_law_638 (by decide) rfl (fun _ => ?_) (fun c638 => absurd (rfl) c638)
  exact kk s2 m2 h2 (xS_fr x1 (fun c hc => f2 c (by omega))) y2

set_option maxRecDepth 100000 in
set_option maxHeartbeats 2000000 in
theorem law_c15 {len : Nat} {xs : Nat → Int32} (hlen : len ≤ 3072) {i : Nat} (hi : i + 6 ≤ len) {s : Sx} {mu : Nat → Nat → Int32} {h : Int64} {Q : rn_Q} (h1_ : xS s mu) (h2_ : mS s mu) (kk : ∀ (s2 : Sx) (mu2 : Nat → Nat → Int32) (h2 : Int64), xS s2 mu2 → mS s2 mu2 → rn_R (some (len, xs)) mL_law 101 1254 [some (.ref 99), some (.ref 0), some (.ref 22), some (.int (nI i))] [] mu2 h2 Q) : rn_R (some (len, xs)) mL_law 101 643 [some (.ref 99), some (.ref 0), some (.ref 22), some (.int (nI i))] [] mu h Q := by
  obtain ⟨ans, s2, hx, hm⟩ := op_tight (xs (i + 1)) (xs (i + 2)) s
  refine rn_aload_n 644 dL_law_643 rfl rfl rfl ?_
  refine rn_aload_n 645 dL_law_644 rfl rfl rfl ?_
  refine rn_iload_n 646 dL_law_645 rfl rfl rfl ?_
  refine rn_iconst (v := 1) 647 dL_law_646 (by decide) rfl ?_
  refine rn_iadd 648 dL_law_647 rfl ?_
  rw [show nI i + 1 = nI (i + 1) from nI_add i 1]
  refine rn_sld 649 (xs (i + 1)) dL_law_648 (vp_in_nI (by omega) (by omega)) (by rw [nI_clamp (by omega)]) rfl ?_
  refine rn_aload_n 650 dL_law_649 rfl rfl rfl ?_
  refine rn_iload_n 651 dL_law_650 rfl rfl rfl ?_
  refine rn_iconst (v := 2) 652 dL_law_651 (by decide) rfl ?_
  refine rn_iadd 653 dL_law_652 rfl ?_
  rw [show nI i + 2 = nI (i + 2) from nI_add i 2]
  refine rn_sld 654 (xs (i + 2)) dL_law_653 (vp_in_nI (by omega) (by omega)) (by rw [nI_clamp (by omega)]) rfl ?_
  refine rn_callV mX8_tight [.int (xs (i + 1)), .int (xs (i + 2))] [] dL_law_654 cv_L_79 rfl rfl rfl (by simp [Value.category]) (hx mu h h1_) (fun r1 m1 h1 q1 ok1 => ?_)
  obtain ⟨e1, x1, f1⟩ := q1
  subst e1
  obtain ⟨v, rfl⟩ := an_int ok1
  show rn_R _ mL_law _ 657 [some (.ref 99), some (.ref 0), some (.ref 22), some (.int (nI i))] [.int v] m1 h1 _
  refine rn_aload_n 658 dL_law_657 rfl rfl rfl ?_
  refine rn_aload_n 659 dL_law_658 rfl rfl rfl ?_
  refine rn_iload_n 660 dL_law_659 rfl rfl rfl ?_
  refine rn_iconst (v := 1) 661 dL_law_660 (by decide) rfl ?_
  refine rn_iadd 662 dL_law_661 rfl ?_
  rw [show nI i + 1 = nI (i + 1) from nI_add i 1]
  refine rn_sld 663 (xs (i + 1)) dL_law_662 (vp_in_nI (by omega) (by omega)) (by rw [nI_clamp (by omega)]) rfl ?_
  refine rn_aload_n 664 dL_law_663 rfl rfl rfl ?_
  refine rn_iload_n 665 dL_law_664 rfl rfl rfl ?_
  refine rn_iconst (v := 2) 666 dL_law_665 (by decide) rfl ?_
  refine rn_iadd 667 dL_law_666 rfl ?_
  rw [show nI i + 2 = nI (i + 2) from nI_add i 2]
  refine rn_sld 668 (xs (i + 2)) dL_law_667 (vp_in_nI (by omega) (by omega)) (by rw [nI_clamp (by omega)]) rfl ?_
  refine rn_callV mX9_tight [.int (xs (i + 1)), .int (xs (i + 2))] [.int v] dL_law_668 cv_L_82 rfl rfl rfl (by simp [Value.category]) (hm m1 h1 (mS_fr h2_ (fun c c1 c2 => f1 c c1))) (fun r2 m2 h2 q2 ok2 => ?_)
  obtain ⟨e2, y2, f2⟩ := q2
  subst e2
  show rn_R _ mL_law _ 671 [some (.ref 99), some (.ref 0), some (.ref 22), some (.int (nI i))] [.int v, .int v] m2 h2 _
  refine rn_icmp_eq 1254 674 dL_law_671 (by decide) rfl (fun _ => ?_) (fun c671 => absurd (rfl) c671)
  exact kk s2 m2 h2 (xS_fr x1 (fun c hc => f2 c (by omega))) y2

set_option maxRecDepth 100000 in
set_option maxHeartbeats 2000000 in
theorem law_c16 {len : Nat} {xs : Nat → Int32} (hlen : len ≤ 3072) {i : Nat} (hi : i + 6 ≤ len) {s : Sx} {mu : Nat → Nat → Int32} {h : Int64} {Q : rn_Q} (h1_ : xS s mu) (h2_ : mS s mu) (kk : ∀ (s2 : Sx) (mu2 : Nat → Nat → Int32) (h2 : Int64), xS s2 mu2 → mS s2 mu2 → rn_R (some (len, xs)) mL_law 101 1254 [some (.ref 99), some (.ref 0), some (.ref 22), some (.int (nI i))] [] mu2 h2 Q) : rn_R (some (len, xs)) mL_law 101 676 [some (.ref 99), some (.ref 0), some (.ref 22), some (.int (nI i))] [] mu h Q := by
  obtain ⟨ans, s2, hx, hm⟩ := op_interdict (xs (i + 1)) (xs (i + 2)) (xs (i + 3)) s
  refine rn_aload_n 677 dL_law_676 rfl rfl rfl ?_
  refine rn_aload_n 678 dL_law_677 rfl rfl rfl ?_
  refine rn_iload_n 679 dL_law_678 rfl rfl rfl ?_
  refine rn_iconst (v := 1) 680 dL_law_679 (by decide) rfl ?_
  refine rn_iadd 681 dL_law_680 rfl ?_
  rw [show nI i + 1 = nI (i + 1) from nI_add i 1]
  refine rn_sld 682 (xs (i + 1)) dL_law_681 (vp_in_nI (by omega) (by omega)) (by rw [nI_clamp (by omega)]) rfl ?_
  refine rn_aload_n 683 dL_law_682 rfl rfl rfl ?_
  refine rn_iload_n 684 dL_law_683 rfl rfl rfl ?_
  refine rn_iconst (v := 2) 685 dL_law_684 (by decide) rfl ?_
  refine rn_iadd 686 dL_law_685 rfl ?_
  rw [show nI i + 2 = nI (i + 2) from nI_add i 2]
  refine rn_sld 687 (xs (i + 2)) dL_law_686 (vp_in_nI (by omega) (by omega)) (by rw [nI_clamp (by omega)]) rfl ?_
  refine rn_aload_n 688 dL_law_687 rfl rfl rfl ?_
  refine rn_iload_n 689 dL_law_688 rfl rfl rfl ?_
  refine rn_iconst (v := 3) 690 dL_law_689 (by decide) rfl ?_
  refine rn_iadd 691 dL_law_690 rfl ?_
  rw [show nI i + 3 = nI (i + 3) from nI_add i 3]
  refine rn_sld 692 (xs (i + 3)) dL_law_691 (vp_in_nI (by omega) (by omega)) (by rw [nI_clamp (by omega)]) rfl ?_
  refine rn_callV mX8_interdict [.int (xs (i + 1)), .int (xs (i + 2)), .int (xs (i + 3))] [] dL_law_692 cv_L_83 rfl rfl rfl (by simp [Value.category]) (hx mu h h1_) (fun r1 m1 h1 q1 ok1 => ?_)
  obtain ⟨e1, x1, f1⟩ := q1
  subst e1
  obtain ⟨v, rfl⟩ := an_int ok1
  show rn_R _ mL_law _ 695 [some (.ref 99), some (.ref 0), some (.ref 22), some (.int (nI i))] [.int v] m1 h1 _
  refine rn_aload_n 696 dL_law_695 rfl rfl rfl ?_
  refine rn_aload_n 697 dL_law_696 rfl rfl rfl ?_
  refine rn_iload_n 698 dL_law_697 rfl rfl rfl ?_
  refine rn_iconst (v := 1) 699 dL_law_698 (by decide) rfl ?_
  refine rn_iadd 700 dL_law_699 rfl ?_
  rw [show nI i + 1 = nI (i + 1) from nI_add i 1]
  refine rn_sld 701 (xs (i + 1)) dL_law_700 (vp_in_nI (by omega) (by omega)) (by rw [nI_clamp (by omega)]) rfl ?_
  refine rn_aload_n 702 dL_law_701 rfl rfl rfl ?_
  refine rn_iload_n 703 dL_law_702 rfl rfl rfl ?_
  refine rn_iconst (v := 2) 704 dL_law_703 (by decide) rfl ?_
  refine rn_iadd 705 dL_law_704 rfl ?_
  rw [show nI i + 2 = nI (i + 2) from nI_add i 2]
  refine rn_sld 706 (xs (i + 2)) dL_law_705 (vp_in_nI (by omega) (by omega)) (by rw [nI_clamp (by omega)]) rfl ?_
  refine rn_aload_n 707 dL_law_706 rfl rfl rfl ?_
  refine rn_iload_n 708 dL_law_707 rfl rfl rfl ?_
  refine rn_iconst (v := 3) 709 dL_law_708 (by decide) rfl ?_
  refine rn_iadd 710 dL_law_709 rfl ?_
  rw [show nI i + 3 = nI (i + 3) from nI_add i 3]
  refine rn_sld 711 (xs (i + 3)) dL_law_710 (vp_in_nI (by omega) (by omega)) (by rw [nI_clamp (by omega)]) rfl ?_
  refine rn_callV mX9_interdict [.int (xs (i + 1)), .int (xs (i + 2)), .int (xs (i + 3))] [.int v] dL_law_711 cv_L_86 rfl rfl rfl (by simp [Value.category]) (hm m1 h1 (mS_fr h2_ (fun c c1 c2 => f1 c c1))) (fun r2 m2 h2 q2 ok2 => ?_)
  obtain ⟨e2, y2, f2⟩ := q2
  subst e2
  show rn_R _ mL_law _ 714 [some (.ref 99), some (.ref 0), some (.ref 22), some (.int (nI i))] [.int v, .int v] m2 h2 _
  refine rn_icmp_eq 1254 717 dL_law_714 (by decide) rfl (fun _ => ?_) (fun c714 => absurd (rfl) c714)
  exact kk s2 m2 h2 (xS_fr x1 (fun c hc => f2 c (by omega))) y2

set_option maxRecDepth 100000 in
set_option maxHeartbeats 2000000 in
theorem law_c17 {len : Nat} {xs : Nat → Int32} (hlen : len ≤ 3072) {i : Nat} (hi : i + 6 ≤ len) {s : Sx} {mu : Nat → Nat → Int32} {h : Int64} {Q : rn_Q} (h1_ : xS s mu) (h2_ : mS s mu) (kk : ∀ (s2 : Sx) (mu2 : Nat → Nat → Int32) (h2 : Int64), xS s2 mu2 → mS s2 mu2 → rn_R (some (len, xs)) mL_law 101 1254 [some (.ref 99), some (.ref 0), some (.ref 22), some (.int (nI i))] [] mu2 h2 Q) : rn_R (some (len, xs)) mL_law 101 719 [some (.ref 99), some (.ref 0), some (.ref 22), some (.int (nI i))] [] mu h Q := by
  obtain ⟨ans, s2, hx, hm⟩ := op_greedy (xs (i + 1)) (xs (i + 2)) (xs (i + 3)) s
  refine rn_aload_n 720 dL_law_719 rfl rfl rfl ?_
  refine rn_aload_n 721 dL_law_720 rfl rfl rfl ?_
  refine rn_iload_n 722 dL_law_721 rfl rfl rfl ?_
  refine rn_iconst (v := 1) 723 dL_law_722 (by decide) rfl ?_
  refine rn_iadd 724 dL_law_723 rfl ?_
  rw [show nI i + 1 = nI (i + 1) from nI_add i 1]
  refine rn_sld 725 (xs (i + 1)) dL_law_724 (vp_in_nI (by omega) (by omega)) (by rw [nI_clamp (by omega)]) rfl ?_
  refine rn_aload_n 726 dL_law_725 rfl rfl rfl ?_
  refine rn_iload_n 727 dL_law_726 rfl rfl rfl ?_
  refine rn_iconst (v := 2) 728 dL_law_727 (by decide) rfl ?_
  refine rn_iadd 729 dL_law_728 rfl ?_
  rw [show nI i + 2 = nI (i + 2) from nI_add i 2]
  refine rn_sld 730 (xs (i + 2)) dL_law_729 (vp_in_nI (by omega) (by omega)) (by rw [nI_clamp (by omega)]) rfl ?_
  refine rn_aload_n 731 dL_law_730 rfl rfl rfl ?_
  refine rn_iload_n 732 dL_law_731 rfl rfl rfl ?_
  refine rn_iconst (v := 3) 733 dL_law_732 (by decide) rfl ?_
  refine rn_iadd 734 dL_law_733 rfl ?_
  rw [show nI i + 3 = nI (i + 3) from nI_add i 3]
  refine rn_sld 735 (xs (i + 3)) dL_law_734 (vp_in_nI (by omega) (by omega)) (by rw [nI_clamp (by omega)]) rfl ?_
  refine rn_callV mX8_greedy [.int (xs (i + 1)), .int (xs (i + 2)), .int (xs (i + 3))] [] dL_law_735 cv_L_87 rfl rfl rfl (by simp [Value.category]) (hx mu h h1_) (fun r1 m1 h1 q1 ok1 => ?_)
  obtain ⟨e1, x1, f1⟩ := q1
  subst e1
  obtain ⟨v, rfl⟩ := an_int ok1
  show rn_R _ mL_law _ 738 [some (.ref 99), some (.ref 0), some (.ref 22), some (.int (nI i))] [.int v] m1 h1 _
  refine rn_aload_n 739 dL_law_738 rfl rfl rfl ?_
  refine rn_aload_n 740 dL_law_739 rfl rfl rfl ?_
  refine rn_iload_n 741 dL_law_740 rfl rfl rfl ?_
  refine rn_iconst (v := 1) 742 dL_law_741 (by decide) rfl ?_
  refine rn_iadd 743 dL_law_742 rfl ?_
  rw [show nI i + 1 = nI (i + 1) from nI_add i 1]
  refine rn_sld 744 (xs (i + 1)) dL_law_743 (vp_in_nI (by omega) (by omega)) (by rw [nI_clamp (by omega)]) rfl ?_
  refine rn_aload_n 745 dL_law_744 rfl rfl rfl ?_
  refine rn_iload_n 746 dL_law_745 rfl rfl rfl ?_
  refine rn_iconst (v := 2) 747 dL_law_746 (by decide) rfl ?_
  refine rn_iadd 748 dL_law_747 rfl ?_
  rw [show nI i + 2 = nI (i + 2) from nI_add i 2]
  refine rn_sld 749 (xs (i + 2)) dL_law_748 (vp_in_nI (by omega) (by omega)) (by rw [nI_clamp (by omega)]) rfl ?_
  refine rn_aload_n 750 dL_law_749 rfl rfl rfl ?_
  refine rn_iload_n 751 dL_law_750 rfl rfl rfl ?_
  refine rn_iconst (v := 3) 752 dL_law_751 (by decide) rfl ?_
  refine rn_iadd 753 dL_law_752 rfl ?_
  rw [show nI i + 3 = nI (i + 3) from nI_add i 3]
  refine rn_sld 754 (xs (i + 3)) dL_law_753 (vp_in_nI (by omega) (by omega)) (by rw [nI_clamp (by omega)]) rfl ?_
  refine rn_callV mX9_greedy [.int (xs (i + 1)), .int (xs (i + 2)), .int (xs (i + 3))] [.int v] dL_law_754 cv_L_90 rfl rfl rfl (by simp [Value.category]) (hm m1 h1 (mS_fr h2_ (fun c c1 c2 => f1 c c1))) (fun r2 m2 h2 q2 ok2 => ?_)
  obtain ⟨e2, y2, f2⟩ := q2
  subst e2
  show rn_R _ mL_law _ 757 [some (.ref 99), some (.ref 0), some (.ref 22), some (.int (nI i))] [.int v, .int v] m2 h2 _
  refine rn_icmp_eq 1254 760 dL_law_757 (by decide) rfl (fun _ => ?_) (fun c757 => absurd (rfl) c757)
  exact kk s2 m2 h2 (xS_fr x1 (fun c hc => f2 c (by omega))) y2

set_option maxRecDepth 100000 in
set_option maxHeartbeats 2000000 in
theorem law_c18 {len : Nat} {xs : Nat → Int32} (hlen : len ≤ 3072) {i : Nat} (hi : i + 6 ≤ len) {s : Sx} {mu : Nat → Nat → Int32} {h : Int64} {Q : rn_Q} (h1_ : xS s mu) (h2_ : mS s mu) (kk : ∀ (s2 : Sx) (mu2 : Nat → Nat → Int32) (h2 : Int64), xS s2 mu2 → mS s2 mu2 → rn_R (some (len, xs)) mL_law 101 1254 [some (.ref 99), some (.ref 0), some (.ref 22), some (.int (nI i))] [] mu2 h2 Q) : rn_R (some (len, xs)) mL_law 101 762 [some (.ref 99), some (.ref 0), some (.ref 22), some (.int (nI i))] [] mu h Q := by
  obtain ⟨ans, s2, hx, hm⟩ := op_budgetFor (xs (i + 1)) (xs (i + 2)) (xs (i + 3)) s
  refine rn_aload_n 763 dL_law_762 rfl rfl rfl ?_
  refine rn_aload_n 764 dL_law_763 rfl rfl rfl ?_
  refine rn_iload_n 765 dL_law_764 rfl rfl rfl ?_
  refine rn_iconst (v := 1) 766 dL_law_765 (by decide) rfl ?_
  refine rn_iadd 767 dL_law_766 rfl ?_
  rw [show nI i + 1 = nI (i + 1) from nI_add i 1]
  refine rn_sld 768 (xs (i + 1)) dL_law_767 (vp_in_nI (by omega) (by omega)) (by rw [nI_clamp (by omega)]) rfl ?_
  refine rn_aload_n 769 dL_law_768 rfl rfl rfl ?_
  refine rn_iload_n 770 dL_law_769 rfl rfl rfl ?_
  refine rn_iconst (v := 2) 771 dL_law_770 (by decide) rfl ?_
  refine rn_iadd 772 dL_law_771 rfl ?_
  rw [show nI i + 2 = nI (i + 2) from nI_add i 2]
  refine rn_sld 773 (xs (i + 2)) dL_law_772 (vp_in_nI (by omega) (by omega)) (by rw [nI_clamp (by omega)]) rfl ?_
  refine rn_aload_n 774 dL_law_773 rfl rfl rfl ?_
  refine rn_iload_n 775 dL_law_774 rfl rfl rfl ?_
  refine rn_iconst (v := 3) 776 dL_law_775 (by decide) rfl ?_
  refine rn_iadd 777 dL_law_776 rfl ?_
  rw [show nI i + 3 = nI (i + 3) from nI_add i 3]
  refine rn_sld 778 (xs (i + 3)) dL_law_777 (vp_in_nI (by omega) (by omega)) (by rw [nI_clamp (by omega)]) rfl ?_
  refine rn_callV mX8_budgetFor [.int (xs (i + 1)), .int (xs (i + 2)), .int (xs (i + 3))] [] dL_law_778 cv_L_91 rfl rfl rfl (by simp [Value.category]) (hx mu h h1_) (fun r1 m1 h1 q1 ok1 => ?_)
  obtain ⟨e1, x1, f1⟩ := q1
  subst e1
  obtain ⟨v, rfl⟩ := an_int ok1
  show rn_R _ mL_law _ 781 [some (.ref 99), some (.ref 0), some (.ref 22), some (.int (nI i))] [.int v] m1 h1 _
  refine rn_aload_n 782 dL_law_781 rfl rfl rfl ?_
  refine rn_aload_n 783 dL_law_782 rfl rfl rfl ?_
  refine rn_iload_n 784 dL_law_783 rfl rfl rfl ?_
  refine rn_iconst (v := 1) 785 dL_law_784 (by decide) rfl ?_
  refine rn_iadd 786 dL_law_785 rfl ?_
  rw [show nI i + 1 = nI (i + 1) from nI_add i 1]
  refine rn_sld 787 (xs (i + 1)) dL_law_786 (vp_in_nI (by omega) (by omega)) (by rw [nI_clamp (by omega)]) rfl ?_
  refine rn_aload_n 788 dL_law_787 rfl rfl rfl ?_
  refine rn_iload_n 789 dL_law_788 rfl rfl rfl ?_
  refine rn_iconst (v := 2) 790 dL_law_789 (by decide) rfl ?_
  refine rn_iadd 791 dL_law_790 rfl ?_
  rw [show nI i + 2 = nI (i + 2) from nI_add i 2]
  refine rn_sld 792 (xs (i + 2)) dL_law_791 (vp_in_nI (by omega) (by omega)) (by rw [nI_clamp (by omega)]) rfl ?_
  refine rn_aload_n 793 dL_law_792 rfl rfl rfl ?_
  refine rn_iload_n 794 dL_law_793 rfl rfl rfl ?_
  refine rn_iconst (v := 3) 795 dL_law_794 (by decide) rfl ?_
  refine rn_iadd 796 dL_law_795 rfl ?_
  rw [show nI i + 3 = nI (i + 3) from nI_add i 3]
  refine rn_sld 797 (xs (i + 3)) dL_law_796 (vp_in_nI (by omega) (by omega)) (by rw [nI_clamp (by omega)]) rfl ?_
  refine rn_callV mX9_budgetFor [.int (xs (i + 1)), .int (xs (i + 2)), .int (xs (i + 3))] [.int v] dL_law_797 cv_L_94 rfl rfl rfl (by simp [Value.category]) (hm m1 h1 (mS_fr h2_ (fun c c1 c2 => f1 c c1))) (fun r2 m2 h2 q2 ok2 => ?_)
  obtain ⟨e2, y2, f2⟩ := q2
  subst e2
  show rn_R _ mL_law _ 800 [some (.ref 99), some (.ref 0), some (.ref 22), some (.int (nI i))] [.int v, .int v] m2 h2 _
  refine rn_icmp_eq 1254 803 dL_law_800 (by decide) rfl (fun _ => ?_) (fun c800 => absurd (rfl) c800)
  exact kk s2 m2 h2 (xS_fr x1 (fun c hc => f2 c (by omega))) y2

set_option maxRecDepth 100000 in
set_option maxHeartbeats 2000000 in
theorem law_c19 {len : Nat} {xs : Nat → Int32} (hlen : len ≤ 3072) {i : Nat} (hi : i + 6 ≤ len) {s : Sx} {mu : Nat → Nat → Int32} {h : Int64} {Q : rn_Q} (h1_ : xS s mu) (h2_ : mS s mu) (kk : ∀ (s2 : Sx) (mu2 : Nat → Nat → Int32) (h2 : Int64), xS s2 mu2 → mS s2 mu2 → rn_R (some (len, xs)) mL_law 101 1254 [some (.ref 99), some (.ref 0), some (.ref 22), some (.int (nI i))] [] mu2 h2 Q) : rn_R (some (len, xs)) mL_law 101 805 [some (.ref 99), some (.ref 0), some (.ref 22), some (.int (nI i))] [] mu h Q := by
  obtain ⟨ans, s2, hx, hm⟩ := op_blockade (xs (i + 1)) (xs (i + 2)) s
  refine rn_aload_n 806 dL_law_805 rfl rfl rfl ?_
  refine rn_aload_n 807 dL_law_806 rfl rfl rfl ?_
  refine rn_iload_n 808 dL_law_807 rfl rfl rfl ?_
  refine rn_iconst (v := 1) 809 dL_law_808 (by decide) rfl ?_
  refine rn_iadd 810 dL_law_809 rfl ?_
  rw [show nI i + 1 = nI (i + 1) from nI_add i 1]
  refine rn_sld 811 (xs (i + 1)) dL_law_810 (vp_in_nI (by omega) (by omega)) (by rw [nI_clamp (by omega)]) rfl ?_
  refine rn_aload_n 812 dL_law_811 rfl rfl rfl ?_
  refine rn_iload_n 813 dL_law_812 rfl rfl rfl ?_
  refine rn_iconst (v := 2) 814 dL_law_813 (by decide) rfl ?_
  refine rn_iadd 815 dL_law_814 rfl ?_
  rw [show nI i + 2 = nI (i + 2) from nI_add i 2]
  refine rn_sld 816 (xs (i + 2)) dL_law_815 (vp_in_nI (by omega) (by omega)) (by rw [nI_clamp (by omega)]) rfl ?_
  refine rn_callV mX8_blockade [.int (xs (i + 1)), .int (xs (i + 2))] [] dL_law_816 cv_L_95 rfl rfl rfl (by simp [Value.category]) (hx mu h h1_) (fun r1 m1 h1 q1 ok1 => ?_)
  obtain ⟨e1, x1, f1⟩ := q1
  subst e1
  obtain ⟨v, rfl⟩ := an_int ok1
  show rn_R _ mL_law _ 819 [some (.ref 99), some (.ref 0), some (.ref 22), some (.int (nI i))] [.int v] m1 h1 _
  refine rn_aload_n 820 dL_law_819 rfl rfl rfl ?_
  refine rn_aload_n 821 dL_law_820 rfl rfl rfl ?_
  refine rn_iload_n 822 dL_law_821 rfl rfl rfl ?_
  refine rn_iconst (v := 1) 823 dL_law_822 (by decide) rfl ?_
  refine rn_iadd 824 dL_law_823 rfl ?_
  rw [show nI i + 1 = nI (i + 1) from nI_add i 1]
  refine rn_sld 825 (xs (i + 1)) dL_law_824 (vp_in_nI (by omega) (by omega)) (by rw [nI_clamp (by omega)]) rfl ?_
  refine rn_aload_n 826 dL_law_825 rfl rfl rfl ?_
  refine rn_iload_n 827 dL_law_826 rfl rfl rfl ?_
  refine rn_iconst (v := 2) 828 dL_law_827 (by decide) rfl ?_
  refine rn_iadd 829 dL_law_828 rfl ?_
  rw [show nI i + 2 = nI (i + 2) from nI_add i 2]
  refine rn_sld 830 (xs (i + 2)) dL_law_829 (vp_in_nI (by omega) (by omega)) (by rw [nI_clamp (by omega)]) rfl ?_
  refine rn_callV mX9_blockade [.int (xs (i + 1)), .int (xs (i + 2))] [.int v] dL_law_830 cv_L_98 rfl rfl rfl (by simp [Value.category]) (hm m1 h1 (mS_fr h2_ (fun c c1 c2 => f1 c c1))) (fun r2 m2 h2 q2 ok2 => ?_)
  obtain ⟨e2, y2, f2⟩ := q2
  subst e2
  show rn_R _ mL_law _ 833 [some (.ref 99), some (.ref 0), some (.ref 22), some (.int (nI i))] [.int v, .int v] m2 h2 _
  refine rn_icmp_eq 1254 836 dL_law_833 (by decide) rfl (fun _ => ?_) (fun c833 => absurd (rfl) c833)
  exact kk s2 m2 h2 (xS_fr x1 (fun c hc => f2 c (by omega))) y2

set_option maxRecDepth 100000 in
set_option maxHeartbeats 2000000 in
theorem law_c20 {len : Nat} {xs : Nat → Int32} (hlen : len ≤ 3072) {i : Nat} (hi : i + 6 ≤ len) {s : Sx} {mu : Nat → Nat → Int32} {h : Int64} {Q : rn_Q} (h1_ : xS s mu) (h2_ : mS s mu) (kk : ∀ (s2 : Sx) (mu2 : Nat → Nat → Int32) (h2 : Int64), xS s2 mu2 → mS s2 mu2 → rn_R (some (len, xs)) mL_law 101 1254 [some (.ref 99), some (.ref 0), some (.ref 22), some (.int (nI i))] [] mu2 h2 Q) : rn_R (some (len, xs)) mL_law 101 838 [some (.ref 99), some (.ref 0), some (.ref 22), some (.int (nI i))] [] mu h Q := by
  obtain ⟨ans, s2, hx, hm⟩ := op_respond (xs (i + 1)) (xs (i + 2)) (xs (i + 3)) (xs (i + 4)) s
  refine rn_aload_n 839 dL_law_838 rfl rfl rfl ?_
  refine rn_aload_n 840 dL_law_839 rfl rfl rfl ?_
  refine rn_iload_n 841 dL_law_840 rfl rfl rfl ?_
  refine rn_iconst (v := 1) 842 dL_law_841 (by decide) rfl ?_
  refine rn_iadd 843 dL_law_842 rfl ?_
  rw [show nI i + 1 = nI (i + 1) from nI_add i 1]
  refine rn_sld 844 (xs (i + 1)) dL_law_843 (vp_in_nI (by omega) (by omega)) (by rw [nI_clamp (by omega)]) rfl ?_
  refine rn_aload_n 845 dL_law_844 rfl rfl rfl ?_
  refine rn_iload_n 846 dL_law_845 rfl rfl rfl ?_
  refine rn_iconst (v := 2) 847 dL_law_846 (by decide) rfl ?_
  refine rn_iadd 848 dL_law_847 rfl ?_
  rw [show nI i + 2 = nI (i + 2) from nI_add i 2]
  refine rn_sld 849 (xs (i + 2)) dL_law_848 (vp_in_nI (by omega) (by omega)) (by rw [nI_clamp (by omega)]) rfl ?_
  refine rn_aload_n 850 dL_law_849 rfl rfl rfl ?_
  refine rn_iload_n 851 dL_law_850 rfl rfl rfl ?_
  refine rn_iconst (v := 3) 852 dL_law_851 (by decide) rfl ?_
  refine rn_iadd 853 dL_law_852 rfl ?_
  rw [show nI i + 3 = nI (i + 3) from nI_add i 3]
  refine rn_sld 854 (xs (i + 3)) dL_law_853 (vp_in_nI (by omega) (by omega)) (by rw [nI_clamp (by omega)]) rfl ?_
  refine rn_aload_n 855 dL_law_854 rfl rfl rfl ?_
  refine rn_iload_n 856 dL_law_855 rfl rfl rfl ?_
  refine rn_iconst (v := 4) 857 dL_law_856 (by decide) rfl ?_
  refine rn_iadd 858 dL_law_857 rfl ?_
  rw [show nI i + 4 = nI (i + 4) from nI_add i 4]
  refine rn_sld 859 (xs (i + 4)) dL_law_858 (vp_in_nI (by omega) (by omega)) (by rw [nI_clamp (by omega)]) rfl ?_
  refine rn_callV mX8_respond [.int (xs (i + 1)), .int (xs (i + 2)), .int (xs (i + 3)), .int (xs (i + 4))] [] dL_law_859 cv_L_99 rfl rfl rfl (by simp [Value.category]) (hx mu h h1_) (fun r1 m1 h1 q1 ok1 => ?_)
  obtain ⟨e1, x1, f1⟩ := q1
  subst e1
  obtain ⟨v, rfl⟩ := an_int ok1
  show rn_R _ mL_law _ 862 [some (.ref 99), some (.ref 0), some (.ref 22), some (.int (nI i))] [.int v] m1 h1 _
  refine rn_aload_n 863 dL_law_862 rfl rfl rfl ?_
  refine rn_aload_n 864 dL_law_863 rfl rfl rfl ?_
  refine rn_iload_n 865 dL_law_864 rfl rfl rfl ?_
  refine rn_iconst (v := 1) 866 dL_law_865 (by decide) rfl ?_
  refine rn_iadd 867 dL_law_866 rfl ?_
  rw [show nI i + 1 = nI (i + 1) from nI_add i 1]
  refine rn_sld 868 (xs (i + 1)) dL_law_867 (vp_in_nI (by omega) (by omega)) (by rw [nI_clamp (by omega)]) rfl ?_
  refine rn_aload_n 869 dL_law_868 rfl rfl rfl ?_
  refine rn_iload_n 870 dL_law_869 rfl rfl rfl ?_
  refine rn_iconst (v := 2) 871 dL_law_870 (by decide) rfl ?_
  refine rn_iadd 872 dL_law_871 rfl ?_
  rw [show nI i + 2 = nI (i + 2) from nI_add i 2]
  refine rn_sld 873 (xs (i + 2)) dL_law_872 (vp_in_nI (by omega) (by omega)) (by rw [nI_clamp (by omega)]) rfl ?_
  refine rn_aload_n 874 dL_law_873 rfl rfl rfl ?_
  refine rn_iload_n 875 dL_law_874 rfl rfl rfl ?_
  refine rn_iconst (v := 3) 876 dL_law_875 (by decide) rfl ?_
  refine rn_iadd 877 dL_law_876 rfl ?_
  rw [show nI i + 3 = nI (i + 3) from nI_add i 3]
  refine rn_sld 878 (xs (i + 3)) dL_law_877 (vp_in_nI (by omega) (by omega)) (by rw [nI_clamp (by omega)]) rfl ?_
  refine rn_aload_n 879 dL_law_878 rfl rfl rfl ?_
  refine rn_iload_n 880 dL_law_879 rfl rfl rfl ?_
  refine rn_iconst (v := 4) 881 dL_law_880 (by decide) rfl ?_
  refine rn_iadd 882 dL_law_881 rfl ?_
  rw [show nI i + 4 = nI (i + 4) from nI_add i 4]
  refine rn_sld 883 (xs (i + 4)) dL_law_882 (vp_in_nI (by omega) (by omega)) (by rw [nI_clamp (by omega)]) rfl ?_
  refine rn_callV mX9_respond [.int (xs (i + 1)), .int (xs (i + 2)), .int (xs (i + 3)), .int (xs (i + 4))] [.int v] dL_law_883 cv_L_103 rfl rfl rfl (by simp [Value.category]) (hm m1 h1 (mS_fr h2_ (fun c c1 c2 => f1 c c1))) (fun r2 m2 h2 q2 ok2 => ?_)
  obtain ⟨e2, y2, f2⟩ := q2
  subst e2
  show rn_R _ mL_law _ 886 [some (.ref 99), some (.ref 0), some (.ref 22), some (.int (nI i))] [.int v, .int v] m2 h2 _
  refine rn_icmp_eq 1254 889 dL_law_886 (by decide) rfl (fun _ => ?_) (fun c886 => absurd (rfl) c886)
  exact kk s2 m2 h2 (xS_fr x1 (fun c hc => f2 c (by omega))) y2

set_option maxRecDepth 100000 in
set_option maxHeartbeats 2000000 in
theorem law_c21 {len : Nat} {xs : Nat → Int32} (hlen : len ≤ 3072) {i : Nat} (hi : i + 6 ≤ len) {s : Sx} {mu : Nat → Nat → Int32} {h : Int64} {Q : rn_Q} (h1_ : xS s mu) (h2_ : mS s mu) (kk : ∀ (s2 : Sx) (mu2 : Nat → Nat → Int32) (h2 : Int64), xS s2 mu2 → mS s2 mu2 → rn_R (some (len, xs)) mL_law 101 1254 [some (.ref 99), some (.ref 0), some (.ref 22), some (.int (nI i))] [] mu2 h2 Q) : rn_R (some (len, xs)) mL_law 101 891 [some (.ref 99), some (.ref 0), some (.ref 22), some (.int (nI i))] [] mu h Q := by
  obtain ⟨ans, s2, hx, hm⟩ := op_intR (xs (i + 1)) (xs (i + 2)) (xs (i + 3)) (xs (i + 4)) s
  refine rn_aload_n 892 dL_law_891 rfl rfl rfl ?_
  refine rn_aload_n 893 dL_law_892 rfl rfl rfl ?_
  refine rn_iload_n 894 dL_law_893 rfl rfl rfl ?_
  refine rn_iconst (v := 1) 895 dL_law_894 (by decide) rfl ?_
  refine rn_iadd 896 dL_law_895 rfl ?_
  rw [show nI i + 1 = nI (i + 1) from nI_add i 1]
  refine rn_sld 897 (xs (i + 1)) dL_law_896 (vp_in_nI (by omega) (by omega)) (by rw [nI_clamp (by omega)]) rfl ?_
  refine rn_aload_n 898 dL_law_897 rfl rfl rfl ?_
  refine rn_iload_n 899 dL_law_898 rfl rfl rfl ?_
  refine rn_iconst (v := 2) 900 dL_law_899 (by decide) rfl ?_
  refine rn_iadd 901 dL_law_900 rfl ?_
  rw [show nI i + 2 = nI (i + 2) from nI_add i 2]
  refine rn_sld 902 (xs (i + 2)) dL_law_901 (vp_in_nI (by omega) (by omega)) (by rw [nI_clamp (by omega)]) rfl ?_
  refine rn_aload_n 903 dL_law_902 rfl rfl rfl ?_
  refine rn_iload_n 904 dL_law_903 rfl rfl rfl ?_
  refine rn_iconst (v := 3) 905 dL_law_904 (by decide) rfl ?_
  refine rn_iadd 906 dL_law_905 rfl ?_
  rw [show nI i + 3 = nI (i + 3) from nI_add i 3]
  refine rn_sld 907 (xs (i + 3)) dL_law_906 (vp_in_nI (by omega) (by omega)) (by rw [nI_clamp (by omega)]) rfl ?_
  refine rn_aload_n 908 dL_law_907 rfl rfl rfl ?_
  refine rn_iload_n 909 dL_law_908 rfl rfl rfl ?_
  refine rn_iconst (v := 4) 910 dL_law_909 (by decide) rfl ?_
  refine rn_iadd 911 dL_law_910 rfl ?_
  rw [show nI i + 4 = nI (i + 4) from nI_add i 4]
  refine rn_sld 912 (xs (i + 4)) dL_law_911 (vp_in_nI (by omega) (by omega)) (by rw [nI_clamp (by omega)]) rfl ?_
  refine rn_callV mX8_interdictResponse [.int (xs (i + 1)), .int (xs (i + 2)), .int (xs (i + 3)), .int (xs (i + 4))] [] dL_law_912 cv_L_104 rfl rfl rfl (by simp [Value.category]) (hx mu h h1_) (fun r1 m1 h1 q1 ok1 => ?_)
  obtain ⟨e1, x1, f1⟩ := q1
  subst e1
  obtain ⟨v, rfl⟩ := an_int ok1
  show rn_R _ mL_law _ 915 [some (.ref 99), some (.ref 0), some (.ref 22), some (.int (nI i))] [.int v] m1 h1 _
  refine rn_aload_n 916 dL_law_915 rfl rfl rfl ?_
  refine rn_aload_n 917 dL_law_916 rfl rfl rfl ?_
  refine rn_iload_n 918 dL_law_917 rfl rfl rfl ?_
  refine rn_iconst (v := 1) 919 dL_law_918 (by decide) rfl ?_
  refine rn_iadd 920 dL_law_919 rfl ?_
  rw [show nI i + 1 = nI (i + 1) from nI_add i 1]
  refine rn_sld 921 (xs (i + 1)) dL_law_920 (vp_in_nI (by omega) (by omega)) (by rw [nI_clamp (by omega)]) rfl ?_
  refine rn_aload_n 922 dL_law_921 rfl rfl rfl ?_
  refine rn_iload_n 923 dL_law_922 rfl rfl rfl ?_
  refine rn_iconst (v := 2) 924 dL_law_923 (by decide) rfl ?_
  refine rn_iadd 925 dL_law_924 rfl ?_
  rw [show nI i + 2 = nI (i + 2) from nI_add i 2]
  refine rn_sld 926 (xs (i + 2)) dL_law_925 (vp_in_nI (by omega) (by omega)) (by rw [nI_clamp (by omega)]) rfl ?_
  refine rn_aload_n 927 dL_law_926 rfl rfl rfl ?_
  refine rn_iload_n 928 dL_law_927 rfl rfl rfl ?_
  refine rn_iconst (v := 3) 929 dL_law_928 (by decide) rfl ?_
  refine rn_iadd 930 dL_law_929 rfl ?_
  rw [show nI i + 3 = nI (i + 3) from nI_add i 3]
  refine rn_sld 931 (xs (i + 3)) dL_law_930 (vp_in_nI (by omega) (by omega)) (by rw [nI_clamp (by omega)]) rfl ?_
  refine rn_aload_n 932 dL_law_931 rfl rfl rfl ?_
  refine rn_iload_n 933 dL_law_932 rfl rfl rfl ?_
  refine rn_iconst (v := 4) 934 dL_law_933 (by decide) rfl ?_
  refine rn_iadd 935 dL_law_934 rfl ?_
  rw [show nI i + 4 = nI (i + 4) from nI_add i 4]
  refine rn_sld 936 (xs (i + 4)) dL_law_935 (vp_in_nI (by omega) (by omega)) (by rw [nI_clamp (by omega)]) rfl ?_
  refine rn_callV mX9_interdictResponse [.int (xs (i + 1)), .int (xs (i + 2)), .int (xs (i + 3)), .int (xs (i + 4))] [.int v] dL_law_936 cv_L_107 rfl rfl rfl (by simp [Value.category]) (hm m1 h1 (mS_fr h2_ (fun c c1 c2 => f1 c c1))) (fun r2 m2 h2 q2 ok2 => ?_)
  obtain ⟨e2, y2, f2⟩ := q2
  subst e2
  show rn_R _ mL_law _ 939 [some (.ref 99), some (.ref 0), some (.ref 22), some (.int (nI i))] [.int v, .int v] m2 h2 _
  refine rn_icmp_eq 1254 942 dL_law_939 (by decide) rfl (fun _ => ?_) (fun c939 => absurd (rfl) c939)
  exact kk s2 m2 h2 (xS_fr x1 (fun c hc => f2 c (by omega))) y2

set_option maxRecDepth 100000 in
set_option maxHeartbeats 2000000 in
theorem law_c22 {len : Nat} {xs : Nat → Int32} (hlen : len ≤ 3072) {i : Nat} (hi : i + 6 ≤ len) {s : Sx} {mu : Nat → Nat → Int32} {h : Int64} {Q : rn_Q} (h1_ : xS s mu) (h2_ : mS s mu) (kk : ∀ (s2 : Sx) (mu2 : Nat → Nat → Int32) (h2 : Int64), xS s2 mu2 → mS s2 mu2 → rn_R (some (len, xs)) mL_law 101 1254 [some (.ref 99), some (.ref 0), some (.ref 22), some (.int (nI i))] [] mu2 h2 Q) : rn_R (some (len, xs)) mL_law 101 944 [some (.ref 99), some (.ref 0), some (.ref 22), some (.int (nI i))] [] mu h Q := by
  obtain ⟨ans, s2, hx, hm⟩ := op_fortify (xs (i + 1)) (xs (i + 2)) (xs (i + 3)) (xs (i + 4)) s
  refine rn_aload_n 945 dL_law_944 rfl rfl rfl ?_
  refine rn_aload_n 946 dL_law_945 rfl rfl rfl ?_
  refine rn_iload_n 947 dL_law_946 rfl rfl rfl ?_
  refine rn_iconst (v := 1) 948 dL_law_947 (by decide) rfl ?_
  refine rn_iadd 949 dL_law_948 rfl ?_
  rw [show nI i + 1 = nI (i + 1) from nI_add i 1]
  refine rn_sld 950 (xs (i + 1)) dL_law_949 (vp_in_nI (by omega) (by omega)) (by rw [nI_clamp (by omega)]) rfl ?_
  refine rn_aload_n 951 dL_law_950 rfl rfl rfl ?_
  refine rn_iload_n 952 dL_law_951 rfl rfl rfl ?_
  refine rn_iconst (v := 2) 953 dL_law_952 (by decide) rfl ?_
  refine rn_iadd 954 dL_law_953 rfl ?_
  rw [show nI i + 2 = nI (i + 2) from nI_add i 2]
  refine rn_sld 955 (xs (i + 2)) dL_law_954 (vp_in_nI (by omega) (by omega)) (by rw [nI_clamp (by omega)]) rfl ?_
  refine rn_aload_n 956 dL_law_955 rfl rfl rfl ?_
  refine rn_iload_n 957 dL_law_956 rfl rfl rfl ?_
  refine rn_iconst (v := 3) 958 dL_law_957 (by decide) rfl ?_
  refine rn_iadd 959 dL_law_958 rfl ?_
  rw [show nI i + 3 = nI (i + 3) from nI_add i 3]
  refine rn_sld 960 (xs (i + 3)) dL_law_959 (vp_in_nI (by omega) (by omega)) (by rw [nI_clamp (by omega)]) rfl ?_
  refine rn_aload_n 961 dL_law_960 rfl rfl rfl ?_
  refine rn_iload_n 962 dL_law_961 rfl rfl rfl ?_
  refine rn_iconst (v := 4) 963 dL_law_962 (by decide) rfl ?_
  refine rn_iadd 964 dL_law_963 rfl ?_
  rw [show nI i + 4 = nI (i + 4) from nI_add i 4]
  refine rn_sld 965 (xs (i + 4)) dL_law_964 (vp_in_nI (by omega) (by omega)) (by rw [nI_clamp (by omega)]) rfl ?_
  refine rn_callV mX8_fortify [.int (xs (i + 1)), .int (xs (i + 2)), .int (xs (i + 3)), .int (xs (i + 4))] [] dL_law_965 cv_L_108 rfl rfl rfl (by simp [Value.category]) (hx mu h h1_) (fun r1 m1 h1 q1 ok1 => ?_)
  obtain ⟨e1, x1, f1⟩ := q1
  subst e1
  obtain ⟨v, rfl⟩ := an_int ok1
  show rn_R _ mL_law _ 968 [some (.ref 99), some (.ref 0), some (.ref 22), some (.int (nI i))] [.int v] m1 h1 _
  refine rn_aload_n 969 dL_law_968 rfl rfl rfl ?_
  refine rn_aload_n 970 dL_law_969 rfl rfl rfl ?_
  refine rn_iload_n 971 dL_law_970 rfl rfl rfl ?_
  refine rn_iconst (v := 1) 972 dL_law_971 (by decide) rfl ?_
  refine rn_iadd 973 dL_law_972 rfl ?_
  rw [show nI i + 1 = nI (i + 1) from nI_add i 1]
  refine rn_sld 974 (xs (i + 1)) dL_law_973 (vp_in_nI (by omega) (by omega)) (by rw [nI_clamp (by omega)]) rfl ?_
  refine rn_aload_n 975 dL_law_974 rfl rfl rfl ?_
  refine rn_iload_n 976 dL_law_975 rfl rfl rfl ?_
  refine rn_iconst (v := 2) 977 dL_law_976 (by decide) rfl ?_
  refine rn_iadd 978 dL_law_977 rfl ?_
  rw [show nI i + 2 = nI (i + 2) from nI_add i 2]
  refine rn_sld 979 (xs (i + 2)) dL_law_978 (vp_in_nI (by omega) (by omega)) (by rw [nI_clamp (by omega)]) rfl ?_
  refine rn_aload_n 980 dL_law_979 rfl rfl rfl ?_
  refine rn_iload_n 981 dL_law_980 rfl rfl rfl ?_
  refine rn_iconst (v := 3) 982 dL_law_981 (by decide) rfl ?_
  refine rn_iadd 983 dL_law_982 rfl ?_
  rw [show nI i + 3 = nI (i + 3) from nI_add i 3]
  refine rn_sld 984 (xs (i + 3)) dL_law_983 (vp_in_nI (by omega) (by omega)) (by rw [nI_clamp (by omega)]) rfl ?_
  refine rn_aload_n 985 dL_law_984 rfl rfl rfl ?_
  refine rn_iload_n 986 dL_law_985 rfl rfl rfl ?_
  refine rn_iconst (v := 4) 987 dL_law_986 (by decide) rfl ?_
  refine rn_iadd 988 dL_law_987 rfl ?_
  rw [show nI i + 4 = nI (i + 4) from nI_add i 4]
  refine rn_sld 989 (xs (i + 4)) dL_law_988 (vp_in_nI (by omega) (by omega)) (by rw [nI_clamp (by omega)]) rfl ?_
  refine rn_callV mX9_fortify [.int (xs (i + 1)), .int (xs (i + 2)), .int (xs (i + 3)), .int (xs (i + 4))] [.int v] dL_law_989 cv_L_111 rfl rfl rfl (by simp [Value.category]) (hm m1 h1 (mS_fr h2_ (fun c c1 c2 => f1 c c1))) (fun r2 m2 h2 q2 ok2 => ?_)
  obtain ⟨e2, y2, f2⟩ := q2
  subst e2
  show rn_R _ mL_law _ 992 [some (.ref 99), some (.ref 0), some (.ref 22), some (.int (nI i))] [.int v, .int v] m2 h2 _
  refine rn_icmp_eq 1254 995 dL_law_992 (by decide) rfl (fun _ => ?_) (fun c992 => absurd (rfl) c992)
  exact kk s2 m2 h2 (xS_fr x1 (fun c hc => f2 c (by omega))) y2

set_option maxRecDepth 100000 in
set_option maxHeartbeats 2000000 in
theorem law_c23 {len : Nat} {xs : Nat → Int32} (hlen : len ≤ 3072) {i : Nat} (hi : i + 6 ≤ len) {s : Sx} {mu : Nat → Nat → Int32} {h : Int64} {Q : rn_Q} (h1_ : xS s mu) (h2_ : mS s mu) (kk : ∀ (s2 : Sx) (mu2 : Nat → Nat → Int32) (h2 : Int64), xS s2 mu2 → mS s2 mu2 → rn_R (some (len, xs)) mL_law 101 1254 [some (.ref 99), some (.ref 0), some (.ref 22), some (.int (nI i))] [] mu2 h2 Q) : rn_R (some (len, xs)) mL_law 101 997 [some (.ref 99), some (.ref 0), some (.ref 22), some (.int (nI i))] [] mu h Q := by
  obtain ⟨ans, s2, hx, hm⟩ := op_finding  s
  refine rn_aload_n 998 dL_law_997 rfl rfl rfl ?_
  refine rn_callV mX8_finding [] [] dL_law_998 cv_L_112 rfl rfl rfl (by simp [Value.category]) (hx mu h h1_) (fun r1 m1 h1 q1 ok1 => ?_)
  obtain ⟨e1, x1, f1⟩ := q1
  subst e1
  obtain ⟨v, rfl⟩ := an_int ok1
  show rn_R _ mL_law _ 1001 [some (.ref 99), some (.ref 0), some (.ref 22), some (.int (nI i))] [.int v] m1 h1 _
  refine rn_aload_n 1002 dL_law_1001 rfl rfl rfl ?_
  refine rn_callV mX9_finding [] [.int v] dL_law_1002 cv_L_115 rfl rfl rfl (by simp [Value.category]) (hm m1 h1 (mS_fr h2_ (fun c c1 c2 => f1 c c1))) (fun r2 m2 h2 q2 ok2 => ?_)
  obtain ⟨e2, y2, f2⟩ := q2
  subst e2
  show rn_R _ mL_law _ 1005 [some (.ref 99), some (.ref 0), some (.ref 22), some (.int (nI i))] [.int v, .int v] m2 h2 _
  refine rn_icmp_eq 1254 1008 dL_law_1005 (by decide) rfl (fun _ => ?_) (fun c1005 => absurd (rfl) c1005)
  exact kk s2 m2 h2 (xS_fr x1 (fun c hc => f2 c (by omega))) y2

set_option maxRecDepth 100000 in
set_option maxHeartbeats 2000000 in
theorem law_c24 {len : Nat} {xs : Nat → Int32} (hlen : len ≤ 3072) {i : Nat} (hi : i + 6 ≤ len) {s : Sx} {mu : Nat → Nat → Int32} {h : Int64} {Q : rn_Q} (h1_ : xS s mu) (h2_ : mS s mu) (kk : ∀ (s2 : Sx) (mu2 : Nat → Nat → Int32) (h2 : Int64), xS s2 mu2 → mS s2 mu2 → rn_R (some (len, xs)) mL_law 101 1254 [some (.ref 99), some (.ref 0), some (.ref 22), some (.int (nI i))] [] mu2 h2 Q) : rn_R (some (len, xs)) mL_law 101 1010 [some (.ref 99), some (.ref 0), some (.ref 22), some (.int (nI i))] [] mu h Q := by
  obtain ⟨ans, s2, hx, hm⟩ := op_worth (xs (i + 1)) (xs (i + 2)) (xs (i + 3)) s
  refine rn_aload_n 1011 dL_law_1010 rfl rfl rfl ?_
  refine rn_aload_n 1012 dL_law_1011 rfl rfl rfl ?_
  refine rn_iload_n 1013 dL_law_1012 rfl rfl rfl ?_
  refine rn_iconst (v := 1) 1014 dL_law_1013 (by decide) rfl ?_
  refine rn_iadd 1015 dL_law_1014 rfl ?_
  rw [show nI i + 1 = nI (i + 1) from nI_add i 1]
  refine rn_sld 1016 (xs (i + 1)) dL_law_1015 (vp_in_nI (by omega) (by omega)) (by rw [nI_clamp (by omega)]) rfl ?_
  refine rn_aload_n 1017 dL_law_1016 rfl rfl rfl ?_
  refine rn_iload_n 1018 dL_law_1017 rfl rfl rfl ?_
  refine rn_iconst (v := 2) 1019 dL_law_1018 (by decide) rfl ?_
  refine rn_iadd 1020 dL_law_1019 rfl ?_
  rw [show nI i + 2 = nI (i + 2) from nI_add i 2]
  refine rn_sld 1021 (xs (i + 2)) dL_law_1020 (vp_in_nI (by omega) (by omega)) (by rw [nI_clamp (by omega)]) rfl ?_
  refine rn_aload_n 1022 dL_law_1021 rfl rfl rfl ?_
  refine rn_iload_n 1023 dL_law_1022 rfl rfl rfl ?_
  refine rn_iconst (v := 3) 1024 dL_law_1023 (by decide) rfl ?_
  refine rn_iadd 1025 dL_law_1024 rfl ?_
  rw [show nI i + 3 = nI (i + 3) from nI_add i 3]
  refine rn_sld 1026 (xs (i + 3)) dL_law_1025 (vp_in_nI (by omega) (by omega)) (by rw [nI_clamp (by omega)]) rfl ?_
  refine rn_callV mX8_worth [.int (xs (i + 1)), .int (xs (i + 2)), .int (xs (i + 3))] [] dL_law_1026 cv_L_116 rfl rfl rfl (by simp [Value.category]) (hx mu h h1_) (fun r1 m1 h1 q1 ok1 => ?_)
  obtain ⟨e1, x1, f1⟩ := q1
  subst e1
  obtain ⟨v, rfl⟩ := an_int ok1
  show rn_R _ mL_law _ 1029 [some (.ref 99), some (.ref 0), some (.ref 22), some (.int (nI i))] [.int v] m1 h1 _
  refine rn_aload_n 1030 dL_law_1029 rfl rfl rfl ?_
  refine rn_aload_n 1031 dL_law_1030 rfl rfl rfl ?_
  refine rn_iload_n 1032 dL_law_1031 rfl rfl rfl ?_
  refine rn_iconst (v := 1) 1033 dL_law_1032 (by decide) rfl ?_
  refine rn_iadd 1034 dL_law_1033 rfl ?_
  rw [show nI i + 1 = nI (i + 1) from nI_add i 1]
  refine rn_sld 1035 (xs (i + 1)) dL_law_1034 (vp_in_nI (by omega) (by omega)) (by rw [nI_clamp (by omega)]) rfl ?_
  refine rn_aload_n 1036 dL_law_1035 rfl rfl rfl ?_
  refine rn_iload_n 1037 dL_law_1036 rfl rfl rfl ?_
  refine rn_iconst (v := 2) 1038 dL_law_1037 (by decide) rfl ?_
  refine rn_iadd 1039 dL_law_1038 rfl ?_
  rw [show nI i + 2 = nI (i + 2) from nI_add i 2]
  refine rn_sld 1040 (xs (i + 2)) dL_law_1039 (vp_in_nI (by omega) (by omega)) (by rw [nI_clamp (by omega)]) rfl ?_
  refine rn_aload_n 1041 dL_law_1040 rfl rfl rfl ?_
  refine rn_iload_n 1042 dL_law_1041 rfl rfl rfl ?_
  refine rn_iconst (v := 3) 1043 dL_law_1042 (by decide) rfl ?_
  refine rn_iadd 1044 dL_law_1043 rfl ?_
  rw [show nI i + 3 = nI (i + 3) from nI_add i 3]
  refine rn_sld 1045 (xs (i + 3)) dL_law_1044 (vp_in_nI (by omega) (by omega)) (by rw [nI_clamp (by omega)]) rfl ?_
  refine rn_callV mX9_worth [.int (xs (i + 1)), .int (xs (i + 2)), .int (xs (i + 3))] [.int v] dL_law_1045 cv_L_119 rfl rfl rfl (by simp [Value.category]) (hm m1 h1 (mS_fr h2_ (fun c c1 c2 => f1 c c1))) (fun r2 m2 h2 q2 ok2 => ?_)
  obtain ⟨e2, y2, f2⟩ := q2
  subst e2
  show rn_R _ mL_law _ 1048 [some (.ref 99), some (.ref 0), some (.ref 22), some (.int (nI i))] [.int v, .int v] m2 h2 _
  refine rn_icmp_eq 1254 1051 dL_law_1048 (by decide) rfl (fun _ => ?_) (fun c1048 => absurd (rfl) c1048)
  exact kk s2 m2 h2 (xS_fr x1 (fun c hc => f2 c (by omega))) y2

set_option maxRecDepth 100000 in
set_option maxHeartbeats 2000000 in
theorem law_c25 {len : Nat} {xs : Nat → Int32} (hlen : len ≤ 3072) {i : Nat} (hi : i + 6 ≤ len) {s : Sx} {mu : Nat → Nat → Int32} {h : Int64} {Q : rn_Q} (h1_ : xS s mu) (h2_ : mS s mu) (kk : ∀ (s2 : Sx) (mu2 : Nat → Nat → Int32) (h2 : Int64), xS s2 mu2 → mS s2 mu2 → rn_R (some (len, xs)) mL_law 101 1254 [some (.ref 99), some (.ref 0), some (.ref 22), some (.int (nI i))] [] mu2 h2 Q) : rn_R (some (len, xs)) mL_law 101 1053 [some (.ref 99), some (.ref 0), some (.ref 22), some (.int (nI i))] [] mu h Q := by
  obtain ⟨ans, s2, hx, hm⟩ := op_neverHelps (xs (i + 1)) (xs (i + 2)) (xs (i + 3)) s
  refine rn_aload_n 1054 dL_law_1053 rfl rfl rfl ?_
  refine rn_aload_n 1055 dL_law_1054 rfl rfl rfl ?_
  refine rn_iload_n 1056 dL_law_1055 rfl rfl rfl ?_
  refine rn_iconst (v := 1) 1057 dL_law_1056 (by decide) rfl ?_
  refine rn_iadd 1058 dL_law_1057 rfl ?_
  rw [show nI i + 1 = nI (i + 1) from nI_add i 1]
  refine rn_sld 1059 (xs (i + 1)) dL_law_1058 (vp_in_nI (by omega) (by omega)) (by rw [nI_clamp (by omega)]) rfl ?_
  refine rn_aload_n 1060 dL_law_1059 rfl rfl rfl ?_
  refine rn_iload_n 1061 dL_law_1060 rfl rfl rfl ?_
  refine rn_iconst (v := 2) 1062 dL_law_1061 (by decide) rfl ?_
  refine rn_iadd 1063 dL_law_1062 rfl ?_
  rw [show nI i + 2 = nI (i + 2) from nI_add i 2]
  refine rn_sld 1064 (xs (i + 2)) dL_law_1063 (vp_in_nI (by omega) (by omega)) (by rw [nI_clamp (by omega)]) rfl ?_
  refine rn_aload_n 1065 dL_law_1064 rfl rfl rfl ?_
  refine rn_iload_n 1066 dL_law_1065 rfl rfl rfl ?_
  refine rn_iconst (v := 3) 1067 dL_law_1066 (by decide) rfl ?_
  refine rn_iadd 1068 dL_law_1067 rfl ?_
  rw [show nI i + 3 = nI (i + 3) from nI_add i 3]
  refine rn_sld 1069 (xs (i + 3)) dL_law_1068 (vp_in_nI (by omega) (by omega)) (by rw [nI_clamp (by omega)]) rfl ?_
  refine rn_callV mX8_neverHelps [.int (xs (i + 1)), .int (xs (i + 2)), .int (xs (i + 3))] [] dL_law_1069 cv_L_120 rfl rfl rfl (by simp [Value.category]) (hx mu h h1_) (fun r1 m1 h1 q1 ok1 => ?_)
  obtain ⟨e1, x1, f1⟩ := q1
  subst e1
  obtain ⟨v, rfl⟩ := an_int ok1
  show rn_R _ mL_law _ 1072 [some (.ref 99), some (.ref 0), some (.ref 22), some (.int (nI i))] [.int v] m1 h1 _
  refine rn_aload_n 1073 dL_law_1072 rfl rfl rfl ?_
  refine rn_aload_n 1074 dL_law_1073 rfl rfl rfl ?_
  refine rn_iload_n 1075 dL_law_1074 rfl rfl rfl ?_
  refine rn_iconst (v := 1) 1076 dL_law_1075 (by decide) rfl ?_
  refine rn_iadd 1077 dL_law_1076 rfl ?_
  rw [show nI i + 1 = nI (i + 1) from nI_add i 1]
  refine rn_sld 1078 (xs (i + 1)) dL_law_1077 (vp_in_nI (by omega) (by omega)) (by rw [nI_clamp (by omega)]) rfl ?_
  refine rn_aload_n 1079 dL_law_1078 rfl rfl rfl ?_
  refine rn_iload_n 1080 dL_law_1079 rfl rfl rfl ?_
  refine rn_iconst (v := 2) 1081 dL_law_1080 (by decide) rfl ?_
  refine rn_iadd 1082 dL_law_1081 rfl ?_
  rw [show nI i + 2 = nI (i + 2) from nI_add i 2]
  refine rn_sld 1083 (xs (i + 2)) dL_law_1082 (vp_in_nI (by omega) (by omega)) (by rw [nI_clamp (by omega)]) rfl ?_
  refine rn_aload_n 1084 dL_law_1083 rfl rfl rfl ?_
  refine rn_iload_n 1085 dL_law_1084 rfl rfl rfl ?_
  refine rn_iconst (v := 3) 1086 dL_law_1085 (by decide) rfl ?_
  refine rn_iadd 1087 dL_law_1086 rfl ?_
  rw [show nI i + 3 = nI (i + 3) from nI_add i 3]
  refine rn_sld 1088 (xs (i + 3)) dL_law_1087 (vp_in_nI (by omega) (by omega)) (by rw [nI_clamp (by omega)]) rfl ?_
  refine rn_callV mX9_neverHelps [.int (xs (i + 1)), .int (xs (i + 2)), .int (xs (i + 3))] [.int v] dL_law_1088 cv_L_123 rfl rfl rfl (by simp [Value.category]) (hm m1 h1 (mS_fr h2_ (fun c c1 c2 => f1 c c1))) (fun r2 m2 h2 q2 ok2 => ?_)
  obtain ⟨e2, y2, f2⟩ := q2
  subst e2
  show rn_R _ mL_law _ 1091 [some (.ref 99), some (.ref 0), some (.ref 22), some (.int (nI i))] [.int v, .int v] m2 h2 _
  refine rn_icmp_eq 1254 1094 dL_law_1091 (by decide) rfl (fun _ => ?_) (fun c1091 => absurd (rfl) c1091)
  exact kk s2 m2 h2 (xS_fr x1 (fun c hc => f2 c (by omega))) y2

set_option maxRecDepth 100000 in
set_option maxHeartbeats 2000000 in
theorem law_c26 {len : Nat} {xs : Nat → Int32} (hlen : len ≤ 3072) {i : Nat} (hi : i + 6 ≤ len) {s : Sx} {mu : Nat → Nat → Int32} {h : Int64} {Q : rn_Q} (h1_ : xS s mu) (h2_ : mS s mu) (kk : ∀ (s2 : Sx) (mu2 : Nat → Nat → Int32) (h2 : Int64), xS s2 mu2 → mS s2 mu2 → rn_R (some (len, xs)) mL_law 101 1254 [some (.ref 99), some (.ref 0), some (.ref 22), some (.int (nI i))] [] mu2 h2 Q) : rn_R (some (len, xs)) mL_law 101 1096 [some (.ref 99), some (.ref 0), some (.ref 22), some (.int (nI i))] [] mu h Q := by
  obtain ⟨ans, s2, hx, hm⟩ := op_expected (xs (i + 1)) (xs (i + 2)) (xs (i + 3)) (xs (i + 4)) s
  refine rn_aload_n 1097 dL_law_1096 rfl rfl rfl ?_
  refine rn_aload_n 1098 dL_law_1097 rfl rfl rfl ?_
  refine rn_iload_n 1099 dL_law_1098 rfl rfl rfl ?_
  refine rn_iconst (v := 1) 1100 dL_law_1099 (by decide) rfl ?_
  refine rn_iadd 1101 dL_law_1100 rfl ?_
  rw [show nI i + 1 = nI (i + 1) from nI_add i 1]
  refine rn_sld 1102 (xs (i + 1)) dL_law_1101 (vp_in_nI (by omega) (by omega)) (by rw [nI_clamp (by omega)]) rfl ?_
  refine rn_aload_n 1103 dL_law_1102 rfl rfl rfl ?_
  refine rn_iload_n 1104 dL_law_1103 rfl rfl rfl ?_
  refine rn_iconst (v := 2) 1105 dL_law_1104 (by decide) rfl ?_
  refine rn_iadd 1106 dL_law_1105 rfl ?_
  rw [show nI i + 2 = nI (i + 2) from nI_add i 2]
  refine rn_sld 1107 (xs (i + 2)) dL_law_1106 (vp_in_nI (by omega) (by omega)) (by rw [nI_clamp (by omega)]) rfl ?_
  refine rn_aload_n 1108 dL_law_1107 rfl rfl rfl ?_
  refine rn_iload_n 1109 dL_law_1108 rfl rfl rfl ?_
  refine rn_iconst (v := 3) 1110 dL_law_1109 (by decide) rfl ?_
  refine rn_iadd 1111 dL_law_1110 rfl ?_
  rw [show nI i + 3 = nI (i + 3) from nI_add i 3]
  refine rn_sld 1112 (xs (i + 3)) dL_law_1111 (vp_in_nI (by omega) (by omega)) (by rw [nI_clamp (by omega)]) rfl ?_
  refine rn_aload_n 1113 dL_law_1112 rfl rfl rfl ?_
  refine rn_iload_n 1114 dL_law_1113 rfl rfl rfl ?_
  refine rn_iconst (v := 4) 1115 dL_law_1114 (by decide) rfl ?_
  refine rn_iadd 1116 dL_law_1115 rfl ?_
  rw [show nI i + 4 = nI (i + 4) from nI_add i 4]
  refine rn_sld 1117 (xs (i + 4)) dL_law_1116 (vp_in_nI (by omega) (by omega)) (by rw [nI_clamp (by omega)]) rfl ?_
  refine rn_callV mX8_expected [.int (xs (i + 1)), .int (xs (i + 2)), .int (xs (i + 3)), .int (xs (i + 4))] [] dL_law_1117 cv_L_124 rfl rfl rfl (by simp [Value.category]) (hx mu h h1_) (fun r1 m1 h1 q1 ok1 => ?_)
  obtain ⟨e1, x1, f1⟩ := q1
  subst e1
  obtain ⟨v, rfl⟩ := an_long ok1
  show rn_R _ mL_law _ 1120 [some (.ref 99), some (.ref 0), some (.ref 22), some (.int (nI i))] [.long v] m1 h1 _
  refine rn_aload_n 1121 dL_law_1120 rfl rfl rfl ?_
  refine rn_aload_n 1122 dL_law_1121 rfl rfl rfl ?_
  refine rn_iload_n 1123 dL_law_1122 rfl rfl rfl ?_
  refine rn_iconst (v := 1) 1124 dL_law_1123 (by decide) rfl ?_
  refine rn_iadd 1125 dL_law_1124 rfl ?_
  rw [show nI i + 1 = nI (i + 1) from nI_add i 1]
  refine rn_sld 1126 (xs (i + 1)) dL_law_1125 (vp_in_nI (by omega) (by omega)) (by rw [nI_clamp (by omega)]) rfl ?_
  refine rn_aload_n 1127 dL_law_1126 rfl rfl rfl ?_
  refine rn_iload_n 1128 dL_law_1127 rfl rfl rfl ?_
  refine rn_iconst (v := 2) 1129 dL_law_1128 (by decide) rfl ?_
  refine rn_iadd 1130 dL_law_1129 rfl ?_
  rw [show nI i + 2 = nI (i + 2) from nI_add i 2]
  refine rn_sld 1131 (xs (i + 2)) dL_law_1130 (vp_in_nI (by omega) (by omega)) (by rw [nI_clamp (by omega)]) rfl ?_
  refine rn_aload_n 1132 dL_law_1131 rfl rfl rfl ?_
  refine rn_iload_n 1133 dL_law_1132 rfl rfl rfl ?_
  refine rn_iconst (v := 3) 1134 dL_law_1133 (by decide) rfl ?_
  refine rn_iadd 1135 dL_law_1134 rfl ?_
  rw [show nI i + 3 = nI (i + 3) from nI_add i 3]
  refine rn_sld 1136 (xs (i + 3)) dL_law_1135 (vp_in_nI (by omega) (by omega)) (by rw [nI_clamp (by omega)]) rfl ?_
  refine rn_aload_n 1137 dL_law_1136 rfl rfl rfl ?_
  refine rn_iload_n 1138 dL_law_1137 rfl rfl rfl ?_
  refine rn_iconst (v := 4) 1139 dL_law_1138 (by decide) rfl ?_
  refine rn_iadd 1140 dL_law_1139 rfl ?_
  rw [show nI i + 4 = nI (i + 4) from nI_add i 4]
  refine rn_sld 1141 (xs (i + 4)) dL_law_1140 (vp_in_nI (by omega) (by omega)) (by rw [nI_clamp (by omega)]) rfl ?_
  refine rn_callV mX9_expected [.int (xs (i + 1)), .int (xs (i + 2)), .int (xs (i + 3)), .int (xs (i + 4))] [.long v] dL_law_1141 cv_L_128 rfl rfl rfl (by simp [Value.category]) (hm m1 h1 (mS_fr h2_ (fun c c1 c2 => f1 c c1))) (fun r2 m2 h2 q2 ok2 => ?_)
  obtain ⟨e2, y2, f2⟩ := q2
  subst e2
  show rn_R _ mL_law _ 1144 [some (.ref 99), some (.ref 0), some (.ref 22), some (.int (nI i))] [.long v, .long v] m2 h2 _
  refine rn_lcmp 1145 dL_law_1144 rfl ?_
  refine rn_if_eq 1254 1148 dL_law_1145 (by decide) rfl (fun _ => ?_) (fun c1145 => absurd (lg_same v) c1145)
  exact kk s2 m2 h2 (xS_fr x1 (fun c hc => f2 c (by omega))) y2

set_option maxRecDepth 100000 in
set_option maxHeartbeats 2000000 in
theorem law_c27 {len : Nat} {xs : Nat → Int32} (hlen : len ≤ 3072) {i : Nat} (hi : i + 6 ≤ len) {s : Sx} {mu : Nat → Nat → Int32} {h : Int64} {Q : rn_Q} (h1_ : xS s mu) (h2_ : mS s mu) (kk : ∀ (s2 : Sx) (mu2 : Nat → Nat → Int32) (h2 : Int64), xS s2 mu2 → mS s2 mu2 → rn_R (some (len, xs)) mL_law 101 1254 [some (.ref 99), some (.ref 0), some (.ref 22), some (.int (nI i))] [] mu2 h2 Q) : rn_R (some (len, xs)) mL_law 101 1150 [some (.ref 99), some (.ref 0), some (.ref 22), some (.int (nI i))] [] mu h Q := by
  obtain ⟨ans, s2, hx, hm⟩ := op_lost (xs (i + 1)) (xs (i + 2)) (xs (i + 3)) (xs (i + 4)) s
  refine rn_aload_n 1151 dL_law_1150 rfl rfl rfl ?_
  refine rn_aload_n 1152 dL_law_1151 rfl rfl rfl ?_
  refine rn_iload_n 1153 dL_law_1152 rfl rfl rfl ?_
  refine rn_iconst (v := 1) 1154 dL_law_1153 (by decide) rfl ?_
  refine rn_iadd 1155 dL_law_1154 rfl ?_
  rw [show nI i + 1 = nI (i + 1) from nI_add i 1]
  refine rn_sld 1156 (xs (i + 1)) dL_law_1155 (vp_in_nI (by omega) (by omega)) (by rw [nI_clamp (by omega)]) rfl ?_
  refine rn_aload_n 1157 dL_law_1156 rfl rfl rfl ?_
  refine rn_iload_n 1158 dL_law_1157 rfl rfl rfl ?_
  refine rn_iconst (v := 2) 1159 dL_law_1158 (by decide) rfl ?_
  refine rn_iadd 1160 dL_law_1159 rfl ?_
  rw [show nI i + 2 = nI (i + 2) from nI_add i 2]
  refine rn_sld 1161 (xs (i + 2)) dL_law_1160 (vp_in_nI (by omega) (by omega)) (by rw [nI_clamp (by omega)]) rfl ?_
  refine rn_aload_n 1162 dL_law_1161 rfl rfl rfl ?_
  refine rn_iload_n 1163 dL_law_1162 rfl rfl rfl ?_
  refine rn_iconst (v := 3) 1164 dL_law_1163 (by decide) rfl ?_
  refine rn_iadd 1165 dL_law_1164 rfl ?_
  rw [show nI i + 3 = nI (i + 3) from nI_add i 3]
  refine rn_sld 1166 (xs (i + 3)) dL_law_1165 (vp_in_nI (by omega) (by omega)) (by rw [nI_clamp (by omega)]) rfl ?_
  refine rn_aload_n 1167 dL_law_1166 rfl rfl rfl ?_
  refine rn_iload_n 1168 dL_law_1167 rfl rfl rfl ?_
  refine rn_iconst (v := 4) 1169 dL_law_1168 (by decide) rfl ?_
  refine rn_iadd 1170 dL_law_1169 rfl ?_
  rw [show nI i + 4 = nI (i + 4) from nI_add i 4]
  refine rn_sld 1171 (xs (i + 4)) dL_law_1170 (vp_in_nI (by omega) (by omega)) (by rw [nI_clamp (by omega)]) rfl ?_
  refine rn_callV mX8_lost [.int (xs (i + 1)), .int (xs (i + 2)), .int (xs (i + 3)), .int (xs (i + 4))] [] dL_law_1171 cv_L_129 rfl rfl rfl (by simp [Value.category]) (hx mu h h1_) (fun r1 m1 h1 q1 ok1 => ?_)
  obtain ⟨e1, x1, f1⟩ := q1
  subst e1
  obtain ⟨v, rfl⟩ := an_long ok1
  show rn_R _ mL_law _ 1174 [some (.ref 99), some (.ref 0), some (.ref 22), some (.int (nI i))] [.long v] m1 h1 _
  refine rn_aload_n 1175 dL_law_1174 rfl rfl rfl ?_
  refine rn_aload_n 1176 dL_law_1175 rfl rfl rfl ?_
  refine rn_iload_n 1177 dL_law_1176 rfl rfl rfl ?_
  refine rn_iconst (v := 1) 1178 dL_law_1177 (by decide) rfl ?_
  refine rn_iadd 1179 dL_law_1178 rfl ?_
  rw [show nI i + 1 = nI (i + 1) from nI_add i 1]
  refine rn_sld 1180 (xs (i + 1)) dL_law_1179 (vp_in_nI (by omega) (by omega)) (by rw [nI_clamp (by omega)]) rfl ?_
  refine rn_aload_n 1181 dL_law_1180 rfl rfl rfl ?_
  refine rn_iload_n 1182 dL_law_1181 rfl rfl rfl ?_
  refine rn_iconst (v := 2) 1183 dL_law_1182 (by decide) rfl ?_
  refine rn_iadd 1184 dL_law_1183 rfl ?_
  rw [show nI i + 2 = nI (i + 2) from nI_add i 2]
  refine rn_sld 1185 (xs (i + 2)) dL_law_1184 (vp_in_nI (by omega) (by omega)) (by rw [nI_clamp (by omega)]) rfl ?_
  refine rn_aload_n 1186 dL_law_1185 rfl rfl rfl ?_
  refine rn_iload_n 1187 dL_law_1186 rfl rfl rfl ?_
  refine rn_iconst (v := 3) 1188 dL_law_1187 (by decide) rfl ?_
  refine rn_iadd 1189 dL_law_1188 rfl ?_
  rw [show nI i + 3 = nI (i + 3) from nI_add i 3]
  refine rn_sld 1190 (xs (i + 3)) dL_law_1189 (vp_in_nI (by omega) (by omega)) (by rw [nI_clamp (by omega)]) rfl ?_
  refine rn_aload_n 1191 dL_law_1190 rfl rfl rfl ?_
  refine rn_iload_n 1192 dL_law_1191 rfl rfl rfl ?_
  refine rn_iconst (v := 4) 1193 dL_law_1192 (by decide) rfl ?_
  refine rn_iadd 1194 dL_law_1193 rfl ?_
  rw [show nI i + 4 = nI (i + 4) from nI_add i 4]
  refine rn_sld 1195 (xs (i + 4)) dL_law_1194 (vp_in_nI (by omega) (by omega)) (by rw [nI_clamp (by omega)]) rfl ?_
  refine rn_callV mX9_lost [.int (xs (i + 1)), .int (xs (i + 2)), .int (xs (i + 3)), .int (xs (i + 4))] [.long v] dL_law_1195 cv_L_132 rfl rfl rfl (by simp [Value.category]) (hm m1 h1 (mS_fr h2_ (fun c c1 c2 => f1 c c1))) (fun r2 m2 h2 q2 ok2 => ?_)
  obtain ⟨e2, y2, f2⟩ := q2
  subst e2
  show rn_R _ mL_law _ 1198 [some (.ref 99), some (.ref 0), some (.ref 22), some (.int (nI i))] [.long v, .long v] m2 h2 _
  refine rn_lcmp 1199 dL_law_1198 rfl ?_
  refine rn_if_eq 1254 1202 dL_law_1199 (by decide) rfl (fun _ => ?_) (fun c1199 => absurd (lg_same v) c1199)
  exact kk s2 m2 h2 (xS_fr x1 (fun c hc => f2 c (by omega))) y2

set_option maxRecDepth 100000 in
set_option maxHeartbeats 2000000 in
theorem law_c28 {len : Nat} {xs : Nat → Int32} (hlen : len ≤ 3072) {i : Nat} (hi : i + 6 ≤ len) {s : Sx} {mu : Nat → Nat → Int32} {h : Int64} {Q : rn_Q} (h1_ : xS s mu) (h2_ : mS s mu) (kk : ∀ (s2 : Sx) (mu2 : Nat → Nat → Int32) (h2 : Int64), xS s2 mu2 → mS s2 mu2 → rn_R (some (len, xs)) mL_law 101 1254 [some (.ref 99), some (.ref 0), some (.ref 22), some (.int (nI i))] [] mu2 h2 Q) : rn_R (some (len, xs)) mL_law 101 1204 [some (.ref 99), some (.ref 0), some (.ref 22), some (.int (nI i))] [] mu h Q := by
  obtain ⟨ans, s2, hx, hm⟩ := op_undo  s
  refine rn_aload_n 1205 dL_law_1204 rfl rfl rfl ?_
  refine rn_callV mX8_undo [] [] dL_law_1205 cv_L_133 rfl rfl rfl (by simp [Value.category]) (hx mu h h1_) (fun r1 m1 h1 q1 ok1 => ?_)
  obtain ⟨e1, x1, f1⟩ := q1
  subst e1
  obtain ⟨v, rfl⟩ := an_int ok1
  show rn_R _ mL_law _ 1208 [some (.ref 99), some (.ref 0), some (.ref 22), some (.int (nI i))] [.int v] m1 h1 _
  refine rn_aload_n 1209 dL_law_1208 rfl rfl rfl ?_
  refine rn_callV mX9_undo [] [.int v] dL_law_1209 cv_L_136 rfl rfl rfl (by simp [Value.category]) (hm m1 h1 (mS_fr h2_ (fun c c1 c2 => f1 c c1))) (fun r2 m2 h2 q2 ok2 => ?_)
  obtain ⟨e2, y2, f2⟩ := q2
  subst e2
  show rn_R _ mL_law _ 1212 [some (.ref 99), some (.ref 0), some (.ref 22), some (.int (nI i))] [.int v, .int v] m2 h2 _
  refine rn_icmp_eq 1254 1215 dL_law_1212 (by decide) rfl (fun _ => ?_) (fun c1212 => absurd (rfl) c1212)
  exact kk s2 m2 h2 (xS_fr x1 (fun c hc => f2 c (by omega))) y2

set_option maxRecDepth 100000 in
set_option maxHeartbeats 2000000 in
theorem law_c29 {len : Nat} {xs : Nat → Int32} (hlen : len ≤ 3072) {i : Nat} (hi : i + 6 ≤ len) {s : Sx} {mu : Nat → Nat → Int32} {h : Int64} {Q : rn_Q} (h1_ : xS s mu) (h2_ : mS s mu) (kk : ∀ (s2 : Sx) (mu2 : Nat → Nat → Int32) (h2 : Int64), xS s2 mu2 → mS s2 mu2 → rn_R (some (len, xs)) mL_law 101 1254 [some (.ref 99), some (.ref 0), some (.ref 22), some (.int (nI i))] [] mu2 h2 Q) : rn_R (some (len, xs)) mL_law 101 1217 [some (.ref 99), some (.ref 0), some (.ref 22), some (.int (nI i))] [] mu h Q := by
  obtain ⟨ans, s2, hx, hm⟩ := op_count (xs (i + 1)) s
  refine rn_aload_n 1218 dL_law_1217 rfl rfl rfl ?_
  refine rn_aload_n 1219 dL_law_1218 rfl rfl rfl ?_
  refine rn_iload_n 1220 dL_law_1219 rfl rfl rfl ?_
  refine rn_iconst (v := 1) 1221 dL_law_1220 (by decide) rfl ?_
  refine rn_iadd 1222 dL_law_1221 rfl ?_
  rw [show nI i + 1 = nI (i + 1) from nI_add i 1]
  refine rn_sld 1223 (xs (i + 1)) dL_law_1222 (vp_in_nI (by omega) (by omega)) (by rw [nI_clamp (by omega)]) rfl ?_
  refine rn_callV mX8_count [.int (xs (i + 1))] [] dL_law_1223 cv_L_137 rfl rfl rfl (by simp [Value.category]) (hx mu h h1_) (fun r1 m1 h1 q1 ok1 => ?_)
  obtain ⟨e1, x1, f1⟩ := q1
  subst e1
  obtain ⟨v, rfl⟩ := an_int ok1
  show rn_R _ mL_law _ 1226 [some (.ref 99), some (.ref 0), some (.ref 22), some (.int (nI i))] [.int v] m1 h1 _
  refine rn_aload_n 1227 dL_law_1226 rfl rfl rfl ?_
  refine rn_aload_n 1228 dL_law_1227 rfl rfl rfl ?_
  refine rn_iload_n 1229 dL_law_1228 rfl rfl rfl ?_
  refine rn_iconst (v := 1) 1230 dL_law_1229 (by decide) rfl ?_
  refine rn_iadd 1231 dL_law_1230 rfl ?_
  rw [show nI i + 1 = nI (i + 1) from nI_add i 1]
  refine rn_sld 1232 (xs (i + 1)) dL_law_1231 (vp_in_nI (by omega) (by omega)) (by rw [nI_clamp (by omega)]) rfl ?_
  refine rn_callV mX9_count [.int (xs (i + 1))] [.int v] dL_law_1232 cv_L_140 rfl rfl rfl (by simp [Value.category]) (hm m1 h1 (mS_fr h2_ (fun c c1 c2 => f1 c c1))) (fun r2 m2 h2 q2 ok2 => ?_)
  obtain ⟨e2, y2, f2⟩ := q2
  subst e2
  show rn_R _ mL_law _ 1235 [some (.ref 99), some (.ref 0), some (.ref 22), some (.int (nI i))] [.int v, .int v] m2 h2 _
  refine rn_icmp_eq 1254 1238 dL_law_1235 (by decide) rfl (fun _ => ?_) (fun c1235 => absurd (rfl) c1235)
  exact kk s2 m2 h2 (xS_fr x1 (fun c hc => f2 c (by omega))) y2

set_option maxRecDepth 100000 in
set_option maxHeartbeats 2000000 in
theorem law_c30 {len : Nat} {xs : Nat → Int32} (hlen : len ≤ 3072) {i : Nat} (hi : i + 6 ≤ len) {s : Sx} {mu : Nat → Nat → Int32} {h : Int64} {Q : rn_Q} (h1_ : xS s mu) (h2_ : mS s mu) (kk : ∀ (s2 : Sx) (mu2 : Nat → Nat → Int32) (h2 : Int64), xS s2 mu2 → mS s2 mu2 → rn_R (some (len, xs)) mL_law 101 1254 [some (.ref 99), some (.ref 0), some (.ref 22), some (.int (nI i))] [] mu2 h2 Q) : rn_R (some (len, xs)) mL_law 101 1240 [some (.ref 99), some (.ref 0), some (.ref 22), some (.int (nI i))] [] mu h Q := by
  obtain ⟨ans, s2, hx, hm⟩ := op_digest  s
  refine rn_aload_n 1241 dL_law_1240 rfl rfl rfl ?_
  refine rn_callV mX8_digest [] [] dL_law_1241 cv_L_141 rfl rfl rfl (by simp [Value.category]) (hx mu h h1_) (fun r1 m1 h1 q1 ok1 => ?_)
  obtain ⟨e1, x1, f1⟩ := q1
  subst e1
  obtain ⟨v, rfl⟩ := an_long ok1
  show rn_R _ mL_law _ 1244 [some (.ref 99), some (.ref 0), some (.ref 22), some (.int (nI i))] [.long v] m1 h1 _
  refine rn_aload_n 1245 dL_law_1244 rfl rfl rfl ?_
  refine rn_callV mX9_digest [] [.long v] dL_law_1245 cv_L_145 rfl rfl rfl (by simp [Value.category]) (hm m1 h1 (mS_fr h2_ (fun c c1 c2 => f1 c c1))) (fun r2 m2 h2 q2 ok2 => ?_)
  obtain ⟨e2, y2, f2⟩ := q2
  subst e2
  show rn_R _ mL_law _ 1248 [some (.ref 99), some (.ref 0), some (.ref 22), some (.int (nI i))] [.long v, .long v] m2 h2 _
  refine rn_lcmp 1249 dL_law_1248 rfl ?_
  refine rn_if_eq 1254 1252 dL_law_1249 (by decide) rfl (fun _ => ?_) (fun c1249 => absurd (lg_same v) c1249)
  exact kk s2 m2 h2 (xS_fr x1 (fun c hc => f2 c (by omega))) y2

set_option maxRecDepth 100000 in
set_option maxHeartbeats 4000000 in
theorem law_lp {len : Nat} {xs : Nat → Int32} (hlen : len ≤ 3072) : ∀ (n i : Nat) (s : Sx) (mu : Nat → Nat → Int32) (h : Int64), i ≤ len → len < i + n → xS s mu → mS s mu → rn_R (some (len, xs)) mL_law 101 18 [some (.ref 99), some (.ref 0), some (.ref 22), some (.int (nI i))] [] mu h (fun r _ _ => r = some (.int 1)) := by
  intro n
  induction n with
  | zero => intro i s mu h h1 h2; omega
  | succ n ih =>
    intro i s mu h hi hn h1_ h2_
    by_cases qi : len < i + 6
    · skip
      refine rn_iload_n 19 dL_law_18 rfl rfl rfl ?_
      refine rn_aload_n 20 dL_law_19 rfl rfl rfl ?_
      refine rn_slen 21 (nI len) dL_law_20 rfl rfl ?_
      refine rn_bipush (v := 6) 23 dL_law_21 (by decide) rfl ?_
      refine rn_isub 24 dL_law_23 rfl ?_
      refine rn_icmp_gt 1260 27 dL_law_24 (by decide) rfl (fun _ => ?_) (fun c24 => absurd ((lw_gt (by omega) hlen).mpr (by omega)) c24)
      refine rn_iconst (v := 1) 1261 dL_law_1260 (by decide) rfl ?_
      exact rn_zret rfl dL_law_1261 rfl (rfl)
    · skip
      have hi6 : i + 6 ≤ len := by omega
      have kk : ∀ (s2 : Sx) (mu2 : Nat → Nat → Int32) (h2 : Int64), xS s2 mu2 → mS s2 mu2 → rn_R (some (len, xs)) mL_law 101 1254 [some (.ref 99), some (.ref 0), some (.ref 22), some (.int (nI i))] [] mu2 h2 (fun r _ _ => r = some (.int 1)) := by
        intro s2 mu2 h2 a1 a2
        refine rn_iinc (v := ((nI i) + 6)) 1257 [some (.ref 99), some (.ref 0), some (.ref 22), some (.int ((nI i) + 6))] dL_law_1254 rfl rfl rfl rfl ?_
        refine rn_goto 18 dL_law_1257 (by decide) ?_
        rw [show nI i + 6 = nI (i + 6) from nI_add i 6]
        exact ih (i + 6) s2 mu2 h2 (by omega) (by omega) a1 a2
      refine rn_iload_n 19 dL_law_18 rfl rfl rfl ?_
      refine rn_aload_n 20 dL_law_19 rfl rfl rfl ?_
      refine rn_slen 21 (nI len) dL_law_20 rfl rfl ?_
      refine rn_bipush (v := 6) 23 dL_law_21 (by decide) rfl ?_
      refine rn_isub 24 dL_law_23 rfl ?_
      refine rn_icmp_gt 1260 27 dL_law_24 (by decide) rfl (fun c24 => absurd c24 (fun z => qi ((lw_gt (by omega) hlen).mp z))) (fun _ => ?_)
      refine rn_aload_n 28 dL_law_27 rfl rfl rfl ?_
      refine rn_iload_n 29 dL_law_28 rfl rfl rfl ?_
      refine rn_sld 30 (xs i) dL_law_29 (vp_in_nI (by omega) (by omega)) (by rw [nI_clamp (by omega)]) rfl ?_
      refine rn_bipush (v := 31) 32 dL_law_30 (by decide) rfl ?_
      refine rn_iand 33 dL_law_32 rfl ?_
      obtain ⟨j, hj, ej⟩ := pk_andE (xs i) (m := 31) 5 (by decide)
      rw [ej]
      rcases (show j = 0 ∨ j = 1 ∨ j = 2 ∨ j = 3 ∨ j = 4 ∨ j = 5 ∨ j = 6 ∨ j = 7 ∨ j = 8 ∨ j = 9 ∨ j = 10 ∨ j = 11 ∨ j = 12 ∨ j = 13 ∨ j = 14 ∨ j = 15 ∨ j = 16 ∨ j = 17 ∨ j = 18 ∨ j = 19 ∨ j = 20 ∨ j = 21 ∨ j = 22 ∨ j = 23 ∨ j = 24 ∨ j = 25 ∨ j = 26 ∨ j = 27 ∨ j = 28 ∨ j = 29 ∨ j = 30 ∨ j = 31 by omega) with rfl | rfl | rfl | rfl | rfl | rfl | rfl | rfl | rfl | rfl | rfl | rfl | rfl | rfl | rfl | rfl | rfl | rfl | rfl | rfl | rfl | rfl | rfl | rfl | rfl | rfl | rfl | rfl | rfl | rfl | rfl | rfl
      · exact rn_tableIn 172 dL_law_33 (by decide) (by decide) rfl (by decide) (law_c0 hlen hi6 h1_ h2_ kk)
      · exact rn_tableIn 235 dL_law_33 (by decide) (by decide) rfl (by decide) (law_c1 hlen hi6 h1_ h2_ kk)
      · exact rn_tableIn 258 dL_law_33 (by decide) (by decide) rfl (by decide) (law_c2 hlen hi6 h1_ h2_ kk)
      · exact rn_tableIn 301 dL_law_33 (by decide) (by decide) rfl (by decide) (law_c3 hlen hi6 h1_ h2_ kk)
      · exact rn_tableIn 334 dL_law_33 (by decide) (by decide) rfl (by decide) (law_c4 hlen hi6 h1_ h2_ kk)
      · exact rn_tableIn 347 dL_law_33 (by decide) (by decide) rfl (by decide) (law_c5 hlen hi6 h1_ h2_ kk)
      · exact rn_tableIn 370 dL_law_33 (by decide) (by decide) rfl (by decide) (law_c6 hlen hi6 h1_ h2_ kk)
      · exact rn_tableIn 383 dL_law_33 (by decide) (by decide) rfl (by decide) (law_c7 hlen hi6 h1_ h2_ kk)
      · exact rn_tableIn 396 dL_law_33 (by decide) (by decide) rfl (by decide) (law_c8 hlen hi6 h1_ h2_ kk)
      · exact rn_tableIn 409 dL_law_33 (by decide) (by decide) rfl (by decide) (law_c9 hlen hi6 h1_ h2_ kk)
      · exact rn_tableIn 458 dL_law_33 (by decide) (by decide) rfl (by decide) (law_c10 hlen hi6 h1_ h2_ kk)
      · exact rn_tableIn 481 dL_law_33 (by decide) (by decide) rfl (by decide) (law_c11 hlen hi6 h1_ h2_ kk)
      · exact rn_tableIn 514 dL_law_33 (by decide) (by decide) rfl (by decide) (law_c12 hlen hi6 h1_ h2_ kk)
      · exact rn_tableIn 557 dL_law_33 (by decide) (by decide) rfl (by decide) (law_c13 hlen hi6 h1_ h2_ kk)
      · exact rn_tableIn 600 dL_law_33 (by decide) (by decide) rfl (by decide) (law_c14 hlen hi6 h1_ h2_ kk)
      · exact rn_tableIn 643 dL_law_33 (by decide) (by decide) rfl (by decide) (law_c15 hlen hi6 h1_ h2_ kk)
      · exact rn_tableIn 676 dL_law_33 (by decide) (by decide) rfl (by decide) (law_c16 hlen hi6 h1_ h2_ kk)
      · exact rn_tableIn 719 dL_law_33 (by decide) (by decide) rfl (by decide) (law_c17 hlen hi6 h1_ h2_ kk)
      · exact rn_tableIn 762 dL_law_33 (by decide) (by decide) rfl (by decide) (law_c18 hlen hi6 h1_ h2_ kk)
      · exact rn_tableIn 805 dL_law_33 (by decide) (by decide) rfl (by decide) (law_c19 hlen hi6 h1_ h2_ kk)
      · exact rn_tableIn 838 dL_law_33 (by decide) (by decide) rfl (by decide) (law_c20 hlen hi6 h1_ h2_ kk)
      · exact rn_tableIn 891 dL_law_33 (by decide) (by decide) rfl (by decide) (law_c21 hlen hi6 h1_ h2_ kk)
      · exact rn_tableIn 944 dL_law_33 (by decide) (by decide) rfl (by decide) (law_c22 hlen hi6 h1_ h2_ kk)
      · exact rn_tableIn 997 dL_law_33 (by decide) (by decide) rfl (by decide) (law_c23 hlen hi6 h1_ h2_ kk)
      · exact rn_tableIn 1010 dL_law_33 (by decide) (by decide) rfl (by decide) (law_c24 hlen hi6 h1_ h2_ kk)
      · exact rn_tableIn 1053 dL_law_33 (by decide) (by decide) rfl (by decide) (law_c25 hlen hi6 h1_ h2_ kk)
      · exact rn_tableIn 1096 dL_law_33 (by decide) (by decide) rfl (by decide) (law_c26 hlen hi6 h1_ h2_ kk)
      · exact rn_tableIn 1150 dL_law_33 (by decide) (by decide) rfl (by decide) (law_c27 hlen hi6 h1_ h2_ kk)
      · exact rn_tableIn 1204 dL_law_33 (by decide) (by decide) rfl (by decide) (law_c28 hlen hi6 h1_ h2_ kk)
      · exact rn_tableIn 1217 dL_law_33 (by decide) (by decide) rfl (by decide) (law_c29 hlen hi6 h1_ h2_ kk)
      · exact rn_tableIn 1240 dL_law_33 (by decide) (by decide) rfl (by decide) (law_c30 hlen hi6 h1_ h2_ kk)
      · exact rn_tableOut 1254 dL_law_33 (Or.inr (by decide)) (by decide) (kk s mu h h1_ h2_)
