/-! ===== PART 86.0: the law's cases (laid by program) ===== -/
set_option maxRecDepth 100000 in
set_option maxHeartbeats 16000000 in
theorem lawc_house {l : Launch} {D : va_G} {cI cJ cZ cB : ClassId} {a b : Nat → Nat} {A : Nat → Prop} {E : State → Prop} {adK adV : Nat → Nat} {fv : Option Nat} {p : Program} {e : Env} {R : Room} {s : State} {m : MethodId} {args : Array Value} {below : List Frame} {meth : Method} {c : Code} {cells slots : Nat} {Q : State → Prop} {q0 L : Nat} {xs : Nat → Int32} (G : lG a b A E adK adV fv) (C : fC p m c cL_law 4 s args wsL_law RL D (fTys cI cJ cZ cB) E A) (hX : va_X q0 L xs s s.heap) (hbl : q0 < s.heap.size) (hbA : ¬ A q0) (hL : (L : Int) ≤ 2147483648) (hR : 13 ≤ R.frames ∧ 504 ≤ R.locals) (hcs : cells ≤ R.cells ∧ slots ≤ R.slots) {i : Int} (hi : 0 ≤ i ∧ i + 9 ≤ L) {x m0 : fS} (hRel : Rel x m0) (kk : ∀ x1 m1 : fS, Rel x1 m1 → fV (σ := fS × fS) D (wL cI cJ cZ cB a b) okL A 4 p l e R s m args below meth c cells slots Q (x1, m1) 1121 [(0, .ref q0), (1, .ref (a 0)), (2, .ref (b 0)), (3, .int (zI i))] []) : fV (σ := fS × fS) D (wL cI cJ cZ cB a b) okL A 4 p l e R s m args below meth c cells slots Q (x, m0) 116 [(0, .ref q0), (1, .ref (a 0)), (2, .ref (b 0)), (3, .int (zI i))] [] := by
  refine f_ok (fun hO => ?_)
  refine f_aload_n C 1 dL_law_116 rfl rfl ?_
  refine f_aload_n C 0 dL_law_117 rfl rfl ?_
  refine f_iload_n C 3 dL_law_118 rfl rfl ?_
  refine f_iconst C dL_law_119 ?_
  refine f_iadd C dL_law_120 ?_
  refine f_sld C hX hbl hbA ⟨by omega, by omega⟩ hL dL_law_121 ?_
  refine lx_ci G C (c_X8_house ⟨G.1, xE_st _ _ _ _⟩ (sc xs (i + 1)) (sc_in xs _) x ) (cwV 1 C.1.2.2.2.2 gL_law_X8_house rfl rfl rfl (by decide +kernel) ⟨by show 3 + 1 ≤ R.frames; omega, by show 8 + (2 + 11) + 69 ≤ R.locals; omega⟩) rfl rfl (Nat.le_of_ble_eq_true rfl) hcs dL_law_122 (fun z1 u1 hz1 hu1 => ?_)
  obtain ⟨ez1, eu1⟩ := hu1
  refine f_aload_n C 2 dL_law_125 rfl rfl ?_
  refine f_aload_n C 0 dL_law_126 rfl rfl ?_
  refine f_iload_n C 3 dL_law_127 rfl rfl ?_
  refine f_iconst C dL_law_128 ?_
  refine f_iadd C dL_law_129 ?_
  refine f_sld C hX hbl hbA ⟨by omega, by omega⟩ hL dL_law_130 ?_
  refine lm_ci G C (c_X9_house ⟨G.2.1, fSt_T _⟩ (sc xs (i + 1)) (sc_in xs _) m0 ) (cwV 1 C.1.2.2.2.2 gL_law_X9_house rfl rfl rfl (by decide +kernel) ⟨by show 0 + 1 ≤ R.frames; omega, by show 8 + (2 + 11) + 0 ≤ R.locals; omega⟩) rfl rfl (Nat.le_of_ble_eq_true rfl) hcs dL_law_131 (fun z2 u2 hz2 hu2 => ?_)
  obtain ⟨ez2, eu2⟩ := hu2
  have q := q_house hRel hO.1 hO.2 (sc xs (i + 1))
  refine f_icmp_eq C 1121 hz1 hz2 dL_law_134 (by decide) (fun _ => ?_) (fun hne => absurd (by rw [ez1, ez2]; exact q.1) hne)
  rw [eu1, eu2]
  exact kk _ _ q.2
set_option maxRecDepth 100000 in
set_option maxHeartbeats 16000000 in
theorem lawc_fact {l : Launch} {D : va_G} {cI cJ cZ cB : ClassId} {a b : Nat → Nat} {A : Nat → Prop} {E : State → Prop} {adK adV : Nat → Nat} {fv : Option Nat} {p : Program} {e : Env} {R : Room} {s : State} {m : MethodId} {args : Array Value} {below : List Frame} {meth : Method} {c : Code} {cells slots : Nat} {Q : State → Prop} {q0 L : Nat} {xs : Nat → Int32} (G : lG a b A E adK adV fv) (C : fC p m c cL_law 4 s args wsL_law RL D (fTys cI cJ cZ cB) E A) (hX : va_X q0 L xs s s.heap) (hbl : q0 < s.heap.size) (hbA : ¬ A q0) (hL : (L : Int) ≤ 2147483648) (hR : 13 ≤ R.frames ∧ 504 ≤ R.locals) (hcs : cells ≤ R.cells ∧ slots ≤ R.slots) {i : Int} (hi : 0 ≤ i ∧ i + 9 ≤ L) {x m0 : fS} (hRel : Rel x m0) (kk : ∀ x1 m1 : fS, Rel x1 m1 → fV (σ := fS × fS) D (wL cI cJ cZ cB a b) okL A 4 p l e R s m args below meth c cells slots Q (x1, m1) 1121 [(0, .ref q0), (1, .ref (a 0)), (2, .ref (b 0)), (3, .int (zI i))] []) : fV (σ := fS × fS) D (wL cI cJ cZ cB a b) okL A 4 p l e R s m args below meth c cells slots Q (x, m0) 139 [(0, .ref q0), (1, .ref (a 0)), (2, .ref (b 0)), (3, .int (zI i))] [] := by
  refine f_ok (fun hO => ?_)
  refine f_aload_n C 1 dL_law_139 rfl rfl ?_
  refine f_aload_n C 0 dL_law_140 rfl rfl ?_
  refine f_iload_n C 3 dL_law_141 rfl rfl ?_
  refine f_iconst C dL_law_142 ?_
  refine f_iadd C dL_law_143 ?_
  refine f_sld C hX hbl hbA ⟨by omega, by omega⟩ hL dL_law_144 ?_
  refine f_aload_n C 0 dL_law_145 rfl rfl ?_
  refine f_iload_n C 3 dL_law_146 rfl rfl ?_
  refine f_iconst C dL_law_147 ?_
  refine f_iadd C dL_law_148 ?_
  refine f_sld C hX hbl hbA ⟨by omega, by omega⟩ hL dL_law_149 ?_
  refine f_aload_n C 0 dL_law_150 rfl rfl ?_
  refine f_iload_n C 3 dL_law_151 rfl rfl ?_
  refine f_iconst C dL_law_152 ?_
  refine f_iadd C dL_law_153 ?_
  refine f_sld C hX hbl hbA ⟨by omega, by omega⟩ hL dL_law_154 ?_
  refine f_i2l C (sc_in xs _) dL_law_155 ?_
  refine f_bipush C dL_law_156 (by decide) ?_
  refine f_lshl C dL_law_158 ?_
  refine f_aload_n C 0 dL_law_159 rfl rfl ?_
  refine f_iload_n C 3 dL_law_160 rfl rfl ?_
  refine f_iconst C dL_law_161 ?_
  refine f_iadd C dL_law_162 ?_
  refine f_sld C hX hbl hbA ⟨by omega, by omega⟩ hL dL_law_163 ?_
  refine f_i2l C (sc_in xs _) dL_law_164 ?_
  refine f_ldc2 C (v := 4294967295) (z := 4294967295) (by decide +kernel) (by decide) dL_law_165 ?_
  refine f_land C dL_law_168 ?_
  refine f_lor C dL_law_169 ?_
  refine f_aload_n C 0 dL_law_170 rfl rfl ?_
  refine f_iload_n C 3 dL_law_171 rfl rfl ?_
  refine f_iconst C dL_law_172 ?_
  refine f_iadd C dL_law_173 ?_
  refine f_sld C hX hbl hbA ⟨by omega, by omega⟩ hL dL_law_174 ?_
  refine f_i2l C (sc_in xs _) dL_law_175 ?_
  refine f_bipush C dL_law_176 (by decide) ?_
  refine f_lshl C dL_law_178 ?_
  refine f_aload_n C 0 dL_law_179 rfl rfl ?_
  refine f_iload_n C 3 dL_law_180 rfl rfl ?_
  refine f_bipush C dL_law_181 (by decide) ?_
  refine f_iadd C dL_law_183 ?_
  refine f_sld C hX hbl hbA ⟨by omega, by omega⟩ hL dL_law_184 ?_
  refine f_i2l C (sc_in xs _) dL_law_185 ?_
  refine f_ldc2 C (v := 4294967295) (z := 4294967295) (by decide +kernel) (by decide) dL_law_186 ?_
  refine f_land C dL_law_189 ?_
  refine f_lor C dL_law_190 ?_
  refine f_aload_n C 0 dL_law_191 rfl rfl ?_
  refine f_iload_n C 3 dL_law_192 rfl rfl ?_
  refine f_bipush C dL_law_193 (by decide) ?_
  refine f_iadd C dL_law_195 ?_
  refine f_sld C hX hbl hbA ⟨by omega, by omega⟩ hL dL_law_196 ?_
  refine f_i2l C (sc_in xs _) dL_law_197 ?_
  refine f_bipush C dL_law_198 (by decide) ?_
  refine f_lshl C dL_law_200 ?_
  refine f_aload_n C 0 dL_law_201 rfl rfl ?_
  refine f_iload_n C 3 dL_law_202 rfl rfl ?_
  refine f_bipush C dL_law_203 (by decide) ?_
  refine f_iadd C dL_law_205 ?_
  refine f_sld C hX hbl hbA ⟨by omega, by omega⟩ hL dL_law_206 ?_
  refine f_i2l C (sc_in xs _) dL_law_207 ?_
  refine f_ldc2 C (v := 4294967295) (z := 4294967295) (by decide +kernel) (by decide) dL_law_208 ?_
  refine f_land C dL_law_211 ?_
  refine f_lor C dL_law_212 ?_
  refine lx_ci G C (c_X8_fact ⟨G.1, xE_st _ _ _ _⟩ (sc xs (i + 1)) (sc xs (i + 2)) (lorJ (shlJ (sc xs (i + 3))) (landJ (sc xs (i + 4)) 4294967295)) (lorJ (shlJ (sc xs (i + 5))) (landJ (sc xs (i + 6)) 4294967295)) (lorJ (shlJ (sc xs (i + 7))) (landJ (sc xs (i + 8)) 4294967295)) (sc_in xs _) (sc_in xs _) (zJ_b _) (zJ_b _) (zJ_b _) x ) (cwV 5 C.1.2.2.2.2 gL_law_X8_fact rfl rfl rfl (by decide +kernel) ⟨by show 2 + 1 ≤ R.frames; omega, by show 8 + (9 + 11) + 52 ≤ R.locals; omega⟩) rfl rfl (Nat.le_of_ble_eq_true rfl) hcs dL_law_213 (fun z1 u1 hz1 hu1 => ?_)
  obtain ⟨ez1, eu1⟩ := hu1
  refine f_aload_n C 2 dL_law_216 rfl rfl ?_
  refine f_aload_n C 0 dL_law_217 rfl rfl ?_
  refine f_iload_n C 3 dL_law_218 rfl rfl ?_
  refine f_iconst C dL_law_219 ?_
  refine f_iadd C dL_law_220 ?_
  refine f_sld C hX hbl hbA ⟨by omega, by omega⟩ hL dL_law_221 ?_
  refine f_aload_n C 0 dL_law_222 rfl rfl ?_
  refine f_iload_n C 3 dL_law_223 rfl rfl ?_
  refine f_iconst C dL_law_224 ?_
  refine f_iadd C dL_law_225 ?_
  refine f_sld C hX hbl hbA ⟨by omega, by omega⟩ hL dL_law_226 ?_
  refine f_aload_n C 0 dL_law_227 rfl rfl ?_
  refine f_iload_n C 3 dL_law_228 rfl rfl ?_
  refine f_iconst C dL_law_229 ?_
  refine f_iadd C dL_law_230 ?_
  refine f_sld C hX hbl hbA ⟨by omega, by omega⟩ hL dL_law_231 ?_
  refine f_i2l C (sc_in xs _) dL_law_232 ?_
  refine f_bipush C dL_law_233 (by decide) ?_
  refine f_lshl C dL_law_235 ?_
  refine f_aload_n C 0 dL_law_236 rfl rfl ?_
  refine f_iload_n C 3 dL_law_237 rfl rfl ?_
  refine f_iconst C dL_law_238 ?_
  refine f_iadd C dL_law_239 ?_
  refine f_sld C hX hbl hbA ⟨by omega, by omega⟩ hL dL_law_240 ?_
  refine f_i2l C (sc_in xs _) dL_law_241 ?_
  refine f_ldc2 C (v := 4294967295) (z := 4294967295) (by decide +kernel) (by decide) dL_law_242 ?_
  refine f_land C dL_law_245 ?_
  refine f_lor C dL_law_246 ?_
  refine f_aload_n C 0 dL_law_247 rfl rfl ?_
  refine f_iload_n C 3 dL_law_248 rfl rfl ?_
  refine f_iconst C dL_law_249 ?_
  refine f_iadd C dL_law_250 ?_
  refine f_sld C hX hbl hbA ⟨by omega, by omega⟩ hL dL_law_251 ?_
  refine f_i2l C (sc_in xs _) dL_law_252 ?_
  refine f_bipush C dL_law_253 (by decide) ?_
  refine f_lshl C dL_law_255 ?_
  refine f_aload_n C 0 dL_law_256 rfl rfl ?_
  refine f_iload_n C 3 dL_law_257 rfl rfl ?_
  refine f_bipush C dL_law_258 (by decide) ?_
  refine f_iadd C dL_law_260 ?_
  refine f_sld C hX hbl hbA ⟨by omega, by omega⟩ hL dL_law_261 ?_
  refine f_i2l C (sc_in xs _) dL_law_262 ?_
  refine f_ldc2 C (v := 4294967295) (z := 4294967295) (by decide +kernel) (by decide) dL_law_263 ?_
  refine f_land C dL_law_266 ?_
  refine f_lor C dL_law_267 ?_
  refine f_aload_n C 0 dL_law_268 rfl rfl ?_
  refine f_iload_n C 3 dL_law_269 rfl rfl ?_
  refine f_bipush C dL_law_270 (by decide) ?_
  refine f_iadd C dL_law_272 ?_
  refine f_sld C hX hbl hbA ⟨by omega, by omega⟩ hL dL_law_273 ?_
  refine f_i2l C (sc_in xs _) dL_law_274 ?_
  refine f_bipush C dL_law_275 (by decide) ?_
  refine f_lshl C dL_law_277 ?_
  refine f_aload_n C 0 dL_law_278 rfl rfl ?_
  refine f_iload_n C 3 dL_law_279 rfl rfl ?_
  refine f_bipush C dL_law_280 (by decide) ?_
  refine f_iadd C dL_law_282 ?_
  refine f_sld C hX hbl hbA ⟨by omega, by omega⟩ hL dL_law_283 ?_
  refine f_i2l C (sc_in xs _) dL_law_284 ?_
  refine f_ldc2 C (v := 4294967295) (z := 4294967295) (by decide +kernel) (by decide) dL_law_285 ?_
  refine f_land C dL_law_288 ?_
  refine f_lor C dL_law_289 ?_
  refine lm_ci G C (c_X9_fact ⟨G.2.1, fSt_T _⟩ (sc xs (i + 1)) (sc xs (i + 2)) (lorJ (shlJ (sc xs (i + 3))) (landJ (sc xs (i + 4)) 4294967295)) (lorJ (shlJ (sc xs (i + 5))) (landJ (sc xs (i + 6)) 4294967295)) (lorJ (shlJ (sc xs (i + 7))) (landJ (sc xs (i + 8)) 4294967295)) (sc_in xs _) (sc_in xs _) (zJ_b _) (zJ_b _) (zJ_b _) m0 ) (cwV 5 C.1.2.2.2.2 gL_law_X9_fact rfl rfl rfl (by decide +kernel) ⟨by show 1 + 1 ≤ R.frames; omega, by show 8 + (9 + 11) + 21 ≤ R.locals; omega⟩) rfl rfl (Nat.le_of_ble_eq_true rfl) hcs dL_law_290 (fun z2 u2 hz2 hu2 => ?_)
  obtain ⟨ez2, eu2⟩ := hu2
  have q := q_fact hRel hO.1 hO.2 (sc xs (i + 1)) (sc xs (i + 2)) (lorJ (shlJ (sc xs (i + 3))) (landJ (sc xs (i + 4)) 4294967295)) (lorJ (shlJ (sc xs (i + 5))) (landJ (sc xs (i + 6)) 4294967295)) (lorJ (shlJ (sc xs (i + 7))) (landJ (sc xs (i + 8)) 4294967295))
  refine f_icmp_eq C 1121 hz1 hz2 dL_law_293 (by decide) (fun _ => ?_) (fun hne => absurd (by rw [ez1, ez2]; exact q.1) hne)
  rw [eu1, eu2]
  exact kk _ _ q.2
set_option maxRecDepth 100000 in
set_option maxHeartbeats 16000000 in
theorem lawc_unit {l : Launch} {D : va_G} {cI cJ cZ cB : ClassId} {a b : Nat → Nat} {A : Nat → Prop} {E : State → Prop} {adK adV : Nat → Nat} {fv : Option Nat} {p : Program} {e : Env} {R : Room} {s : State} {m : MethodId} {args : Array Value} {below : List Frame} {meth : Method} {c : Code} {cells slots : Nat} {Q : State → Prop} {q0 L : Nat} {xs : Nat → Int32} (G : lG a b A E adK adV fv) (C : fC p m c cL_law 4 s args wsL_law RL D (fTys cI cJ cZ cB) E A) (hX : va_X q0 L xs s s.heap) (hbl : q0 < s.heap.size) (hbA : ¬ A q0) (hL : (L : Int) ≤ 2147483648) (hR : 13 ≤ R.frames ∧ 504 ≤ R.locals) (hcs : cells ≤ R.cells ∧ slots ≤ R.slots) {i : Int} (hi : 0 ≤ i ∧ i + 9 ≤ L) {x m0 : fS} (hRel : Rel x m0) (kk : ∀ x1 m1 : fS, Rel x1 m1 → fV (σ := fS × fS) D (wL cI cJ cZ cB a b) okL A 4 p l e R s m args below meth c cells slots Q (x1, m1) 1121 [(0, .ref q0), (1, .ref (a 0)), (2, .ref (b 0)), (3, .int (zI i))] []) : fV (σ := fS × fS) D (wL cI cJ cZ cB a b) okL A 4 p l e R s m args below meth c cells slots Q (x, m0) 298 [(0, .ref q0), (1, .ref (a 0)), (2, .ref (b 0)), (3, .int (zI i))] [] := by
  refine f_ok (fun hO => ?_)
  refine f_aload_n C 1 dL_law_298 rfl rfl ?_
  refine f_aload_n C 0 dL_law_299 rfl rfl ?_
  refine f_iload_n C 3 dL_law_300 rfl rfl ?_
  refine f_iconst C dL_law_301 ?_
  refine f_iadd C dL_law_302 ?_
  refine f_sld C hX hbl hbA ⟨by omega, by omega⟩ hL dL_law_303 ?_
  refine lx_ci G C (c_X8_unit ⟨G.1, xE_st _ _ _ _⟩ (sc xs (i + 1)) (sc_in xs _) x ) (cwV 1 C.1.2.2.2.2 gL_law_X8_unit rfl rfl rfl (by decide +kernel) ⟨by show 2 + 1 ≤ R.frames; omega, by show 8 + (2 + 11) + 44 ≤ R.locals; omega⟩) rfl rfl (Nat.le_of_ble_eq_true rfl) hcs dL_law_304 (fun z1 u1 hz1 hu1 => ?_)
  obtain ⟨ez1, eu1, _⟩ := hu1
  refine f_aload_n C 2 dL_law_307 rfl rfl ?_
  refine f_aload_n C 0 dL_law_308 rfl rfl ?_
  refine f_iload_n C 3 dL_law_309 rfl rfl ?_
  refine f_iconst C dL_law_310 ?_
  refine f_iadd C dL_law_311 ?_
  refine f_sld C hX hbl hbA ⟨by omega, by omega⟩ hL dL_law_312 ?_
  refine lm_ci G C (c_X9_unit ⟨G.2.1, fSt_T _⟩ (sc xs (i + 1)) (sc_in xs _) m0 ) (cwV 1 C.1.2.2.2.2 gL_law_X9_unit rfl rfl rfl (by decide +kernel) ⟨by show 0 + 1 ≤ R.frames; omega, by show 8 + (2 + 11) + 0 ≤ R.locals; omega⟩) rfl rfl (Nat.le_of_ble_eq_true rfl) hcs dL_law_313 (fun z2 u2 hz2 hu2 => ?_)
  obtain ⟨ez2, eu2, _⟩ := hu2
  have q := q_unit hRel hO.1 hO.2 (sc xs (i + 1))
  refine f_icmp_eq C 1121 hz1 hz2 dL_law_316 (by decide) (fun _ => ?_) (fun hne => absurd (by rw [ez1, ez2]; exact q.1) hne)
  rw [eu1, eu2]
  exact kk _ _ q.2
set_option maxRecDepth 100000 in
set_option maxHeartbeats 16000000 in
theorem lawc_read {l : Launch} {D : va_G} {cI cJ cZ cB : ClassId} {a b : Nat → Nat} {A : Nat → Prop} {E : State → Prop} {adK adV : Nat → Nat} {fv : Option Nat} {p : Program} {e : Env} {R : Room} {s : State} {m : MethodId} {args : Array Value} {below : List Frame} {meth : Method} {c : Code} {cells slots : Nat} {Q : State → Prop} {q0 L : Nat} {xs : Nat → Int32} (G : lG a b A E adK adV fv) (C : fC p m c cL_law 4 s args wsL_law RL D (fTys cI cJ cZ cB) E A) (hX : va_X q0 L xs s s.heap) (hbl : q0 < s.heap.size) (hbA : ¬ A q0) (hL : (L : Int) ≤ 2147483648) (hR : 13 ≤ R.frames ∧ 504 ≤ R.locals) (hcs : cells ≤ R.cells ∧ slots ≤ R.slots) {i : Int} (hi : 0 ≤ i ∧ i + 9 ≤ L) {x m0 : fS} (hRel : Rel x m0) (kk : ∀ x1 m1 : fS, Rel x1 m1 → fV (σ := fS × fS) D (wL cI cJ cZ cB a b) okL A 4 p l e R s m args below meth c cells slots Q (x1, m1) 1121 [(0, .ref q0), (1, .ref (a 0)), (2, .ref (b 0)), (3, .int (zI i))] []) : fV (σ := fS × fS) D (wL cI cJ cZ cB a b) okL A 4 p l e R s m args below meth c cells slots Q (x, m0) 321 [(0, .ref q0), (1, .ref (a 0)), (2, .ref (b 0)), (3, .int (zI i))] [] := by
  refine f_ok (fun hO => ?_)
  refine f_aload_n C 1 dL_law_321 rfl rfl ?_
  refine f_aload_n C 0 dL_law_322 rfl rfl ?_
  refine f_iload_n C 3 dL_law_323 rfl rfl ?_
  refine f_iconst C dL_law_324 ?_
  refine f_iadd C dL_law_325 ?_
  refine f_sld C hX hbl hbA ⟨by omega, by omega⟩ hL dL_law_326 ?_
  refine f_i2l C (sc_in xs _) dL_law_327 ?_
  refine f_bipush C dL_law_328 (by decide) ?_
  refine f_lshl C dL_law_330 ?_
  refine f_aload_n C 0 dL_law_331 rfl rfl ?_
  refine f_iload_n C 3 dL_law_332 rfl rfl ?_
  refine f_iconst C dL_law_333 ?_
  refine f_iadd C dL_law_334 ?_
  refine f_sld C hX hbl hbA ⟨by omega, by omega⟩ hL dL_law_335 ?_
  refine f_i2l C (sc_in xs _) dL_law_336 ?_
  refine f_ldc2 C (v := 4294967295) (z := 4294967295) (by decide +kernel) (by decide) dL_law_337 ?_
  refine f_land C dL_law_340 ?_
  refine f_lor C dL_law_341 ?_
  refine f_aload_n C 0 dL_law_342 rfl rfl ?_
  refine f_iload_n C 3 dL_law_343 rfl rfl ?_
  refine f_iconst C dL_law_344 ?_
  refine f_iadd C dL_law_345 ?_
  refine f_sld C hX hbl hbA ⟨by omega, by omega⟩ hL dL_law_346 ?_
  refine f_i2l C (sc_in xs _) dL_law_347 ?_
  refine f_bipush C dL_law_348 (by decide) ?_
  refine f_lshl C dL_law_350 ?_
  refine f_aload_n C 0 dL_law_351 rfl rfl ?_
  refine f_iload_n C 3 dL_law_352 rfl rfl ?_
  refine f_iconst C dL_law_353 ?_
  refine f_iadd C dL_law_354 ?_
  refine f_sld C hX hbl hbA ⟨by omega, by omega⟩ hL dL_law_355 ?_
  refine f_i2l C (sc_in xs _) dL_law_356 ?_
  refine f_ldc2 C (v := 4294967295) (z := 4294967295) (by decide +kernel) (by decide) dL_law_357 ?_
  refine f_land C dL_law_360 ?_
  refine f_lor C dL_law_361 ?_
  refine lx_ci G C (c_X8_read ⟨G.1, xE_st _ _ _ _⟩ (fun _ h => h) (lorJ (shlJ (sc xs (i + 1))) (landJ (sc xs (i + 2)) 4294967295)) (lorJ (shlJ (sc xs (i + 3))) (landJ (sc xs (i + 4)) 4294967295)) (zJ_b _) (zJ_b _) x hRel.2.2.2.2.2.2.2.2.2.2.2.1) (cwV 2 C.1.2.2.2.2 gL_law_X8_read rfl rfl rfl (by decide +kernel) ⟨by show 9 + 1 ≤ R.frames; omega, by show 8 + (6 + 11) + 200 ≤ R.locals; omega⟩) rfl rfl (Nat.le_of_ble_eq_true rfl) hcs dL_law_362 (fun z1 u1 hz1 hu1 => ?_)
  obtain ⟨ez1, eu1⟩ := hu1
  refine f_aload_n C 2 dL_law_365 rfl rfl ?_
  refine f_aload_n C 0 dL_law_366 rfl rfl ?_
  refine f_iload_n C 3 dL_law_367 rfl rfl ?_
  refine f_iconst C dL_law_368 ?_
  refine f_iadd C dL_law_369 ?_
  refine f_sld C hX hbl hbA ⟨by omega, by omega⟩ hL dL_law_370 ?_
  refine f_i2l C (sc_in xs _) dL_law_371 ?_
  refine f_bipush C dL_law_372 (by decide) ?_
  refine f_lshl C dL_law_374 ?_
  refine f_aload_n C 0 dL_law_375 rfl rfl ?_
  refine f_iload_n C 3 dL_law_376 rfl rfl ?_
  refine f_iconst C dL_law_377 ?_
  refine f_iadd C dL_law_378 ?_
  refine f_sld C hX hbl hbA ⟨by omega, by omega⟩ hL dL_law_379 ?_
  refine f_i2l C (sc_in xs _) dL_law_380 ?_
  refine f_ldc2 C (v := 4294967295) (z := 4294967295) (by decide +kernel) (by decide) dL_law_381 ?_
  refine f_land C dL_law_384 ?_
  refine f_lor C dL_law_385 ?_
  refine f_aload_n C 0 dL_law_386 rfl rfl ?_
  refine f_iload_n C 3 dL_law_387 rfl rfl ?_
  refine f_iconst C dL_law_388 ?_
  refine f_iadd C dL_law_389 ?_
  refine f_sld C hX hbl hbA ⟨by omega, by omega⟩ hL dL_law_390 ?_
  refine f_i2l C (sc_in xs _) dL_law_391 ?_
  refine f_bipush C dL_law_392 (by decide) ?_
  refine f_lshl C dL_law_394 ?_
  refine f_aload_n C 0 dL_law_395 rfl rfl ?_
  refine f_iload_n C 3 dL_law_396 rfl rfl ?_
  refine f_iconst C dL_law_397 ?_
  refine f_iadd C dL_law_398 ?_
  refine f_sld C hX hbl hbA ⟨by omega, by omega⟩ hL dL_law_399 ?_
  refine f_i2l C (sc_in xs _) dL_law_400 ?_
  refine f_ldc2 C (v := 4294967295) (z := 4294967295) (by decide +kernel) (by decide) dL_law_401 ?_
  refine f_land C dL_law_404 ?_
  refine f_lor C dL_law_405 ?_
  refine lm_ci G C (c_X9_read ⟨G.2.1, fSt_T _⟩ (lorJ (shlJ (sc xs (i + 1))) (landJ (sc xs (i + 2)) 4294967295)) (lorJ (shlJ (sc xs (i + 3))) (landJ (sc xs (i + 4)) 4294967295)) (zJ_b _) (zJ_b _) m0 ) (cwV 2 C.1.2.2.2.2 gL_law_X9_read rfl rfl rfl (by decide +kernel) ⟨by show 3 + 1 ≤ R.frames; omega, by show 8 + (6 + 11) + 78 ≤ R.locals; omega⟩) rfl rfl (Nat.le_of_ble_eq_true rfl) hcs dL_law_406 (fun z2 u2 hz2 hu2 => ?_)
  obtain ⟨ez2, eu2⟩ := hu2
  have q := q_read hRel hO.1 hO.2 (lorJ (shlJ (sc xs (i + 1))) (landJ (sc xs (i + 2)) 4294967295)) (lorJ (shlJ (sc xs (i + 3))) (landJ (sc xs (i + 4)) 4294967295))
  refine f_icmp_eq C 1121 hz1 hz2 dL_law_409 (by decide) (fun _ => ?_) (fun hne => absurd (by rw [ez1, ez2]; exact q.1) hne)
  rw [eu1, eu2]
  exact kk _ _ q.2
set_option maxRecDepth 100000 in
set_option maxHeartbeats 16000000 in
theorem lawc_edition {l : Launch} {D : va_G} {cI cJ cZ cB : ClassId} {a b : Nat → Nat} {A : Nat → Prop} {E : State → Prop} {adK adV : Nat → Nat} {fv : Option Nat} {p : Program} {e : Env} {R : Room} {s : State} {m : MethodId} {args : Array Value} {below : List Frame} {meth : Method} {c : Code} {cells slots : Nat} {Q : State → Prop} {q0 L : Nat} {xs : Nat → Int32} (G : lG a b A E adK adV fv) (C : fC p m c cL_law 4 s args wsL_law RL D (fTys cI cJ cZ cB) E A) (hX : va_X q0 L xs s s.heap) (hbl : q0 < s.heap.size) (hbA : ¬ A q0) (hL : (L : Int) ≤ 2147483648) (hR : 13 ≤ R.frames ∧ 504 ≤ R.locals) (hcs : cells ≤ R.cells ∧ slots ≤ R.slots) {i : Int} (hi : 0 ≤ i ∧ i + 9 ≤ L) {x m0 : fS} (hRel : Rel x m0) (kk : ∀ x1 m1 : fS, Rel x1 m1 → fV (σ := fS × fS) D (wL cI cJ cZ cB a b) okL A 4 p l e R s m args below meth c cells slots Q (x1, m1) 1121 [(0, .ref q0), (1, .ref (a 0)), (2, .ref (b 0)), (3, .int (zI i))] []) : fV (σ := fS × fS) D (wL cI cJ cZ cB a b) okL A 4 p l e R s m args below meth c cells slots Q (x, m0) 414 [(0, .ref q0), (1, .ref (a 0)), (2, .ref (b 0)), (3, .int (zI i))] [] := by
  refine f_ok (fun hO => ?_)
  refine f_aload_n C 1 dL_law_414 rfl rfl ?_
  refine f_aload_n C 0 dL_law_415 rfl rfl ?_
  refine f_iload_n C 3 dL_law_416 rfl rfl ?_
  refine f_iconst C dL_law_417 ?_
  refine f_iadd C dL_law_418 ?_
  refine f_sld C hX hbl hbA ⟨by omega, by omega⟩ hL dL_law_419 ?_
  refine f_aload_n C 0 dL_law_420 rfl rfl ?_
  refine f_iload_n C 3 dL_law_421 rfl rfl ?_
  refine f_iconst C dL_law_422 ?_
  refine f_iadd C dL_law_423 ?_
  refine f_sld C hX hbl hbA ⟨by omega, by omega⟩ hL dL_law_424 ?_
  refine lx_ci G C (c_X8_edition ⟨G.1, xE_st _ _ _ _⟩ (sc xs (i + 1)) (sc xs (i + 2)) (sc_in xs _) (sc_in xs _) x ) (cwV 2 C.1.2.2.2.2 gL_law_X8_edition rfl rfl rfl (by decide +kernel) ⟨by show 2 + 1 ≤ R.frames; omega, by show 8 + (3 + 11) + 42 ≤ R.locals; omega⟩) rfl rfl (Nat.le_of_ble_eq_true rfl) hcs dL_law_425 (fun z1 u1 hz1 hu1 => ?_)
  obtain ⟨ez1, eu1⟩ := hu1
  refine f_aload_n C 2 dL_law_428 rfl rfl ?_
  refine f_aload_n C 0 dL_law_429 rfl rfl ?_
  refine f_iload_n C 3 dL_law_430 rfl rfl ?_
  refine f_iconst C dL_law_431 ?_
  refine f_iadd C dL_law_432 ?_
  refine f_sld C hX hbl hbA ⟨by omega, by omega⟩ hL dL_law_433 ?_
  refine f_aload_n C 0 dL_law_434 rfl rfl ?_
  refine f_iload_n C 3 dL_law_435 rfl rfl ?_
  refine f_iconst C dL_law_436 ?_
  refine f_iadd C dL_law_437 ?_
  refine f_sld C hX hbl hbA ⟨by omega, by omega⟩ hL dL_law_438 ?_
  refine lm_ci G C (c_X9_edition ⟨G.2.1, fSt_T _⟩ (sc xs (i + 1)) (sc xs (i + 2)) (sc_in xs _) (sc_in xs _) m0 ) (cwV 2 C.1.2.2.2.2 gL_law_X9_edition rfl rfl rfl (by decide +kernel) ⟨by show 0 + 1 ≤ R.frames; omega, by show 8 + (5 + 11) + 0 ≤ R.locals; omega⟩) rfl rfl (Nat.le_of_ble_eq_true rfl) hcs dL_law_439 (fun z2 u2 hz2 hu2 => ?_)
  obtain ⟨ez2, eu2⟩ := hu2
  have q := q_edition hRel hO.2 (sc xs (i + 1)) (sc xs (i + 2))
  refine f_icmp_eq C 1121 hz1 hz2 dL_law_442 (by decide) (fun _ => ?_) (fun hne => absurd (by rw [ez1, ez2]; exact q) hne)
  rw [eu1, eu2]
  exact kk _ _ hRel
set_option maxRecDepth 100000 in
set_option maxHeartbeats 16000000 in
theorem lawc_cap {l : Launch} {D : va_G} {cI cJ cZ cB : ClassId} {a b : Nat → Nat} {A : Nat → Prop} {E : State → Prop} {adK adV : Nat → Nat} {fv : Option Nat} {p : Program} {e : Env} {R : Room} {s : State} {m : MethodId} {args : Array Value} {below : List Frame} {meth : Method} {c : Code} {cells slots : Nat} {Q : State → Prop} {q0 L : Nat} {xs : Nat → Int32} (G : lG a b A E adK adV fv) (C : fC p m c cL_law 4 s args wsL_law RL D (fTys cI cJ cZ cB) E A) (hX : va_X q0 L xs s s.heap) (hbl : q0 < s.heap.size) (hbA : ¬ A q0) (hL : (L : Int) ≤ 2147483648) (hR : 13 ≤ R.frames ∧ 504 ≤ R.locals) (hcs : cells ≤ R.cells ∧ slots ≤ R.slots) {i : Int} (hi : 0 ≤ i ∧ i + 9 ≤ L) {x m0 : fS} (hRel : Rel x m0) (kk : ∀ x1 m1 : fS, Rel x1 m1 → fV (σ := fS × fS) D (wL cI cJ cZ cB a b) okL A 4 p l e R s m args below meth c cells slots Q (x1, m1) 1121 [(0, .ref q0), (1, .ref (a 0)), (2, .ref (b 0)), (3, .int (zI i))] []) : fV (σ := fS × fS) D (wL cI cJ cZ cB a b) okL A 4 p l e R s m args below meth c cells slots Q (x, m0) 447 [(0, .ref q0), (1, .ref (a 0)), (2, .ref (b 0)), (3, .int (zI i))] [] := by
  refine f_ok (fun hO => ?_)
  refine f_aload_n C 1 dL_law_447 rfl rfl ?_
  refine f_aload_n C 0 dL_law_448 rfl rfl ?_
  refine f_iload_n C 3 dL_law_449 rfl rfl ?_
  refine f_iconst C dL_law_450 ?_
  refine f_iadd C dL_law_451 ?_
  refine f_sld C hX hbl hbA ⟨by omega, by omega⟩ hL dL_law_452 ?_
  refine f_aload_n C 0 dL_law_453 rfl rfl ?_
  refine f_iload_n C 3 dL_law_454 rfl rfl ?_
  refine f_iconst C dL_law_455 ?_
  refine f_iadd C dL_law_456 ?_
  refine f_sld C hX hbl hbA ⟨by omega, by omega⟩ hL dL_law_457 ?_
  refine f_i2l C (sc_in xs _) dL_law_458 ?_
  refine f_bipush C dL_law_459 (by decide) ?_
  refine f_lshl C dL_law_461 ?_
  refine f_aload_n C 0 dL_law_462 rfl rfl ?_
  refine f_iload_n C 3 dL_law_463 rfl rfl ?_
  refine f_iconst C dL_law_464 ?_
  refine f_iadd C dL_law_465 ?_
  refine f_sld C hX hbl hbA ⟨by omega, by omega⟩ hL dL_law_466 ?_
  refine f_i2l C (sc_in xs _) dL_law_467 ?_
  refine f_ldc2 C (v := 4294967295) (z := 4294967295) (by decide +kernel) (by decide) dL_law_468 ?_
  refine f_land C dL_law_471 ?_
  refine f_lor C dL_law_472 ?_
  refine lx_ci G C (c_X8_cap ⟨G.1, xE_st _ _ _ _⟩ (sc xs (i + 1)) (lorJ (shlJ (sc xs (i + 2))) (landJ (sc xs (i + 3)) 4294967295)) (sc_in xs _) (zJ_b _) x ) (cwV 2 C.1.2.2.2.2 gL_law_X8_cap rfl rfl rfl (by decide +kernel) ⟨by show 1 + 1 ≤ R.frames; omega, by show 8 + (4 + 11) + 23 ≤ R.locals; omega⟩) rfl rfl (Nat.le_of_ble_eq_true rfl) hcs dL_law_473 (fun z1 u1 hz1 hu1 => ?_)
  obtain ⟨ez1, eu1, _⟩ := hu1
  refine f_aload_n C 2 dL_law_476 rfl rfl ?_
  refine f_aload_n C 0 dL_law_477 rfl rfl ?_
  refine f_iload_n C 3 dL_law_478 rfl rfl ?_
  refine f_iconst C dL_law_479 ?_
  refine f_iadd C dL_law_480 ?_
  refine f_sld C hX hbl hbA ⟨by omega, by omega⟩ hL dL_law_481 ?_
  refine f_aload_n C 0 dL_law_482 rfl rfl ?_
  refine f_iload_n C 3 dL_law_483 rfl rfl ?_
  refine f_iconst C dL_law_484 ?_
  refine f_iadd C dL_law_485 ?_
  refine f_sld C hX hbl hbA ⟨by omega, by omega⟩ hL dL_law_486 ?_
  refine f_i2l C (sc_in xs _) dL_law_487 ?_
  refine f_bipush C dL_law_488 (by decide) ?_
  refine f_lshl C dL_law_490 ?_
  refine f_aload_n C 0 dL_law_491 rfl rfl ?_
  refine f_iload_n C 3 dL_law_492 rfl rfl ?_
  refine f_iconst C dL_law_493 ?_
  refine f_iadd C dL_law_494 ?_
  refine f_sld C hX hbl hbA ⟨by omega, by omega⟩ hL dL_law_495 ?_
  refine f_i2l C (sc_in xs _) dL_law_496 ?_
  refine f_ldc2 C (v := 4294967295) (z := 4294967295) (by decide +kernel) (by decide) dL_law_497 ?_
  refine f_land C dL_law_500 ?_
  refine f_lor C dL_law_501 ?_
  refine lm_ci G C (c_X9_cap ⟨G.2.1, fSt_T _⟩ (sc xs (i + 1)) (lorJ (shlJ (sc xs (i + 2))) (landJ (sc xs (i + 3)) 4294967295)) (sc_in xs _) (zJ_b _) m0 ) (cwV 2 C.1.2.2.2.2 gL_law_X9_cap rfl rfl rfl (by decide +kernel) ⟨by show 1 + 1 ≤ R.frames; omega, by show 8 + (4 + 11) + 20 ≤ R.locals; omega⟩) rfl rfl (Nat.le_of_ble_eq_true rfl) hcs dL_law_502 (fun z2 u2 hz2 hu2 => ?_)
  obtain ⟨ez2, eu2, _⟩ := hu2
  have q := q_cap hRel (sc xs (i + 1)) (lorJ (shlJ (sc xs (i + 2))) (landJ (sc xs (i + 3)) 4294967295))
  refine f_icmp_eq C 1121 hz1 hz2 dL_law_505 (by decide) (fun _ => ?_) (fun hne => absurd (by rw [ez1, ez2]; exact q.1) hne)
  rw [eu1, eu2]
  exact kk _ _ q.2
