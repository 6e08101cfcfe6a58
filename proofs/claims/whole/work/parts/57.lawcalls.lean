/-! THE LAW: a call, and the same call of the model -/
set_option maxHeartbeats 4000000 in
set_option maxRecDepth 100000 in
theorem lw_width {p : Program} {l : Launch} {e : Env} {s : State} {m : MethodId} {below : List Frame} {meth : Method} {c : Code} {b0 L : Nat} {xs : Nat → Int32} {D : va_G} {kc : Nat → ClassId} {n N : Nat} {ad : Nat → Nat} {S : St} {b : Bs} {t : Ts} (C : Cx p s m #[Value.ref b0] meth c cL_law RL 4 ret D kc) (hX : va_X b0 L xs s s.heap) (hbl : b0 < s.heap.size) (hL : L ≤ 4608) (hn : 9 * n + 9 ≤ L) (hN : N = 66 + 15 * bn b) (hI : Inv b) (hC : RC S b t) (hE : LE b t) (hM : RM S b) (K : LWK p l e s m below meth c b0 D kc (n + 1)) : VL p l e s m below meth c b0 D (66 + 15 * n) (2000 + 184 * n) (wl kc N ad S) 124 [(3, .int (iZ (9 * (n : Int)))), (2, .ref (ad 45)), (1, .ref (ad 0)), (0, .ref b0)] [] := by
  have hg : vg N := by show 45 ≤ N; omega
  have hA : ∀ q, s.heap.size ≤ q → (fun q => s.heap.size ≤ q) q := fun _ h => h
  refine v_aload_n 124 2 C dL_law_124 rfl ?_
  refine v_aload_n 125 3 C dL_law_125 rfl ?_
  refine v_iload_n 126 0 C dL_law_126 rfl ?_
  refine v_iconst 127 C (iZ 1) dL_law_127 rfl ?_
  refine z_iadd 128 C dL_law_128 ?_
  refine l_sld 129 C hX hbl (9 * n + 1) (izn (by omega)) (by omega) hL dL_law_129 ?_
  refine v_eqi (iZ (xs (9 * n + 1)).toInt) (iZ_of _).symm ?_
  obtain ⟨RR, b2, hU, hcl, hmo⟩ := pr_width (l := l) (D := D) (kc := kc) (ad := ad) hg hN hI hC hE (r32_of (xs (9 * n + 1)))
  refine v_calli 130 hA (rV_Pg 130 C L_RL_13 lk_235 lk_236 (hcl) (vg.o hg) rfl ⟨rfl, rfl⟩ (rm_law rfl (by omega) (by omega)) dL_law_130) (fun r1 w2 h3 => ?_)
  obtain ⟨R1, hR1, e_R1, N2, ad2, S2, t2, rfl, hN2, had2, hC2, hE2, hI2, hM2⟩ := h3
  refine v_eqi (iZ R1) e_R1 ?_
  have hMk := hM.keep hM2 hI
  refine v_eqlv [(3, .int (iZ (9 * (n : Int)))), (2, .ref (ad2 45)), (1, .ref (ad2 0)), (0, .ref b0)] (by rw [had2 45 (by decide), had2 0 (by decide)]) ?_
  have hm : vm N2 := by show 66 ≤ N2; omega
  refine v_aload_n 133 1 C dL_law_133 rfl ?_
  refine v_aload_n 134 3 C dL_law_134 rfl ?_
  refine v_iload_n 135 0 C dL_law_135 rfl ?_
  refine v_iconst 136 C (iZ 1) dL_law_136 rfl ?_
  refine z_iadd 137 C dL_law_137 ?_
  refine l_sld 138 C hX hbl (9 * n + 1) (izn (by omega)) (by omega) hL dL_law_138 ?_
  refine v_eqi (iZ (xs (9 * n + 1)).toInt) (iZ_of _).symm ?_
  refine v_calli 139 hA (rV_Mo 139 C L_RL_17 lk_580 lk_581 (hmo N2 ad2 S2 hm hMk) (vm.o hm) rfl ⟨rfl, rfl⟩ (rm_law rfl (by omega) (by omega)) dL_law_139) (fun r4 w5 h6 => ?_)
  obtain ⟨R2, hR2, e_R2, S3, rfl, hM3, hs3⟩ := h6
  refine v_eqi (iZ R2) e_R2 ?_
  have eR : R1 = R2 := hU R1 R2 hR1 hR2
  subst eR
  refine v_icmp_eq 142 847 C dL_law_142 (by decide) (fun c142_0 => ?_) (fun c142_0 => absurd (rfl) c142_0)
  refine v_iinc 847 0 (iZ (9 * ((n + 1 : Nat) : Int))) [(3, .int (iZ (9 * ((n + 1 : Nat) : Int)))), (2, .ref (ad2 45)), (1, .ref (ad2 0)), (0, .ref b0)] C dL_law_847 rfl ((iZ_add _ 9).trans (congrArg iZ (by omega))) (by decide) rfl ?_
  refine v_goto 850 18 C dL_law_850 (by decide) ?_
  refine v_sub [0, 1, 2, 3] rfl ?_
  refine v_wid (k := 66 + 15 * (n + 1)) (n := 2000 + 184 * (n + 1)) (by omega) (by omega) ?_
  exact K N2 ad2 S3 b2 t2 hN2 hI2 (hC2.keep hs3) hE2 hM3
set_option maxHeartbeats 4000000 in
set_option maxRecDepth 100000 in
theorem lw_tolerance {p : Program} {l : Launch} {e : Env} {s : State} {m : MethodId} {below : List Frame} {meth : Method} {c : Code} {b0 L : Nat} {xs : Nat → Int32} {D : va_G} {kc : Nat → ClassId} {n N : Nat} {ad : Nat → Nat} {S : St} {b : Bs} {t : Ts} (C : Cx p s m #[Value.ref b0] meth c cL_law RL 4 ret D kc) (hX : va_X b0 L xs s s.heap) (hbl : b0 < s.heap.size) (hL : L ≤ 4608) (hn : 9 * n + 9 ≤ L) (hN : N = 66 + 15 * bn b) (hI : Inv b) (hC : RC S b t) (hE : LE b t) (hM : RM S b) (K : LWK p l e s m below meth c b0 D kc (n + 1)) : VL p l e s m below meth c b0 D (66 + 15 * n) (2000 + 184 * n) (wl kc N ad S) 147 [(3, .int (iZ (9 * (n : Int)))), (2, .ref (ad 45)), (1, .ref (ad 0)), (0, .ref b0)] [] := by
  have hg : vg N := by show 45 ≤ N; omega
  have hA : ∀ q, s.heap.size ≤ q → (fun q => s.heap.size ≤ q) q := fun _ h => h
  refine v_aload_n 147 2 C dL_law_147 rfl ?_
  refine v_aload_n 148 3 C dL_law_148 rfl ?_
  refine v_iload_n 149 0 C dL_law_149 rfl ?_
  refine v_iconst 150 C (iZ 1) dL_law_150 rfl ?_
  refine z_iadd 151 C dL_law_151 ?_
  refine l_sld 152 C hX hbl (9 * n + 1) (izn (by omega)) (by omega) hL dL_law_152 ?_
  refine v_eqi (iZ (xs (9 * n + 1)).toInt) (iZ_of _).symm ?_
  obtain ⟨RR, b2, hU, hcl, hmo⟩ := pr_tolerance (l := l) (D := D) (kc := kc) (ad := ad) hg hN hI hC hE (r32_of (xs (9 * n + 1)))
  refine v_calli 153 hA (rV_Pg 153 C L_RL_18 lk_255 lk_256 (hcl) (vg.o hg) rfl ⟨rfl, rfl⟩ (rm_law rfl (by omega) (by omega)) dL_law_153) (fun r1 w2 h3 => ?_)
  obtain ⟨R1, hR1, e_R1, N2, ad2, S2, t2, rfl, hN2, had2, hC2, hE2, hI2, hM2⟩ := h3
  refine v_eqi (iZ R1) e_R1 ?_
  have hMk := hM.keep hM2 hI
  refine v_eqlv [(3, .int (iZ (9 * (n : Int)))), (2, .ref (ad2 45)), (1, .ref (ad2 0)), (0, .ref b0)] (by rw [had2 45 (by decide), had2 0 (by decide)]) ?_
  have hm : vm N2 := by show 66 ≤ N2; omega
  refine v_aload_n 156 1 C dL_law_156 rfl ?_
  refine v_aload_n 157 3 C dL_law_157 rfl ?_
  refine v_iload_n 158 0 C dL_law_158 rfl ?_
  refine v_iconst 159 C (iZ 1) dL_law_159 rfl ?_
  refine z_iadd 160 C dL_law_160 ?_
  refine l_sld 161 C hX hbl (9 * n + 1) (izn (by omega)) (by omega) hL dL_law_161 ?_
  refine v_eqi (iZ (xs (9 * n + 1)).toInt) (iZ_of _).symm ?_
  refine v_calli 162 hA (rV_Mo 162 C L_RL_21 lk_592 lk_593 (hmo N2 ad2 S2 hm hMk) (vm.o hm) rfl ⟨rfl, rfl⟩ (rm_law rfl (by omega) (by omega)) dL_law_162) (fun r4 w5 h6 => ?_)
  obtain ⟨R2, hR2, e_R2, S3, rfl, hM3, hs3⟩ := h6
  refine v_eqi (iZ R2) e_R2 ?_
  have eR : R1 = R2 := hU R1 R2 hR1 hR2
  subst eR
  refine v_icmp_eq 165 847 C dL_law_165 (by decide) (fun c165_0 => ?_) (fun c165_0 => absurd (rfl) c165_0)
  refine v_iinc 847 0 (iZ (9 * ((n + 1 : Nat) : Int))) [(3, .int (iZ (9 * ((n + 1 : Nat) : Int)))), (2, .ref (ad2 45)), (1, .ref (ad2 0)), (0, .ref b0)] C dL_law_847 rfl ((iZ_add _ 9).trans (congrArg iZ (by omega))) (by decide) rfl ?_
  refine v_goto 850 18 C dL_law_850 (by decide) ?_
  refine v_sub [0, 1, 2, 3] rfl ?_
  refine v_wid (k := 66 + 15 * (n + 1)) (n := 2000 + 184 * (n + 1)) (by omega) (by omega) ?_
  exact K N2 ad2 S3 b2 t2 hN2 hI2 (hC2.keep hs3) hE2 hM3
set_option maxHeartbeats 4000000 in
set_option maxRecDepth 100000 in
theorem lw_part {p : Program} {l : Launch} {e : Env} {s : State} {m : MethodId} {below : List Frame} {meth : Method} {c : Code} {b0 L : Nat} {xs : Nat → Int32} {D : va_G} {kc : Nat → ClassId} {n N : Nat} {ad : Nat → Nat} {S : St} {b : Bs} {t : Ts} (C : Cx p s m #[Value.ref b0] meth c cL_law RL 4 ret D kc) (hX : va_X b0 L xs s s.heap) (hbl : b0 < s.heap.size) (hL : L ≤ 4608) (hn : 9 * n + 9 ≤ L) (hN : N = 66 + 15 * bn b) (hI : Inv b) (hC : RC S b t) (hE : LE b t) (hM : RM S b) (K : LWK p l e s m below meth c b0 D kc (n + 1)) : VL p l e s m below meth c b0 D (66 + 15 * n) (2000 + 184 * n) (wl kc N ad S) 170 [(3, .int (iZ (9 * (n : Int)))), (2, .ref (ad 45)), (1, .ref (ad 0)), (0, .ref b0)] [] := by
  have hg : vg N := by show 45 ≤ N; omega
  have hA : ∀ q, s.heap.size ≤ q → (fun q => s.heap.size ≤ q) q := fun _ h => h
  refine v_aload_n 170 2 C dL_law_170 rfl ?_
  refine v_aload_n 171 3 C dL_law_171 rfl ?_
  refine v_iload_n 172 0 C dL_law_172 rfl ?_
  refine v_iconst 173 C (iZ 1) dL_law_173 rfl ?_
  refine z_iadd 174 C dL_law_174 ?_
  refine l_sld 175 C hX hbl (9 * n + 1) (izn (by omega)) (by omega) hL dL_law_175 ?_
  refine v_eqi (iZ (xs (9 * n + 1)).toInt) (iZ_of _).symm ?_
  refine v_aload_n 176 3 C dL_law_176 rfl ?_
  refine v_iload_n 177 0 C dL_law_177 rfl ?_
  refine v_iconst 178 C (iZ 2) dL_law_178 rfl ?_
  refine z_iadd 179 C dL_law_179 ?_
  refine l_sld 180 C hX hbl (9 * n + 2) (izn (by omega)) (by omega) hL dL_law_180 ?_
  refine v_eqi (iZ (xs (9 * n + 2)).toInt) (iZ_of _).symm ?_
  refine v_aload_n 181 3 C dL_law_181 rfl ?_
  refine v_iload_n 182 0 C dL_law_182 rfl ?_
  refine v_iconst 183 C (iZ 3) dL_law_183 rfl ?_
  refine z_iadd 184 C dL_law_184 ?_
  refine l_sld 185 C hX hbl (9 * n + 3) (izn (by omega)) (by omega) hL dL_law_185 ?_
  refine v_eqi (iZ (xs (9 * n + 3)).toInt) (iZ_of _).symm ?_
  refine v_aload_n 186 3 C dL_law_186 rfl ?_
  refine v_iload_n 187 0 C dL_law_187 rfl ?_
  refine v_iconst 188 C (iZ 4) dL_law_188 rfl ?_
  refine z_iadd 189 C dL_law_189 ?_
  refine l_sld 190 C hX hbl (9 * n + 4) (izn (by omega)) (by omega) hL dL_law_190 ?_
  refine v_eqi (iZ (xs (9 * n + 4)).toInt) (iZ_of _).symm ?_
  refine v_aload_n 191 3 C dL_law_191 rfl ?_
  refine v_iload_n 192 0 C dL_law_192 rfl ?_
  refine v_iconst 193 C (iZ 5) dL_law_193 rfl ?_
  refine z_iadd 194 C dL_law_194 ?_
  refine l_sld 195 C hX hbl (9 * n + 5) (izn (by omega)) (by omega) hL dL_law_195 ?_
  refine v_eqi (iZ (xs (9 * n + 5)).toInt) (iZ_of _).symm ?_
  refine v_aload_n 196 3 C dL_law_196 rfl ?_
  refine v_iload_n 197 0 C dL_law_197 rfl ?_
  refine v_bipush 198 C (iZ 6) dL_law_198 (by decide) ?_
  refine z_iadd 200 C dL_law_200 ?_
  refine l_sld 201 C hX hbl (9 * n + 6) (izn (by omega)) (by omega) hL dL_law_201 ?_
  refine v_eqi (iZ (xs (9 * n + 6)).toInt) (iZ_of _).symm ?_
  refine v_aload_n 202 3 C dL_law_202 rfl ?_
  refine v_iload_n 203 0 C dL_law_203 rfl ?_
  refine v_bipush 204 C (iZ 7) dL_law_204 (by decide) ?_
  refine z_iadd 206 C dL_law_206 ?_
  refine l_sld 207 C hX hbl (9 * n + 7) (izn (by omega)) (by omega) hL dL_law_207 ?_
  refine v_eqi (iZ (xs (9 * n + 7)).toInt) (iZ_of _).symm ?_
  refine v_aload_n 208 3 C dL_law_208 rfl ?_
  refine v_iload_n 209 0 C dL_law_209 rfl ?_
  refine v_bipush 210 C (iZ 8) dL_law_210 (by decide) ?_
  refine z_iadd 212 C dL_law_212 ?_
  refine l_sld 213 C hX hbl (9 * n + 8) (izn (by omega)) (by omega) hL dL_law_213 ?_
  refine v_eqi (iZ (xs (9 * n + 8)).toInt) (iZ_of _).symm ?_
  refine z_if_eq 214 221 C (r32_of _) dL_law_214 (by decide) (fun cb => ?_) (fun cb => ?_)
  · skip
    refine v_iconst 221 C (iZ 0) dL_law_221 rfl ?_
    obtain ⟨RR, b2, hU, hcl, hmo⟩ := pr_part (l := l) (D := D) (kc := kc) (ad := ad) hg hN hI hC hE (r32_of (xs (9 * n + 1))) (r32_of (xs (9 * n + 2))) (r32_of (xs (9 * n + 3))) (r32_of (xs (9 * n + 4))) (r32_of (xs (9 * n + 5))) (r32_of (xs (9 * n + 6))) (r32_of (xs (9 * n + 7))) (Or.inl rfl)
    refine v_calli 222 hA (rV_Pg 222 C L_RL_22 lk_259 lk_260 (hcl) (vg.o hg) rfl ⟨rfl, rfl⟩ (rm_law rfl (by omega) (by omega)) dL_law_222) (fun r1 w2 h3 => ?_)
    obtain ⟨R1, hR1, e_R1, N2, ad2, S2, t2, rfl, hN2, had2, hC2, hE2, hI2, hM2⟩ := h3
    refine v_eqi (iZ R1) e_R1 ?_
    have hMk := hM.keep hM2 hI
    refine v_eqlv [(3, .int (iZ (9 * (n : Int)))), (2, .ref (ad2 45)), (1, .ref (ad2 0)), (0, .ref b0)] (by rw [had2 45 (by decide), had2 0 (by decide)]) ?_
    have hm : vm N2 := by show 66 ≤ N2; omega
    refine v_aload_n 225 1 C dL_law_225 rfl ?_
    refine v_aload_n 226 3 C dL_law_226 rfl ?_
    refine v_iload_n 227 0 C dL_law_227 rfl ?_
    refine v_iconst 228 C (iZ 1) dL_law_228 rfl ?_
    refine z_iadd 229 C dL_law_229 ?_
    refine l_sld 230 C hX hbl (9 * n + 1) (izn (by omega)) (by omega) hL dL_law_230 ?_
    refine v_eqi (iZ (xs (9 * n + 1)).toInt) (iZ_of _).symm ?_
    refine v_aload_n 231 3 C dL_law_231 rfl ?_
    refine v_iload_n 232 0 C dL_law_232 rfl ?_
    refine v_iconst 233 C (iZ 2) dL_law_233 rfl ?_
    refine z_iadd 234 C dL_law_234 ?_
    refine l_sld 235 C hX hbl (9 * n + 2) (izn (by omega)) (by omega) hL dL_law_235 ?_
    refine v_eqi (iZ (xs (9 * n + 2)).toInt) (iZ_of _).symm ?_
    refine v_aload_n 236 3 C dL_law_236 rfl ?_
    refine v_iload_n 237 0 C dL_law_237 rfl ?_
    refine v_iconst 238 C (iZ 3) dL_law_238 rfl ?_
    refine z_iadd 239 C dL_law_239 ?_
    refine l_sld 240 C hX hbl (9 * n + 3) (izn (by omega)) (by omega) hL dL_law_240 ?_
    refine v_eqi (iZ (xs (9 * n + 3)).toInt) (iZ_of _).symm ?_
    refine v_aload_n 241 3 C dL_law_241 rfl ?_
    refine v_iload_n 242 0 C dL_law_242 rfl ?_
    refine v_iconst 243 C (iZ 4) dL_law_243 rfl ?_
    refine z_iadd 244 C dL_law_244 ?_
    refine l_sld 245 C hX hbl (9 * n + 4) (izn (by omega)) (by omega) hL dL_law_245 ?_
    refine v_eqi (iZ (xs (9 * n + 4)).toInt) (iZ_of _).symm ?_
    refine v_aload_n 246 3 C dL_law_246 rfl ?_
    refine v_iload_n 247 0 C dL_law_247 rfl ?_
    refine v_iconst 248 C (iZ 5) dL_law_248 rfl ?_
    refine z_iadd 249 C dL_law_249 ?_
    refine l_sld 250 C hX hbl (9 * n + 5) (izn (by omega)) (by omega) hL dL_law_250 ?_
    refine v_eqi (iZ (xs (9 * n + 5)).toInt) (iZ_of _).symm ?_
    refine v_aload_n 251 3 C dL_law_251 rfl ?_
    refine v_iload_n 252 0 C dL_law_252 rfl ?_
    refine v_bipush 253 C (iZ 6) dL_law_253 (by decide) ?_
    refine z_iadd 255 C dL_law_255 ?_
    refine l_sld 256 C hX hbl (9 * n + 6) (izn (by omega)) (by omega) hL dL_law_256 ?_
    refine v_eqi (iZ (xs (9 * n + 6)).toInt) (iZ_of _).symm ?_
    refine v_aload_n 257 3 C dL_law_257 rfl ?_
    refine v_iload_n 258 0 C dL_law_258 rfl ?_
    refine v_bipush 259 C (iZ 7) dL_law_259 (by decide) ?_
    refine z_iadd 261 C dL_law_261 ?_
    refine l_sld 262 C hX hbl (9 * n + 7) (izn (by omega)) (by omega) hL dL_law_262 ?_
    refine v_eqi (iZ (xs (9 * n + 7)).toInt) (iZ_of _).symm ?_
    refine v_aload_n 263 3 C dL_law_263 rfl ?_
    refine v_iload_n 264 0 C dL_law_264 rfl ?_
    refine v_bipush 265 C (iZ 8) dL_law_265 (by decide) ?_
    refine z_iadd 267 C dL_law_267 ?_
    refine l_sld 268 C hX hbl (9 * n + 8) (izn (by omega)) (by omega) hL dL_law_268 ?_
    refine v_eqi (iZ (xs (9 * n + 8)).toInt) (iZ_of _).symm ?_
    refine z_if_eq 269 276 C (r32_of _) dL_law_269 (by decide) (fun c269_1 => ?_) (fun c269_1 => absurd (cb) c269_1)
    refine v_iconst 276 C (iZ 0) dL_law_276 rfl ?_
    refine v_calli 277 hA (rV_Mo 277 C L_RL_26 lk_596 lk_597 (hmo N2 ad2 S2 hm hMk) (vm.o hm) rfl ⟨rfl, rfl⟩ (rm_law rfl (by omega) (by omega)) dL_law_277) (fun r4 w5 h6 => ?_)
    obtain ⟨R2, hR2, e_R2, S3, rfl, hM3, hs3⟩ := h6
    refine v_eqi (iZ R2) e_R2 ?_
    have eR : R1 = R2 := hU R1 R2 hR1 hR2
    subst eR
    refine v_icmp_eq 280 847 C dL_law_280 (by decide) (fun c280_2 => ?_) (fun c280_2 => absurd (rfl) c280_2)
    refine v_iinc 847 0 (iZ (9 * ((n + 1 : Nat) : Int))) [(3, .int (iZ (9 * ((n + 1 : Nat) : Int)))), (2, .ref (ad2 45)), (1, .ref (ad2 0)), (0, .ref b0)] C dL_law_847 rfl ((iZ_add _ 9).trans (congrArg iZ (by omega))) (by decide) rfl ?_
    refine v_goto 850 18 C dL_law_850 (by decide) ?_
    refine v_sub [0, 1, 2, 3] rfl ?_
    refine v_wid (k := 66 + 15 * (n + 1)) (n := 2000 + 184 * (n + 1)) (by omega) (by omega) ?_
    exact K N2 ad2 S3 b2 t2 hN2 hI2 (hC2.keep hs3) hE2 hM3
  · skip
    refine v_iconst 217 C (iZ 1) dL_law_217 rfl ?_
    refine v_goto 218 222 C dL_law_218 (by decide) ?_
    obtain ⟨RR, b2, hU, hcl, hmo⟩ := pr_part (l := l) (D := D) (kc := kc) (ad := ad) hg hN hI hC hE (r32_of (xs (9 * n + 1))) (r32_of (xs (9 * n + 2))) (r32_of (xs (9 * n + 3))) (r32_of (xs (9 * n + 4))) (r32_of (xs (9 * n + 5))) (r32_of (xs (9 * n + 6))) (r32_of (xs (9 * n + 7))) (Or.inr rfl)
    refine v_calli 222 hA (rV_Pg 222 C L_RL_22 lk_259 lk_260 (hcl) (vg.o hg) rfl ⟨rfl, rfl⟩ (rm_law rfl (by omega) (by omega)) dL_law_222) (fun r7 w8 h9 => ?_)
    obtain ⟨R1, hR1, e_R1, N2, ad2, S2, t2, rfl, hN2, had2, hC2, hE2, hI2, hM2⟩ := h9
    refine v_eqi (iZ R1) e_R1 ?_
    have hMk := hM.keep hM2 hI
    refine v_eqlv [(3, .int (iZ (9 * (n : Int)))), (2, .ref (ad2 45)), (1, .ref (ad2 0)), (0, .ref b0)] (by rw [had2 45 (by decide), had2 0 (by decide)]) ?_
    have hm : vm N2 := by show 66 ≤ N2; omega
    refine v_aload_n 225 1 C dL_law_225 rfl ?_
    refine v_aload_n 226 3 C dL_law_226 rfl ?_
    refine v_iload_n 227 0 C dL_law_227 rfl ?_
    refine v_iconst 228 C (iZ 1) dL_law_228 rfl ?_
    refine z_iadd 229 C dL_law_229 ?_
    refine l_sld 230 C hX hbl (9 * n + 1) (izn (by omega)) (by omega) hL dL_law_230 ?_
    refine v_eqi (iZ (xs (9 * n + 1)).toInt) (iZ_of _).symm ?_
    refine v_aload_n 231 3 C dL_law_231 rfl ?_
    refine v_iload_n 232 0 C dL_law_232 rfl ?_
    refine v_iconst 233 C (iZ 2) dL_law_233 rfl ?_
    refine z_iadd 234 C dL_law_234 ?_
    refine l_sld 235 C hX hbl (9 * n + 2) (izn (by omega)) (by omega) hL dL_law_235 ?_
    refine v_eqi (iZ (xs (9 * n + 2)).toInt) (iZ_of _).symm ?_
    refine v_aload_n 236 3 C dL_law_236 rfl ?_
    refine v_iload_n 237 0 C dL_law_237 rfl ?_
    refine v_iconst 238 C (iZ 3) dL_law_238 rfl ?_
    refine z_iadd 239 C dL_law_239 ?_
    refine l_sld 240 C hX hbl (9 * n + 3) (izn (by omega)) (by omega) hL dL_law_240 ?_
    refine v_eqi (iZ (xs (9 * n + 3)).toInt) (iZ_of _).symm ?_
    refine v_aload_n 241 3 C dL_law_241 rfl ?_
    refine v_iload_n 242 0 C dL_law_242 rfl ?_
    refine v_iconst 243 C (iZ 4) dL_law_243 rfl ?_
    refine z_iadd 244 C dL_law_244 ?_
    refine l_sld 245 C hX hbl (9 * n + 4) (izn (by omega)) (by omega) hL dL_law_245 ?_
    refine v_eqi (iZ (xs (9 * n + 4)).toInt) (iZ_of _).symm ?_
    refine v_aload_n 246 3 C dL_law_246 rfl ?_
    refine v_iload_n 247 0 C dL_law_247 rfl ?_
    refine v_iconst 248 C (iZ 5) dL_law_248 rfl ?_
    refine z_iadd 249 C dL_law_249 ?_
    refine l_sld 250 C hX hbl (9 * n + 5) (izn (by omega)) (by omega) hL dL_law_250 ?_
    refine v_eqi (iZ (xs (9 * n + 5)).toInt) (iZ_of _).symm ?_
    refine v_aload_n 251 3 C dL_law_251 rfl ?_
    refine v_iload_n 252 0 C dL_law_252 rfl ?_
    refine v_bipush 253 C (iZ 6) dL_law_253 (by decide) ?_
    refine z_iadd 255 C dL_law_255 ?_
    refine l_sld 256 C hX hbl (9 * n + 6) (izn (by omega)) (by omega) hL dL_law_256 ?_
    refine v_eqi (iZ (xs (9 * n + 6)).toInt) (iZ_of _).symm ?_
    refine v_aload_n 257 3 C dL_law_257 rfl ?_
    refine v_iload_n 258 0 C dL_law_258 rfl ?_
    refine v_bipush 259 C (iZ 7) dL_law_259 (by decide) ?_
    refine z_iadd 261 C dL_law_261 ?_
    refine l_sld 262 C hX hbl (9 * n + 7) (izn (by omega)) (by omega) hL dL_law_262 ?_
    refine v_eqi (iZ (xs (9 * n + 7)).toInt) (iZ_of _).symm ?_
    refine v_aload_n 263 3 C dL_law_263 rfl ?_
    refine v_iload_n 264 0 C dL_law_264 rfl ?_
    refine v_bipush 265 C (iZ 8) dL_law_265 (by decide) ?_
    refine z_iadd 267 C dL_law_267 ?_
    refine l_sld 268 C hX hbl (9 * n + 8) (izn (by omega)) (by omega) hL dL_law_268 ?_
    refine v_eqi (iZ (xs (9 * n + 8)).toInt) (iZ_of _).symm ?_
    refine z_if_eq 269 276 C (r32_of _) dL_law_269 (by decide) (fun c269_1 => absurd c269_1 (cb)) (fun c269_1 => ?_)
    refine v_iconst 272 C (iZ 1) dL_law_272 rfl ?_
    refine v_goto 273 277 C dL_law_273 (by decide) ?_
    refine v_calli 277 hA (rV_Mo 277 C L_RL_26 lk_596 lk_597 (hmo N2 ad2 S2 hm hMk) (vm.o hm) rfl ⟨rfl, rfl⟩ (rm_law rfl (by omega) (by omega)) dL_law_277) (fun r10 w11 h12 => ?_)
    obtain ⟨R2, hR2, e_R2, S3, rfl, hM3, hs3⟩ := h12
    refine v_eqi (iZ R2) e_R2 ?_
    have eR : R1 = R2 := hU R1 R2 hR1 hR2
    subst eR
    refine v_icmp_eq 280 847 C dL_law_280 (by decide) (fun c280_2 => ?_) (fun c280_2 => absurd (rfl) c280_2)
    refine v_iinc 847 0 (iZ (9 * ((n + 1 : Nat) : Int))) [(3, .int (iZ (9 * ((n + 1 : Nat) : Int)))), (2, .ref (ad2 45)), (1, .ref (ad2 0)), (0, .ref b0)] C dL_law_847 rfl ((iZ_add _ 9).trans (congrArg iZ (by omega))) (by decide) rfl ?_
    refine v_goto 850 18 C dL_law_850 (by decide) ?_
    refine v_sub [0, 1, 2, 3] rfl ?_
    refine v_wid (k := 66 + 15 * (n + 1)) (n := 2000 + 184 * (n + 1)) (by omega) (by omega) ?_
    exact K N2 ad2 S3 b2 t2 hN2 hI2 (hC2.keep hs3) hE2 hM3
set_option maxHeartbeats 4000000 in
set_option maxRecDepth 100000 in
theorem lw_free {p : Program} {l : Launch} {e : Env} {s : State} {m : MethodId} {below : List Frame} {meth : Method} {c : Code} {b0 L : Nat} {xs : Nat → Int32} {D : va_G} {kc : Nat → ClassId} {n N : Nat} {ad : Nat → Nat} {S : St} {b : Bs} {t : Ts} (C : Cx p s m #[Value.ref b0] meth c cL_law RL 4 ret D kc) (hX : va_X b0 L xs s s.heap) (hbl : b0 < s.heap.size) (hL : L ≤ 4608) (hn : 9 * n + 9 ≤ L) (hN : N = 66 + 15 * bn b) (hI : Inv b) (hC : RC S b t) (hE : LE b t) (hM : RM S b) (K : LWK p l e s m below meth c b0 D kc (n + 1)) : VL p l e s m below meth c b0 D (66 + 15 * n) (2000 + 184 * n) (wl kc N ad S) 285 [(3, .int (iZ (9 * (n : Int)))), (2, .ref (ad 45)), (1, .ref (ad 0)), (0, .ref b0)] [] := by
  have hg : vg N := by show 45 ≤ N; omega
  have hA : ∀ q, s.heap.size ≤ q → (fun q => s.heap.size ≤ q) q := fun _ h => h
  refine v_aload_n 285 2 C dL_law_285 rfl ?_
  refine v_aload_n 286 3 C dL_law_286 rfl ?_
  refine v_iload_n 287 0 C dL_law_287 rfl ?_
  refine v_iconst 288 C (iZ 1) dL_law_288 rfl ?_
  refine z_iadd 289 C dL_law_289 ?_
  refine l_sld 290 C hX hbl (9 * n + 1) (izn (by omega)) (by omega) hL dL_law_290 ?_
  refine v_eqi (iZ (xs (9 * n + 1)).toInt) (iZ_of _).symm ?_
  obtain ⟨RR, b2, hU, hcl, hmo⟩ := pr_free (l := l) (D := D) (kc := kc) (ad := ad) hg hN hI hC hE (r32_of (xs (9 * n + 1)))
  refine v_calli 291 hA (rV_Pg 291 C L_RL_27 lk_335 lk_336 (hcl) (vg.o hg) rfl ⟨rfl, rfl⟩ (rm_law rfl (by omega) (by omega)) dL_law_291) (fun r1 w2 h3 => ?_)
  obtain ⟨R1, hR1, e_R1, N2, ad2, S2, t2, rfl, hN2, had2, hC2, hE2, hI2, hM2⟩ := h3
  refine v_eqi (iZ R1) e_R1 ?_
  have hMk := hM.keep hM2 hI
  refine v_eqlv [(3, .int (iZ (9 * (n : Int)))), (2, .ref (ad2 45)), (1, .ref (ad2 0)), (0, .ref b0)] (by rw [had2 45 (by decide), had2 0 (by decide)]) ?_
  have hm : vm N2 := by show 66 ≤ N2; omega
  refine v_aload_n 294 1 C dL_law_294 rfl ?_
  refine v_aload_n 295 3 C dL_law_295 rfl ?_
  refine v_iload_n 296 0 C dL_law_296 rfl ?_
  refine v_iconst 297 C (iZ 1) dL_law_297 rfl ?_
  refine z_iadd 298 C dL_law_298 ?_
  refine l_sld 299 C hX hbl (9 * n + 1) (izn (by omega)) (by omega) hL dL_law_299 ?_
  refine v_eqi (iZ (xs (9 * n + 1)).toInt) (iZ_of _).symm ?_
  refine v_calli 300 hA (rV_Mo 300 C L_RL_30 lk_653 lk_654 (hmo N2 ad2 S2 hm hMk) (vm.o hm) rfl ⟨rfl, rfl⟩ (rm_law rfl (by omega) (by omega)) dL_law_300) (fun r4 w5 h6 => ?_)
  obtain ⟨R2, hR2, e_R2, S3, rfl, hM3, hs3⟩ := h6
  refine v_eqi (iZ R2) e_R2 ?_
  have eR : R1 = R2 := hU R1 R2 hR1 hR2
  subst eR
  refine v_icmp_eq 303 847 C dL_law_303 (by decide) (fun c303_0 => ?_) (fun c303_0 => absurd (rfl) c303_0)
  refine v_iinc 847 0 (iZ (9 * ((n + 1 : Nat) : Int))) [(3, .int (iZ (9 * ((n + 1 : Nat) : Int)))), (2, .ref (ad2 45)), (1, .ref (ad2 0)), (0, .ref b0)] C dL_law_847 rfl ((iZ_add _ 9).trans (congrArg iZ (by omega))) (by decide) rfl ?_
  refine v_goto 850 18 C dL_law_850 (by decide) ?_
  refine v_sub [0, 1, 2, 3] rfl ?_
  refine v_wid (k := 66 + 15 * (n + 1)) (n := 2000 + 184 * (n + 1)) (by omega) (by omega) ?_
  exact K N2 ad2 S3 b2 t2 hN2 hI2 (hC2.keep hs3) hE2 hM3
set_option maxHeartbeats 4000000 in
set_option maxRecDepth 100000 in
theorem lw_hinge {p : Program} {l : Launch} {e : Env} {s : State} {m : MethodId} {below : List Frame} {meth : Method} {c : Code} {b0 L : Nat} {xs : Nat → Int32} {D : va_G} {kc : Nat → ClassId} {n N : Nat} {ad : Nat → Nat} {S : St} {b : Bs} {t : Ts} (C : Cx p s m #[Value.ref b0] meth c cL_law RL 4 ret D kc) (hX : va_X b0 L xs s s.heap) (hbl : b0 < s.heap.size) (hL : L ≤ 4608) (hn : 9 * n + 9 ≤ L) (hN : N = 66 + 15 * bn b) (hI : Inv b) (hC : RC S b t) (hE : LE b t) (hM : RM S b) (K : LWK p l e s m below meth c b0 D kc (n + 1)) : VL p l e s m below meth c b0 D (66 + 15 * n) (2000 + 184 * n) (wl kc N ad S) 308 [(3, .int (iZ (9 * (n : Int)))), (2, .ref (ad 45)), (1, .ref (ad 0)), (0, .ref b0)] [] := by
  have hg : vg N := by show 45 ≤ N; omega
  have hA : ∀ q, s.heap.size ≤ q → (fun q => s.heap.size ≤ q) q := fun _ h => h
  refine v_aload_n 308 2 C dL_law_308 rfl ?_
  refine v_aload_n 309 3 C dL_law_309 rfl ?_
  refine v_iload_n 310 0 C dL_law_310 rfl ?_
  refine v_iconst 311 C (iZ 1) dL_law_311 rfl ?_
  refine z_iadd 312 C dL_law_312 ?_
  refine l_sld 313 C hX hbl (9 * n + 1) (izn (by omega)) (by omega) hL dL_law_313 ?_
  refine v_eqi (iZ (xs (9 * n + 1)).toInt) (iZ_of _).symm ?_
  refine v_aload_n 314 3 C dL_law_314 rfl ?_
  refine v_iload_n 315 0 C dL_law_315 rfl ?_
  refine v_iconst 316 C (iZ 2) dL_law_316 rfl ?_
  refine z_iadd 317 C dL_law_317 ?_
  refine l_sld 318 C hX hbl (9 * n + 2) (izn (by omega)) (by omega) hL dL_law_318 ?_
  refine v_eqi (iZ (xs (9 * n + 2)).toInt) (iZ_of _).symm ?_
  refine z_if_eq 319 326 C (r32_of _) dL_law_319 (by decide) (fun cb => ?_) (fun cb => ?_)
  · skip
    refine v_iconst 326 C (iZ 0) dL_law_326 rfl ?_
    refine v_aload_n 327 3 C dL_law_327 rfl ?_
    refine v_iload_n 328 0 C dL_law_328 rfl ?_
    refine v_iconst 329 C (iZ 3) dL_law_329 rfl ?_
    refine z_iadd 330 C dL_law_330 ?_
    refine l_sld 331 C hX hbl (9 * n + 3) (izn (by omega)) (by omega) hL dL_law_331 ?_
    refine v_eqi (iZ (xs (9 * n + 3)).toInt) (iZ_of _).symm ?_
    obtain ⟨RR, b2, hU, hcl, hmo⟩ := pr_hinge (l := l) (D := D) (kc := kc) (ad := ad) hg hN hI hC hE (r32_of (xs (9 * n + 1))) (Or.inl rfl) (r32_of (xs (9 * n + 3)))
    refine v_calli 332 hA (rV_Pg 332 C L_RL_31 lk_346 lk_347 (hcl) (vg.o hg) rfl ⟨rfl, rfl⟩ (rm_law rfl (by omega) (by omega)) dL_law_332) (fun r1 w2 h3 => ?_)
    obtain ⟨R1, hR1, e_R1, N2, ad2, S2, t2, rfl, hN2, had2, hC2, hE2, hI2, hM2⟩ := h3
    refine v_eqi (iZ R1) e_R1 ?_
    have hMk := hM.keep hM2 hI
    refine v_eqlv [(3, .int (iZ (9 * (n : Int)))), (2, .ref (ad2 45)), (1, .ref (ad2 0)), (0, .ref b0)] (by rw [had2 45 (by decide), had2 0 (by decide)]) ?_
    have hm : vm N2 := by show 66 ≤ N2; omega
    refine v_aload_n 335 1 C dL_law_335 rfl ?_
    refine v_aload_n 336 3 C dL_law_336 rfl ?_
    refine v_iload_n 337 0 C dL_law_337 rfl ?_
    refine v_iconst 338 C (iZ 1) dL_law_338 rfl ?_
    refine z_iadd 339 C dL_law_339 ?_
    refine l_sld 340 C hX hbl (9 * n + 1) (izn (by omega)) (by omega) hL dL_law_340 ?_
    refine v_eqi (iZ (xs (9 * n + 1)).toInt) (iZ_of _).symm ?_
    refine v_aload_n 341 3 C dL_law_341 rfl ?_
    refine v_iload_n 342 0 C dL_law_342 rfl ?_
    refine v_iconst 343 C (iZ 2) dL_law_343 rfl ?_
    refine z_iadd 344 C dL_law_344 ?_
    refine l_sld 345 C hX hbl (9 * n + 2) (izn (by omega)) (by omega) hL dL_law_345 ?_
    refine v_eqi (iZ (xs (9 * n + 2)).toInt) (iZ_of _).symm ?_
    refine z_if_eq 346 353 C (r32_of _) dL_law_346 (by decide) (fun c346_1 => ?_) (fun c346_1 => absurd (cb) c346_1)
    refine v_iconst 353 C (iZ 0) dL_law_353 rfl ?_
    refine v_aload_n 354 3 C dL_law_354 rfl ?_
    refine v_iload_n 355 0 C dL_law_355 rfl ?_
    refine v_iconst 356 C (iZ 3) dL_law_356 rfl ?_
    refine z_iadd 357 C dL_law_357 ?_
    refine l_sld 358 C hX hbl (9 * n + 3) (izn (by omega)) (by omega) hL dL_law_358 ?_
    refine v_eqi (iZ (xs (9 * n + 3)).toInt) (iZ_of _).symm ?_
    refine v_calli 359 hA (rV_Mo 359 C L_RL_35 lk_665 lk_666 (hmo N2 ad2 S2 hm hMk) (vm.o hm) rfl ⟨rfl, rfl⟩ (rm_law rfl (by omega) (by omega)) dL_law_359) (fun r4 w5 h6 => ?_)
    obtain ⟨R2, hR2, e_R2, S3, rfl, hM3, hs3⟩ := h6
    refine v_eqi (iZ R2) e_R2 ?_
    have eR : R1 = R2 := hU R1 R2 hR1 hR2
    subst eR
    refine v_icmp_eq 362 847 C dL_law_362 (by decide) (fun c362_2 => ?_) (fun c362_2 => absurd (rfl) c362_2)
    refine v_iinc 847 0 (iZ (9 * ((n + 1 : Nat) : Int))) [(3, .int (iZ (9 * ((n + 1 : Nat) : Int)))), (2, .ref (ad2 45)), (1, .ref (ad2 0)), (0, .ref b0)] C dL_law_847 rfl ((iZ_add _ 9).trans (congrArg iZ (by omega))) (by decide) rfl ?_
    refine v_goto 850 18 C dL_law_850 (by decide) ?_
    refine v_sub [0, 1, 2, 3] rfl ?_
    refine v_wid (k := 66 + 15 * (n + 1)) (n := 2000 + 184 * (n + 1)) (by omega) (by omega) ?_
    exact K N2 ad2 S3 b2 t2 hN2 hI2 (hC2.keep hs3) hE2 hM3
  · skip
    refine v_iconst 322 C (iZ 1) dL_law_322 rfl ?_
    refine v_goto 323 327 C dL_law_323 (by decide) ?_
    refine v_aload_n 327 3 C dL_law_327 rfl ?_
    refine v_iload_n 328 0 C dL_law_328 rfl ?_
    refine v_iconst 329 C (iZ 3) dL_law_329 rfl ?_
    refine z_iadd 330 C dL_law_330 ?_
    refine l_sld 331 C hX hbl (9 * n + 3) (izn (by omega)) (by omega) hL dL_law_331 ?_
    refine v_eqi (iZ (xs (9 * n + 3)).toInt) (iZ_of _).symm ?_
    obtain ⟨RR, b2, hU, hcl, hmo⟩ := pr_hinge (l := l) (D := D) (kc := kc) (ad := ad) hg hN hI hC hE (r32_of (xs (9 * n + 1))) (Or.inr rfl) (r32_of (xs (9 * n + 3)))
    refine v_calli 332 hA (rV_Pg 332 C L_RL_31 lk_346 lk_347 (hcl) (vg.o hg) rfl ⟨rfl, rfl⟩ (rm_law rfl (by omega) (by omega)) dL_law_332) (fun r7 w8 h9 => ?_)
    obtain ⟨R1, hR1, e_R1, N2, ad2, S2, t2, rfl, hN2, had2, hC2, hE2, hI2, hM2⟩ := h9
    refine v_eqi (iZ R1) e_R1 ?_
    have hMk := hM.keep hM2 hI
    refine v_eqlv [(3, .int (iZ (9 * (n : Int)))), (2, .ref (ad2 45)), (1, .ref (ad2 0)), (0, .ref b0)] (by rw [had2 45 (by decide), had2 0 (by decide)]) ?_
    have hm : vm N2 := by show 66 ≤ N2; omega
    refine v_aload_n 335 1 C dL_law_335 rfl ?_
    refine v_aload_n 336 3 C dL_law_336 rfl ?_
    refine v_iload_n 337 0 C dL_law_337 rfl ?_
    refine v_iconst 338 C (iZ 1) dL_law_338 rfl ?_
    refine z_iadd 339 C dL_law_339 ?_
    refine l_sld 340 C hX hbl (9 * n + 1) (izn (by omega)) (by omega) hL dL_law_340 ?_
    refine v_eqi (iZ (xs (9 * n + 1)).toInt) (iZ_of _).symm ?_
    refine v_aload_n 341 3 C dL_law_341 rfl ?_
    refine v_iload_n 342 0 C dL_law_342 rfl ?_
    refine v_iconst 343 C (iZ 2) dL_law_343 rfl ?_
    refine z_iadd 344 C dL_law_344 ?_
    refine l_sld 345 C hX hbl (9 * n + 2) (izn (by omega)) (by omega) hL dL_law_345 ?_
    refine v_eqi (iZ (xs (9 * n + 2)).toInt) (iZ_of _).symm ?_
    refine z_if_eq 346 353 C (r32_of _) dL_law_346 (by decide) (fun c346_1 => absurd c346_1 (cb)) (fun c346_1 => ?_)
    refine v_iconst 349 C (iZ 1) dL_law_349 rfl ?_
    refine v_goto 350 354 C dL_law_350 (by decide) ?_
    refine v_aload_n 354 3 C dL_law_354 rfl ?_
    refine v_iload_n 355 0 C dL_law_355 rfl ?_
    refine v_iconst 356 C (iZ 3) dL_law_356 rfl ?_
    refine z_iadd 357 C dL_law_357 ?_
    refine l_sld 358 C hX hbl (9 * n + 3) (izn (by omega)) (by omega) hL dL_law_358 ?_
    refine v_eqi (iZ (xs (9 * n + 3)).toInt) (iZ_of _).symm ?_
    refine v_calli 359 hA (rV_Mo 359 C L_RL_35 lk_665 lk_666 (hmo N2 ad2 S2 hm hMk) (vm.o hm) rfl ⟨rfl, rfl⟩ (rm_law rfl (by omega) (by omega)) dL_law_359) (fun r10 w11 h12 => ?_)
    obtain ⟨R2, hR2, e_R2, S3, rfl, hM3, hs3⟩ := h12
    refine v_eqi (iZ R2) e_R2 ?_
    have eR : R1 = R2 := hU R1 R2 hR1 hR2
    subst eR
    refine v_icmp_eq 362 847 C dL_law_362 (by decide) (fun c362_2 => ?_) (fun c362_2 => absurd (rfl) c362_2)
    refine v_iinc 847 0 (iZ (9 * ((n + 1 : Nat) : Int))) [(3, .int (iZ (9 * ((n + 1 : Nat) : Int)))), (2, .ref (ad2 45)), (1, .ref (ad2 0)), (0, .ref b0)] C dL_law_847 rfl ((iZ_add _ 9).trans (congrArg iZ (by omega))) (by decide) rfl ?_
    refine v_goto 850 18 C dL_law_850 (by decide) ?_
    refine v_sub [0, 1, 2, 3] rfl ?_
    refine v_wid (k := 66 + 15 * (n + 1)) (n := 2000 + 184 * (n + 1)) (by omega) (by omega) ?_
    exact K N2 ad2 S3 b2 t2 hN2 hI2 (hC2.keep hs3) hE2 hM3
set_option maxHeartbeats 4000000 in
set_option maxRecDepth 100000 in
theorem lw_crease {p : Program} {l : Launch} {e : Env} {s : State} {m : MethodId} {below : List Frame} {meth : Method} {c : Code} {b0 L : Nat} {xs : Nat → Int32} {D : va_G} {kc : Nat → ClassId} {n N : Nat} {ad : Nat → Nat} {S : St} {b : Bs} {t : Ts} (C : Cx p s m #[Value.ref b0] meth c cL_law RL 4 ret D kc) (hX : va_X b0 L xs s s.heap) (hbl : b0 < s.heap.size) (hL : L ≤ 4608) (hn : 9 * n + 9 ≤ L) (hN : N = 66 + 15 * bn b) (hI : Inv b) (hC : RC S b t) (hE : LE b t) (hM : RM S b) (K : LWK p l e s m below meth c b0 D kc (n + 1)) : VL p l e s m below meth c b0 D (66 + 15 * n) (2000 + 184 * n) (wl kc N ad S) 367 [(3, .int (iZ (9 * (n : Int)))), (2, .ref (ad 45)), (1, .ref (ad 0)), (0, .ref b0)] [] := by
  have hg : vg N := by show 45 ≤ N; omega
  have hA : ∀ q, s.heap.size ≤ q → (fun q => s.heap.size ≤ q) q := fun _ h => h
  refine v_aload_n 367 2 C dL_law_367 rfl ?_
  refine v_aload_n 368 3 C dL_law_368 rfl ?_
  refine v_iload_n 369 0 C dL_law_369 rfl ?_
  refine v_iconst 370 C (iZ 1) dL_law_370 rfl ?_
  refine z_iadd 371 C dL_law_371 ?_
  refine l_sld 372 C hX hbl (9 * n + 1) (izn (by omega)) (by omega) hL dL_law_372 ?_
  refine v_eqi (iZ (xs (9 * n + 1)).toInt) (iZ_of _).symm ?_
  refine v_aload_n 373 3 C dL_law_373 rfl ?_
  refine v_iload_n 374 0 C dL_law_374 rfl ?_
  refine v_iconst 375 C (iZ 2) dL_law_375 rfl ?_
  refine z_iadd 376 C dL_law_376 ?_
  refine l_sld 377 C hX hbl (9 * n + 2) (izn (by omega)) (by omega) hL dL_law_377 ?_
  refine v_eqi (iZ (xs (9 * n + 2)).toInt) (iZ_of _).symm ?_
  refine v_aload_n 378 3 C dL_law_378 rfl ?_
  refine v_iload_n 379 0 C dL_law_379 rfl ?_
  refine v_iconst 380 C (iZ 3) dL_law_380 rfl ?_
  refine z_iadd 381 C dL_law_381 ?_
  refine l_sld 382 C hX hbl (9 * n + 3) (izn (by omega)) (by omega) hL dL_law_382 ?_
  refine v_eqi (iZ (xs (9 * n + 3)).toInt) (iZ_of _).symm ?_
  obtain ⟨RR, b2, hU, hcl, hmo⟩ := pr_crease (l := l) (D := D) (kc := kc) (ad := ad) hg hN hI hC hE (r32_of (xs (9 * n + 1))) (r32_of (xs (9 * n + 2))) (r32_of (xs (9 * n + 3)))
  refine v_calli 383 hA (rV_Pg 383 C L_RL_36 lk_367 lk_368 (hcl) (vg.o hg) rfl ⟨rfl, rfl⟩ (rm_law rfl (by omega) (by omega)) dL_law_383) (fun r1 w2 h3 => ?_)
  obtain ⟨R1, hR1, e_R1, N2, ad2, S2, t2, rfl, hN2, had2, hC2, hE2, hI2, hM2⟩ := h3
  refine v_eqi (iZ R1) e_R1 ?_
  have hMk := hM.keep hM2 hI
  refine v_eqlv [(3, .int (iZ (9 * (n : Int)))), (2, .ref (ad2 45)), (1, .ref (ad2 0)), (0, .ref b0)] (by rw [had2 45 (by decide), had2 0 (by decide)]) ?_
  have hm : vm N2 := by show 66 ≤ N2; omega
  refine v_aload_n 386 1 C dL_law_386 rfl ?_
  refine v_aload_n 387 3 C dL_law_387 rfl ?_
  refine v_iload_n 388 0 C dL_law_388 rfl ?_
  refine v_iconst 389 C (iZ 1) dL_law_389 rfl ?_
  refine z_iadd 390 C dL_law_390 ?_
  refine l_sld 391 C hX hbl (9 * n + 1) (izn (by omega)) (by omega) hL dL_law_391 ?_
  refine v_eqi (iZ (xs (9 * n + 1)).toInt) (iZ_of _).symm ?_
  refine v_aload_n 392 3 C dL_law_392 rfl ?_
  refine v_iload_n 393 0 C dL_law_393 rfl ?_
  refine v_iconst 394 C (iZ 2) dL_law_394 rfl ?_
  refine z_iadd 395 C dL_law_395 ?_
  refine l_sld 396 C hX hbl (9 * n + 2) (izn (by omega)) (by omega) hL dL_law_396 ?_
  refine v_eqi (iZ (xs (9 * n + 2)).toInt) (iZ_of _).symm ?_
  refine v_aload_n 397 3 C dL_law_397 rfl ?_
  refine v_iload_n 398 0 C dL_law_398 rfl ?_
  refine v_iconst 399 C (iZ 3) dL_law_399 rfl ?_
  refine z_iadd 400 C dL_law_400 ?_
  refine l_sld 401 C hX hbl (9 * n + 3) (izn (by omega)) (by omega) hL dL_law_401 ?_
  refine v_eqi (iZ (xs (9 * n + 3)).toInt) (iZ_of _).symm ?_
  refine v_calli 402 hA (rV_Mo 402 C L_RL_40 lk_673 lk_674 (hmo N2 ad2 S2 hm hMk) (vm.o hm) rfl ⟨rfl, rfl⟩ (rm_law rfl (by omega) (by omega)) dL_law_402) (fun r4 w5 h6 => ?_)
  obtain ⟨R2, hR2, e_R2, S3, rfl, hM3, hs3⟩ := h6
  refine v_eqi (iZ R2) e_R2 ?_
  have eR : R1 = R2 := hU R1 R2 hR1 hR2
  subst eR
  refine v_icmp_eq 405 847 C dL_law_405 (by decide) (fun c405_0 => ?_) (fun c405_0 => absurd (rfl) c405_0)
  refine v_iinc 847 0 (iZ (9 * ((n + 1 : Nat) : Int))) [(3, .int (iZ (9 * ((n + 1 : Nat) : Int)))), (2, .ref (ad2 45)), (1, .ref (ad2 0)), (0, .ref b0)] C dL_law_847 rfl ((iZ_add _ 9).trans (congrArg iZ (by omega))) (by decide) rfl ?_
  refine v_goto 850 18 C dL_law_850 (by decide) ?_
  refine v_sub [0, 1, 2, 3] rfl ?_
  refine v_wid (k := 66 + 15 * (n + 1)) (n := 2000 + 184 * (n + 1)) (by omega) (by omega) ?_
  exact K N2 ad2 S3 b2 t2 hN2 hI2 (hC2.keep hs3) hE2 hM3
set_option maxHeartbeats 4000000 in
set_option maxRecDepth 100000 in
theorem lw_place {p : Program} {l : Launch} {e : Env} {s : State} {m : MethodId} {below : List Frame} {meth : Method} {c : Code} {b0 L : Nat} {xs : Nat → Int32} {D : va_G} {kc : Nat → ClassId} {n N : Nat} {ad : Nat → Nat} {S : St} {b : Bs} {t : Ts} (C : Cx p s m #[Value.ref b0] meth c cL_law RL 4 ret D kc) (hX : va_X b0 L xs s s.heap) (hbl : b0 < s.heap.size) (hL : L ≤ 4608) (hn : 9 * n + 9 ≤ L) (hN : N = 66 + 15 * bn b) (hI : Inv b) (hC : RC S b t) (hE : LE b t) (hM : RM S b) (K : LWK p l e s m below meth c b0 D kc (n + 1)) : VL p l e s m below meth c b0 D (66 + 15 * n) (2000 + 184 * n) (wl kc N ad S) 410 [(3, .int (iZ (9 * (n : Int)))), (2, .ref (ad 45)), (1, .ref (ad 0)), (0, .ref b0)] [] := by
  have hg : vg N := by show 45 ≤ N; omega
  have hA : ∀ q, s.heap.size ≤ q → (fun q => s.heap.size ≤ q) q := fun _ h => h
  refine v_aload_n 410 2 C dL_law_410 rfl ?_
  refine v_aload_n 411 3 C dL_law_411 rfl ?_
  refine v_iload_n 412 0 C dL_law_412 rfl ?_
  refine v_iconst 413 C (iZ 1) dL_law_413 rfl ?_
  refine z_iadd 414 C dL_law_414 ?_
  refine l_sld 415 C hX hbl (9 * n + 1) (izn (by omega)) (by omega) hL dL_law_415 ?_
  refine v_eqi (iZ (xs (9 * n + 1)).toInt) (iZ_of _).symm ?_
  refine v_aload_n 416 3 C dL_law_416 rfl ?_
  refine v_iload_n 417 0 C dL_law_417 rfl ?_
  refine v_iconst 418 C (iZ 2) dL_law_418 rfl ?_
  refine z_iadd 419 C dL_law_419 ?_
  refine l_sld 420 C hX hbl (9 * n + 2) (izn (by omega)) (by omega) hL dL_law_420 ?_
  refine v_eqi (iZ (xs (9 * n + 2)).toInt) (iZ_of _).symm ?_
  refine v_aload_n 421 3 C dL_law_421 rfl ?_
  refine v_iload_n 422 0 C dL_law_422 rfl ?_
  refine v_iconst 423 C (iZ 3) dL_law_423 rfl ?_
  refine z_iadd 424 C dL_law_424 ?_
  refine l_sld 425 C hX hbl (9 * n + 3) (izn (by omega)) (by omega) hL dL_law_425 ?_
  refine v_eqi (iZ (xs (9 * n + 3)).toInt) (iZ_of _).symm ?_
  refine v_aload_n 426 3 C dL_law_426 rfl ?_
  refine v_iload_n 427 0 C dL_law_427 rfl ?_
  refine v_iconst 428 C (iZ 4) dL_law_428 rfl ?_
  refine z_iadd 429 C dL_law_429 ?_
  refine l_sld 430 C hX hbl (9 * n + 4) (izn (by omega)) (by omega) hL dL_law_430 ?_
  refine v_eqi (iZ (xs (9 * n + 4)).toInt) (iZ_of _).symm ?_
  obtain ⟨RR, b2, hU, hcl, hmo⟩ := pr_place (l := l) (D := D) (kc := kc) (ad := ad) hg hN hI hC hE (r32_of (xs (9 * n + 1))) (r32_of (xs (9 * n + 2))) (r32_of (xs (9 * n + 3))) (r32_of (xs (9 * n + 4)))
  refine v_calli 431 hA (rV_Pg 431 C L_RL_41 lk_382 lk_383 (hcl) (vg.o hg) rfl ⟨rfl, rfl⟩ (rm_law rfl (by omega) (by omega)) dL_law_431) (fun r1 w2 h3 => ?_)
  obtain ⟨R1, hR1, e_R1, N2, ad2, S2, t2, rfl, hN2, had2, hC2, hE2, hI2, hM2⟩ := h3
  refine v_eqi (iZ R1) e_R1 ?_
  have hMk := hM.keep hM2 hI
  refine v_eqlv [(3, .int (iZ (9 * (n : Int)))), (2, .ref (ad2 45)), (1, .ref (ad2 0)), (0, .ref b0)] (by rw [had2 45 (by decide), had2 0 (by decide)]) ?_
  have hm : vm N2 := by show 66 ≤ N2; omega
  refine v_aload_n 434 1 C dL_law_434 rfl ?_
  refine v_aload_n 435 3 C dL_law_435 rfl ?_
  refine v_iload_n 436 0 C dL_law_436 rfl ?_
  refine v_iconst 437 C (iZ 1) dL_law_437 rfl ?_
  refine z_iadd 438 C dL_law_438 ?_
  refine l_sld 439 C hX hbl (9 * n + 1) (izn (by omega)) (by omega) hL dL_law_439 ?_
  refine v_eqi (iZ (xs (9 * n + 1)).toInt) (iZ_of _).symm ?_
  refine v_aload_n 440 3 C dL_law_440 rfl ?_
  refine v_iload_n 441 0 C dL_law_441 rfl ?_
  refine v_iconst 442 C (iZ 2) dL_law_442 rfl ?_
  refine z_iadd 443 C dL_law_443 ?_
  refine l_sld 444 C hX hbl (9 * n + 2) (izn (by omega)) (by omega) hL dL_law_444 ?_
  refine v_eqi (iZ (xs (9 * n + 2)).toInt) (iZ_of _).symm ?_
  refine v_aload_n 445 3 C dL_law_445 rfl ?_
  refine v_iload_n 446 0 C dL_law_446 rfl ?_
  refine v_iconst 447 C (iZ 3) dL_law_447 rfl ?_
  refine z_iadd 448 C dL_law_448 ?_
  refine l_sld 449 C hX hbl (9 * n + 3) (izn (by omega)) (by omega) hL dL_law_449 ?_
  refine v_eqi (iZ (xs (9 * n + 3)).toInt) (iZ_of _).symm ?_
  refine v_aload_n 450 3 C dL_law_450 rfl ?_
  refine v_iload_n 451 0 C dL_law_451 rfl ?_
  refine v_iconst 452 C (iZ 4) dL_law_452 rfl ?_
  refine z_iadd 453 C dL_law_453 ?_
  refine l_sld 454 C hX hbl (9 * n + 4) (izn (by omega)) (by omega) hL dL_law_454 ?_
  refine v_eqi (iZ (xs (9 * n + 4)).toInt) (iZ_of _).symm ?_
  refine v_calli 455 hA (rV_Mo 455 C L_RL_45 lk_686 lk_687 (hmo N2 ad2 S2 hm hMk) (vm.o hm) rfl ⟨rfl, rfl⟩ (rm_law rfl (by omega) (by omega)) dL_law_455) (fun r4 w5 h6 => ?_)
  obtain ⟨R2, hR2, e_R2, S3, rfl, hM3, hs3⟩ := h6
  refine v_eqi (iZ R2) e_R2 ?_
  have eR : R1 = R2 := hU R1 R2 hR1 hR2
  subst eR
  refine v_icmp_eq 458 847 C dL_law_458 (by decide) (fun c458_0 => ?_) (fun c458_0 => absurd (rfl) c458_0)
  refine v_iinc 847 0 (iZ (9 * ((n + 1 : Nat) : Int))) [(3, .int (iZ (9 * ((n + 1 : Nat) : Int)))), (2, .ref (ad2 45)), (1, .ref (ad2 0)), (0, .ref b0)] C dL_law_847 rfl ((iZ_add _ 9).trans (congrArg iZ (by omega))) (by decide) rfl ?_
  refine v_goto 850 18 C dL_law_850 (by decide) ?_
  refine v_sub [0, 1, 2, 3] rfl ?_
  refine v_wid (k := 66 + 15 * (n + 1)) (n := 2000 + 184 * (n + 1)) (by omega) (by omega) ?_
  exact K N2 ad2 S3 b2 t2 hN2 hI2 (hC2.keep hs3) hE2 hM3
set_option maxHeartbeats 4000000 in
set_option maxRecDepth 100000 in
theorem lw_miss {p : Program} {l : Launch} {e : Env} {s : State} {m : MethodId} {below : List Frame} {meth : Method} {c : Code} {b0 L : Nat} {xs : Nat → Int32} {D : va_G} {kc : Nat → ClassId} {n N : Nat} {ad : Nat → Nat} {S : St} {b : Bs} {t : Ts} (C : Cx p s m #[Value.ref b0] meth c cL_law RL 4 ret D kc) (hX : va_X b0 L xs s s.heap) (hbl : b0 < s.heap.size) (hL : L ≤ 4608) (hn : 9 * n + 9 ≤ L) (hN : N = 66 + 15 * bn b) (hI : Inv b) (hC : RC S b t) (hE : LE b t) (hM : RM S b) (K : LWK p l e s m below meth c b0 D kc (n + 1)) : VL p l e s m below meth c b0 D (66 + 15 * n) (2000 + 184 * n) (wl kc N ad S) 463 [(3, .int (iZ (9 * (n : Int)))), (2, .ref (ad 45)), (1, .ref (ad 0)), (0, .ref b0)] [] := by
  have hg : vg N := by show 45 ≤ N; omega
  have hA : ∀ q, s.heap.size ≤ q → (fun q => s.heap.size ≤ q) q := fun _ h => h
  refine v_aload_n 463 2 C dL_law_463 rfl ?_
  refine v_aload_n 464 3 C dL_law_464 rfl ?_
  refine v_iload_n 465 0 C dL_law_465 rfl ?_
  refine v_iconst 466 C (iZ 1) dL_law_466 rfl ?_
  refine z_iadd 467 C dL_law_467 ?_
  refine l_sld 468 C hX hbl (9 * n + 1) (izn (by omega)) (by omega) hL dL_law_468 ?_
  refine v_eqi (iZ (xs (9 * n + 1)).toInt) (iZ_of _).symm ?_
  refine v_aload_n 469 3 C dL_law_469 rfl ?_
  refine v_iload_n 470 0 C dL_law_470 rfl ?_
  refine v_iconst 471 C (iZ 2) dL_law_471 rfl ?_
  refine z_iadd 472 C dL_law_472 ?_
  refine l_sld 473 C hX hbl (9 * n + 2) (izn (by omega)) (by omega) hL dL_law_473 ?_
  refine v_eqi (iZ (xs (9 * n + 2)).toInt) (iZ_of _).symm ?_
  obtain ⟨RR, b2, hU, hcl, hmo⟩ := pr_miss (l := l) (D := D) (kc := kc) (ad := ad) hg hN hI hC hE (r32_of (xs (9 * n + 1))) (r32_of (xs (9 * n + 2)))
  refine v_calli 474 hA (rV_Pg 474 C L_RL_46 lk_386 lk_387 (hcl) (vg.o hg) rfl ⟨rfl, rfl⟩ (rm_law rfl (by omega) (by omega)) dL_law_474) (fun r1 w2 h3 => ?_)
  obtain ⟨R1, hR1, e_R1, N2, ad2, S2, t2, rfl, hN2, had2, hC2, hE2, hI2, hM2⟩ := h3
  refine v_eqi (iZ R1) e_R1 ?_
  have hMk := hM.keep hM2 hI
  refine v_eqlv [(3, .int (iZ (9 * (n : Int)))), (2, .ref (ad2 45)), (1, .ref (ad2 0)), (0, .ref b0)] (by rw [had2 45 (by decide), had2 0 (by decide)]) ?_
  have hm : vm N2 := by show 66 ≤ N2; omega
  refine v_aload_n 477 1 C dL_law_477 rfl ?_
  refine v_aload_n 478 3 C dL_law_478 rfl ?_
  refine v_iload_n 479 0 C dL_law_479 rfl ?_
  refine v_iconst 480 C (iZ 1) dL_law_480 rfl ?_
  refine z_iadd 481 C dL_law_481 ?_
  refine l_sld 482 C hX hbl (9 * n + 1) (izn (by omega)) (by omega) hL dL_law_482 ?_
  refine v_eqi (iZ (xs (9 * n + 1)).toInt) (iZ_of _).symm ?_
  refine v_aload_n 483 3 C dL_law_483 rfl ?_
  refine v_iload_n 484 0 C dL_law_484 rfl ?_
  refine v_iconst 485 C (iZ 2) dL_law_485 rfl ?_
  refine z_iadd 486 C dL_law_486 ?_
  refine l_sld 487 C hX hbl (9 * n + 2) (izn (by omega)) (by omega) hL dL_law_487 ?_
  refine v_eqi (iZ (xs (9 * n + 2)).toInt) (iZ_of _).symm ?_
  refine v_calli 488 hA (rV_Mo 488 C L_RL_50 lk_690 lk_691 (hmo N2 ad2 S2 hm hMk) (vm.o hm) rfl ⟨rfl, rfl⟩ (rm_law rfl (by omega) (by omega)) dL_law_488) (fun r4 w5 h6 => ?_)
  obtain ⟨R2, hR2, e_R2, S3, rfl, hM3, hs3⟩ := h6
  refine v_eqi (iZ R2) e_R2 ?_
  have eR : R1 = R2 := hU R1 R2 hR1 hR2
  subst eR
  refine v_icmp_eq 491 847 C dL_law_491 (by decide) (fun c491_0 => ?_) (fun c491_0 => absurd (rfl) c491_0)
  refine v_iinc 847 0 (iZ (9 * ((n + 1 : Nat) : Int))) [(3, .int (iZ (9 * ((n + 1 : Nat) : Int)))), (2, .ref (ad2 45)), (1, .ref (ad2 0)), (0, .ref b0)] C dL_law_847 rfl ((iZ_add _ 9).trans (congrArg iZ (by omega))) (by decide) rfl ?_
  refine v_goto 850 18 C dL_law_850 (by decide) ?_
  refine v_sub [0, 1, 2, 3] rfl ?_
  refine v_wid (k := 66 + 15 * (n + 1)) (n := 2000 + 184 * (n + 1)) (by omega) (by omega) ?_
  exact K N2 ad2 S3 b2 t2 hN2 hI2 (hC2.keep hs3) hE2 hM3
set_option maxHeartbeats 4000000 in
set_option maxRecDepth 100000 in
theorem lw_stuck {p : Program} {l : Launch} {e : Env} {s : State} {m : MethodId} {below : List Frame} {meth : Method} {c : Code} {b0 L : Nat} {xs : Nat → Int32} {D : va_G} {kc : Nat → ClassId} {n N : Nat} {ad : Nat → Nat} {S : St} {b : Bs} {t : Ts} (C : Cx p s m #[Value.ref b0] meth c cL_law RL 4 ret D kc) (hX : va_X b0 L xs s s.heap) (hbl : b0 < s.heap.size) (hL : L ≤ 4608) (hn : 9 * n + 9 ≤ L) (hN : N = 66 + 15 * bn b) (hI : Inv b) (hC : RC S b t) (hE : LE b t) (hM : RM S b) (K : LWK p l e s m below meth c b0 D kc (n + 1)) : VL p l e s m below meth c b0 D (66 + 15 * n) (2000 + 184 * n) (wl kc N ad S) 496 [(3, .int (iZ (9 * (n : Int)))), (2, .ref (ad 45)), (1, .ref (ad 0)), (0, .ref b0)] [] := by
  have hg : vg N := by show 45 ≤ N; omega
  have hA : ∀ q, s.heap.size ≤ q → (fun q => s.heap.size ≤ q) q := fun _ h => h
  refine v_aload_n 496 2 C dL_law_496 rfl ?_
  refine v_aload_n 497 3 C dL_law_497 rfl ?_
  refine v_iload_n 498 0 C dL_law_498 rfl ?_
  refine v_iconst 499 C (iZ 1) dL_law_499 rfl ?_
  refine z_iadd 500 C dL_law_500 ?_
  refine l_sld 501 C hX hbl (9 * n + 1) (izn (by omega)) (by omega) hL dL_law_501 ?_
  refine v_eqi (iZ (xs (9 * n + 1)).toInt) (iZ_of _).symm ?_
  obtain ⟨RR, b2, hU, hcl, hmo⟩ := pr_stuck (l := l) (D := D) (kc := kc) (ad := ad) hg hN hI hC hE (r32_of (xs (9 * n + 1)))
  refine v_calli 502 hA (rV_Pg 502 C L_RL_51 lk_398 lk_399 (hcl) (vg.o hg) rfl ⟨rfl, rfl⟩ (rm_law rfl (by omega) (by omega)) dL_law_502) (fun r1 w2 h3 => ?_)
  obtain ⟨R1, hR1, e_R1, N2, ad2, S2, t2, rfl, hN2, had2, hC2, hE2, hI2, hM2⟩ := h3
  refine v_eqi (iZ R1) e_R1 ?_
  have hMk := hM.keep hM2 hI
  refine v_eqlv [(3, .int (iZ (9 * (n : Int)))), (2, .ref (ad2 45)), (1, .ref (ad2 0)), (0, .ref b0)] (by rw [had2 45 (by decide), had2 0 (by decide)]) ?_
  have hm : vm N2 := by show 66 ≤ N2; omega
  refine v_aload_n 505 1 C dL_law_505 rfl ?_
  refine v_aload_n 506 3 C dL_law_506 rfl ?_
  refine v_iload_n 507 0 C dL_law_507 rfl ?_
  refine v_iconst 508 C (iZ 1) dL_law_508 rfl ?_
  refine z_iadd 509 C dL_law_509 ?_
  refine l_sld 510 C hX hbl (9 * n + 1) (izn (by omega)) (by omega) hL dL_law_510 ?_
  refine v_eqi (iZ (xs (9 * n + 1)).toInt) (iZ_of _).symm ?_
  refine v_calli 511 hA (rV_Mo 511 C L_RL_54 lk_701 lk_702 (hmo N2 ad2 S2 hm hMk) (vm.o hm) rfl ⟨rfl, rfl⟩ (rm_law rfl (by omega) (by omega)) dL_law_511) (fun r4 w5 h6 => ?_)
  obtain ⟨R2, hR2, e_R2, S3, rfl, hM3, hs3⟩ := h6
  refine v_eqi (iZ R2) e_R2 ?_
  have eR : R1 = R2 := hU R1 R2 hR1 hR2
  subst eR
  refine v_icmp_eq 514 847 C dL_law_514 (by decide) (fun c514_0 => ?_) (fun c514_0 => absurd (rfl) c514_0)
  refine v_iinc 847 0 (iZ (9 * ((n + 1 : Nat) : Int))) [(3, .int (iZ (9 * ((n + 1 : Nat) : Int)))), (2, .ref (ad2 45)), (1, .ref (ad2 0)), (0, .ref b0)] C dL_law_847 rfl ((iZ_add _ 9).trans (congrArg iZ (by omega))) (by decide) rfl ?_
  refine v_goto 850 18 C dL_law_850 (by decide) ?_
  refine v_sub [0, 1, 2, 3] rfl ?_
  refine v_wid (k := 66 + 15 * (n + 1)) (n := 2000 + 184 * (n + 1)) (by omega) (by omega) ?_
  exact K N2 ad2 S3 b2 t2 hN2 hI2 (hC2.keep hs3) hE2 hM3
set_option maxHeartbeats 4000000 in
set_option maxRecDepth 100000 in
theorem lw_out {p : Program} {l : Launch} {e : Env} {s : State} {m : MethodId} {below : List Frame} {meth : Method} {c : Code} {b0 L : Nat} {xs : Nat → Int32} {D : va_G} {kc : Nat → ClassId} {n N : Nat} {ad : Nat → Nat} {S : St} {b : Bs} {t : Ts} (C : Cx p s m #[Value.ref b0] meth c cL_law RL 4 ret D kc) (hX : va_X b0 L xs s s.heap) (hbl : b0 < s.heap.size) (hL : L ≤ 4608) (hn : 9 * n + 9 ≤ L) (hN : N = 66 + 15 * bn b) (hI : Inv b) (hC : RC S b t) (hE : LE b t) (hM : RM S b) (K : LWK p l e s m below meth c b0 D kc (n + 1)) : VL p l e s m below meth c b0 D (66 + 15 * n) (2000 + 184 * n) (wl kc N ad S) 519 [(3, .int (iZ (9 * (n : Int)))), (2, .ref (ad 45)), (1, .ref (ad 0)), (0, .ref b0)] [] := by
  have hg : vg N := by show 45 ≤ N; omega
  have hA : ∀ q, s.heap.size ≤ q → (fun q => s.heap.size ≤ q) q := fun _ h => h
  refine v_aload_n 519 2 C dL_law_519 rfl ?_
  refine v_aload_n 520 3 C dL_law_520 rfl ?_
  refine v_iload_n 521 0 C dL_law_521 rfl ?_
  refine v_iconst 522 C (iZ 1) dL_law_522 rfl ?_
  refine z_iadd 523 C dL_law_523 ?_
  refine l_sld 524 C hX hbl (9 * n + 1) (izn (by omega)) (by omega) hL dL_law_524 ?_
  refine v_eqi (iZ (xs (9 * n + 1)).toInt) (iZ_of _).symm ?_
  obtain ⟨RR, b2, hU, hcl, hmo⟩ := pr_out (l := l) (D := D) (kc := kc) (ad := ad) hg hN hI hC hE (r32_of (xs (9 * n + 1)))
  refine v_calli 525 hA (rV_Pg 525 C L_RL_55 lk_406 lk_407 (hcl) (vg.o hg) rfl ⟨rfl, rfl⟩ (rm_law rfl (by omega) (by omega)) dL_law_525) (fun r1 w2 h3 => ?_)
  obtain ⟨R1, hR1, e_R1, N2, ad2, S2, t2, rfl, hN2, had2, hC2, hE2, hI2, hM2⟩ := h3
  refine v_eqi (iZ R1) e_R1 ?_
  have hMk := hM.keep hM2 hI
  refine v_eqlv [(3, .int (iZ (9 * (n : Int)))), (2, .ref (ad2 45)), (1, .ref (ad2 0)), (0, .ref b0)] (by rw [had2 45 (by decide), had2 0 (by decide)]) ?_
  have hm : vm N2 := by show 66 ≤ N2; omega
  refine v_aload_n 528 1 C dL_law_528 rfl ?_
  refine v_aload_n 529 3 C dL_law_529 rfl ?_
  refine v_iload_n 530 0 C dL_law_530 rfl ?_
  refine v_iconst 531 C (iZ 1) dL_law_531 rfl ?_
  refine z_iadd 532 C dL_law_532 ?_
  refine l_sld 533 C hX hbl (9 * n + 1) (izn (by omega)) (by omega) hL dL_law_533 ?_
  refine v_eqi (iZ (xs (9 * n + 1)).toInt) (iZ_of _).symm ?_
  refine v_calli 534 hA (rV_Mo 534 C L_RL_58 lk_709 lk_710 (hmo N2 ad2 S2 hm hMk) (vm.o hm) rfl ⟨rfl, rfl⟩ (rm_law rfl (by omega) (by omega)) dL_law_534) (fun r4 w5 h6 => ?_)
  obtain ⟨R2, hR2, e_R2, S3, rfl, hM3, hs3⟩ := h6
  refine v_eqi (iZ R2) e_R2 ?_
  have eR : R1 = R2 := hU R1 R2 hR1 hR2
  subst eR
  refine v_icmp_eq 537 847 C dL_law_537 (by decide) (fun c537_0 => ?_) (fun c537_0 => absurd (rfl) c537_0)
  refine v_iinc 847 0 (iZ (9 * ((n + 1 : Nat) : Int))) [(3, .int (iZ (9 * ((n + 1 : Nat) : Int)))), (2, .ref (ad2 45)), (1, .ref (ad2 0)), (0, .ref b0)] C dL_law_847 rfl ((iZ_add _ 9).trans (congrArg iZ (by omega))) (by decide) rfl ?_
  refine v_goto 850 18 C dL_law_850 (by decide) ?_
  refine v_sub [0, 1, 2, 3] rfl ?_
  refine v_wid (k := 66 + 15 * (n + 1)) (n := 2000 + 184 * (n + 1)) (by omega) (by omega) ?_
  exact K N2 ad2 S3 b2 t2 hN2 hI2 (hC2.keep hs3) hE2 hM3
set_option maxHeartbeats 4000000 in
set_option maxRecDepth 100000 in
theorem lw_meet {p : Program} {l : Launch} {e : Env} {s : State} {m : MethodId} {below : List Frame} {meth : Method} {c : Code} {b0 L : Nat} {xs : Nat → Int32} {D : va_G} {kc : Nat → ClassId} {n N : Nat} {ad : Nat → Nat} {S : St} {b : Bs} {t : Ts} (C : Cx p s m #[Value.ref b0] meth c cL_law RL 4 ret D kc) (hX : va_X b0 L xs s s.heap) (hbl : b0 < s.heap.size) (hL : L ≤ 4608) (hn : 9 * n + 9 ≤ L) (hN : N = 66 + 15 * bn b) (hI : Inv b) (hC : RC S b t) (hE : LE b t) (hM : RM S b) (K : LWK p l e s m below meth c b0 D kc (n + 1)) : VL p l e s m below meth c b0 D (66 + 15 * n) (2000 + 184 * n) (wl kc N ad S) 542 [(3, .int (iZ (9 * (n : Int)))), (2, .ref (ad 45)), (1, .ref (ad 0)), (0, .ref b0)] [] := by
  have hg : vg N := by show 45 ≤ N; omega
  have hA : ∀ q, s.heap.size ≤ q → (fun q => s.heap.size ≤ q) q := fun _ h => h
  refine v_aload_n 542 2 C dL_law_542 rfl ?_
  refine v_aload_n 543 3 C dL_law_543 rfl ?_
  refine v_iload_n 544 0 C dL_law_544 rfl ?_
  refine v_iconst 545 C (iZ 1) dL_law_545 rfl ?_
  refine z_iadd 546 C dL_law_546 ?_
  refine l_sld 547 C hX hbl (9 * n + 1) (izn (by omega)) (by omega) hL dL_law_547 ?_
  refine v_eqi (iZ (xs (9 * n + 1)).toInt) (iZ_of _).symm ?_
  refine v_aload_n 548 3 C dL_law_548 rfl ?_
  refine v_iload_n 549 0 C dL_law_549 rfl ?_
  refine v_iconst 550 C (iZ 2) dL_law_550 rfl ?_
  refine z_iadd 551 C dL_law_551 ?_
  refine l_sld 552 C hX hbl (9 * n + 2) (izn (by omega)) (by omega) hL dL_law_552 ?_
  refine v_eqi (iZ (xs (9 * n + 2)).toInt) (iZ_of _).symm ?_
  refine v_aload_n 553 3 C dL_law_553 rfl ?_
  refine v_iload_n 554 0 C dL_law_554 rfl ?_
  refine v_iconst 555 C (iZ 3) dL_law_555 rfl ?_
  refine z_iadd 556 C dL_law_556 ?_
  refine l_sld 557 C hX hbl (9 * n + 3) (izn (by omega)) (by omega) hL dL_law_557 ?_
  refine v_eqi (iZ (xs (9 * n + 3)).toInt) (iZ_of _).symm ?_
  obtain ⟨RR, b2, hU, hcl, hmo⟩ := pr_meet (l := l) (D := D) (kc := kc) (ad := ad) hg hN hI hC hE (r32_of (xs (9 * n + 1))) (r32_of (xs (9 * n + 2))) (r32_of (xs (9 * n + 3)))
  refine v_calli 558 hA (rV_Pg 558 C L_RL_59 lk_417 lk_418 (hcl) (vg.o hg) rfl ⟨rfl, rfl⟩ (rm_law rfl (by omega) (by omega)) dL_law_558) (fun r1 w2 h3 => ?_)
  obtain ⟨R1, hR1, e_R1, N2, ad2, S2, t2, rfl, hN2, had2, hC2, hE2, hI2, hM2⟩ := h3
  refine v_eqi (iZ R1) e_R1 ?_
  have hMk := hM.keep hM2 hI
  refine v_eqlv [(3, .int (iZ (9 * (n : Int)))), (2, .ref (ad2 45)), (1, .ref (ad2 0)), (0, .ref b0)] (by rw [had2 45 (by decide), had2 0 (by decide)]) ?_
  have hm : vm N2 := by show 66 ≤ N2; omega
  refine v_aload_n 561 1 C dL_law_561 rfl ?_
  refine v_aload_n 562 3 C dL_law_562 rfl ?_
  refine v_iload_n 563 0 C dL_law_563 rfl ?_
  refine v_iconst 564 C (iZ 1) dL_law_564 rfl ?_
  refine z_iadd 565 C dL_law_565 ?_
  refine l_sld 566 C hX hbl (9 * n + 1) (izn (by omega)) (by omega) hL dL_law_566 ?_
  refine v_eqi (iZ (xs (9 * n + 1)).toInt) (iZ_of _).symm ?_
  refine v_aload_n 567 3 C dL_law_567 rfl ?_
  refine v_iload_n 568 0 C dL_law_568 rfl ?_
  refine v_iconst 569 C (iZ 2) dL_law_569 rfl ?_
  refine z_iadd 570 C dL_law_570 ?_
  refine l_sld 571 C hX hbl (9 * n + 2) (izn (by omega)) (by omega) hL dL_law_571 ?_
  refine v_eqi (iZ (xs (9 * n + 2)).toInt) (iZ_of _).symm ?_
  refine v_aload_n 572 3 C dL_law_572 rfl ?_
  refine v_iload_n 573 0 C dL_law_573 rfl ?_
  refine v_iconst 574 C (iZ 3) dL_law_574 rfl ?_
  refine z_iadd 575 C dL_law_575 ?_
  refine l_sld 576 C hX hbl (9 * n + 3) (izn (by omega)) (by omega) hL dL_law_576 ?_
  refine v_eqi (iZ (xs (9 * n + 3)).toInt) (iZ_of _).symm ?_
  refine v_calli 577 hA (rV_Mo 577 C L_RL_62 lk_717 lk_718 (hmo N2 ad2 S2 hm hMk) (vm.o hm) rfl ⟨rfl, rfl⟩ (rm_law rfl (by omega) (by omega)) dL_law_577) (fun r4 w5 h6 => ?_)
  obtain ⟨R2, hR2, e_R2, S3, rfl, hM3, hs3⟩ := h6
  refine v_eqi (iZ R2) e_R2 ?_
  have eR : R1 = R2 := hU R1 R2 hR1 hR2
  subst eR
  refine v_icmp_eq 580 847 C dL_law_580 (by decide) (fun c580_0 => ?_) (fun c580_0 => absurd (rfl) c580_0)
  refine v_iinc 847 0 (iZ (9 * ((n + 1 : Nat) : Int))) [(3, .int (iZ (9 * ((n + 1 : Nat) : Int)))), (2, .ref (ad2 45)), (1, .ref (ad2 0)), (0, .ref b0)] C dL_law_847 rfl ((iZ_add _ 9).trans (congrArg iZ (by omega))) (by decide) rfl ?_
  refine v_goto 850 18 C dL_law_850 (by decide) ?_
  refine v_sub [0, 1, 2, 3] rfl ?_
  refine v_wid (k := 66 + 15 * (n + 1)) (n := 2000 + 184 * (n + 1)) (by omega) (by omega) ?_
  exact K N2 ad2 S3 b2 t2 hN2 hI2 (hC2.keep hs3) hE2 hM3
set_option maxHeartbeats 4000000 in
set_option maxRecDepth 100000 in
theorem lw_meets {p : Program} {l : Launch} {e : Env} {s : State} {m : MethodId} {below : List Frame} {meth : Method} {c : Code} {b0 L : Nat} {xs : Nat → Int32} {D : va_G} {kc : Nat → ClassId} {n N : Nat} {ad : Nat → Nat} {S : St} {b : Bs} {t : Ts} (C : Cx p s m #[Value.ref b0] meth c cL_law RL 4 ret D kc) (hX : va_X b0 L xs s s.heap) (hbl : b0 < s.heap.size) (hL : L ≤ 4608) (hn : 9 * n + 9 ≤ L) (hN : N = 66 + 15 * bn b) (hI : Inv b) (hC : RC S b t) (hE : LE b t) (hM : RM S b) (K : LWK p l e s m below meth c b0 D kc (n + 1)) : VL p l e s m below meth c b0 D (66 + 15 * n) (2000 + 184 * n) (wl kc N ad S) 585 [(3, .int (iZ (9 * (n : Int)))), (2, .ref (ad 45)), (1, .ref (ad 0)), (0, .ref b0)] [] := by
  have hg : vg N := by show 45 ≤ N; omega
  have hA : ∀ q, s.heap.size ≤ q → (fun q => s.heap.size ≤ q) q := fun _ h => h
  refine v_aload_n 585 2 C dL_law_585 rfl ?_
  refine v_aload_n 586 3 C dL_law_586 rfl ?_
  refine v_iload_n 587 0 C dL_law_587 rfl ?_
  refine v_iconst 588 C (iZ 1) dL_law_588 rfl ?_
  refine z_iadd 589 C dL_law_589 ?_
  refine l_sld 590 C hX hbl (9 * n + 1) (izn (by omega)) (by omega) hL dL_law_590 ?_
  refine v_eqi (iZ (xs (9 * n + 1)).toInt) (iZ_of _).symm ?_
  obtain ⟨RR, b2, hU, hcl, hmo⟩ := pr_meets (l := l) (D := D) (kc := kc) (ad := ad) hg hN hI hC hE (r32_of (xs (9 * n + 1)))
  refine v_calli 591 hA (rV_Pg 591 C L_RL_63 lk_433 lk_434 (hcl) (vg.o hg) rfl ⟨rfl, rfl⟩ (rm_law rfl (by omega) (by omega)) dL_law_591) (fun r1 w2 h3 => ?_)
  obtain ⟨R1, hR1, e_R1, N2, ad2, S2, t2, rfl, hN2, had2, hC2, hE2, hI2, hM2⟩ := h3
  refine v_eqi (iZ R1) e_R1 ?_
  have hMk := hM.keep hM2 hI
  refine v_eqlv [(3, .int (iZ (9 * (n : Int)))), (2, .ref (ad2 45)), (1, .ref (ad2 0)), (0, .ref b0)] (by rw [had2 45 (by decide), had2 0 (by decide)]) ?_
  have hm : vm N2 := by show 66 ≤ N2; omega
  refine v_aload_n 594 1 C dL_law_594 rfl ?_
  refine v_aload_n 595 3 C dL_law_595 rfl ?_
  refine v_iload_n 596 0 C dL_law_596 rfl ?_
  refine v_iconst 597 C (iZ 1) dL_law_597 rfl ?_
  refine z_iadd 598 C dL_law_598 ?_
  refine l_sld 599 C hX hbl (9 * n + 1) (izn (by omega)) (by omega) hL dL_law_599 ?_
  refine v_eqi (iZ (xs (9 * n + 1)).toInt) (iZ_of _).symm ?_
  refine v_calli 600 hA (rV_Mo 600 C L_RL_66 lk_741 lk_742 (hmo N2 ad2 S2 hm hMk) (vm.o hm) rfl ⟨rfl, rfl⟩ (rm_law rfl (by omega) (by omega)) dL_law_600) (fun r4 w5 h6 => ?_)
  obtain ⟨R2, hR2, e_R2, S3, rfl, hM3, hs3⟩ := h6
  refine v_eqi (iZ R2) e_R2 ?_
  have eR : R1 = R2 := hU R1 R2 hR1 hR2
  subst eR
  refine v_icmp_eq 603 847 C dL_law_603 (by decide) (fun c603_0 => ?_) (fun c603_0 => absurd (rfl) c603_0)
  refine v_iinc 847 0 (iZ (9 * ((n + 1 : Nat) : Int))) [(3, .int (iZ (9 * ((n + 1 : Nat) : Int)))), (2, .ref (ad2 45)), (1, .ref (ad2 0)), (0, .ref b0)] C dL_law_847 rfl ((iZ_add _ 9).trans (congrArg iZ (by omega))) (by decide) rfl ?_
  refine v_goto 850 18 C dL_law_850 (by decide) ?_
  refine v_sub [0, 1, 2, 3] rfl ?_
  refine v_wid (k := 66 + 15 * (n + 1)) (n := 2000 + 184 * (n + 1)) (by omega) (by omega) ?_
  exact K N2 ad2 S3 b2 t2 hN2 hI2 (hC2.keep hs3) hE2 hM3
set_option maxHeartbeats 4000000 in
set_option maxRecDepth 100000 in
theorem lw_tall {p : Program} {l : Launch} {e : Env} {s : State} {m : MethodId} {below : List Frame} {meth : Method} {c : Code} {b0 L : Nat} {xs : Nat → Int32} {D : va_G} {kc : Nat → ClassId} {n N : Nat} {ad : Nat → Nat} {S : St} {b : Bs} {t : Ts} (C : Cx p s m #[Value.ref b0] meth c cL_law RL 4 ret D kc) (hX : va_X b0 L xs s s.heap) (hbl : b0 < s.heap.size) (hL : L ≤ 4608) (hn : 9 * n + 9 ≤ L) (hN : N = 66 + 15 * bn b) (hI : Inv b) (hC : RC S b t) (hE : LE b t) (hM : RM S b) (K : LWK p l e s m below meth c b0 D kc (n + 1)) : VL p l e s m below meth c b0 D (66 + 15 * n) (2000 + 184 * n) (wl kc N ad S) 608 [(3, .int (iZ (9 * (n : Int)))), (2, .ref (ad 45)), (1, .ref (ad 0)), (0, .ref b0)] [] := by
  have hg : vg N := by show 45 ≤ N; omega
  have hA : ∀ q, s.heap.size ≤ q → (fun q => s.heap.size ≤ q) q := fun _ h => h
  refine v_aload_n 608 2 C dL_law_608 rfl ?_
  refine v_aload_n 609 3 C dL_law_609 rfl ?_
  refine v_iload_n 610 0 C dL_law_610 rfl ?_
  refine v_iconst 611 C (iZ 1) dL_law_611 rfl ?_
  refine z_iadd 612 C dL_law_612 ?_
  refine l_sld 613 C hX hbl (9 * n + 1) (izn (by omega)) (by omega) hL dL_law_613 ?_
  refine v_eqi (iZ (xs (9 * n + 1)).toInt) (iZ_of _).symm ?_
  obtain ⟨RR, b2, hU, hcl, hmo⟩ := pr_tall (l := l) (D := D) (kc := kc) (ad := ad) hg hN hI hC hE (r32_of (xs (9 * n + 1)))
  refine v_calli 614 hA (rV_Pg 614 C L_RL_67 lk_445 lk_446 (hcl) (vg.o hg) rfl ⟨rfl, rfl⟩ (rm_law rfl (by omega) (by omega)) dL_law_614) (fun r1 w2 h3 => ?_)
  obtain ⟨R1, hR1, e_R1, N2, ad2, S2, t2, rfl, hN2, had2, hC2, hE2, hI2, hM2⟩ := h3
  refine v_eqi (iZ R1) e_R1 ?_
  have hMk := hM.keep hM2 hI
  refine v_eqlv [(3, .int (iZ (9 * (n : Int)))), (2, .ref (ad2 45)), (1, .ref (ad2 0)), (0, .ref b0)] (by rw [had2 45 (by decide), had2 0 (by decide)]) ?_
  have hm : vm N2 := by show 66 ≤ N2; omega
  refine v_aload_n 617 1 C dL_law_617 rfl ?_
  refine v_aload_n 618 3 C dL_law_618 rfl ?_
  refine v_iload_n 619 0 C dL_law_619 rfl ?_
  refine v_iconst 620 C (iZ 1) dL_law_620 rfl ?_
  refine z_iadd 621 C dL_law_621 ?_
  refine l_sld 622 C hX hbl (9 * n + 1) (izn (by omega)) (by omega) hL dL_law_622 ?_
  refine v_eqi (iZ (xs (9 * n + 1)).toInt) (iZ_of _).symm ?_
  refine v_calli 623 hA (rV_Mo 623 C L_RL_70 lk_745 lk_746 (hmo N2 ad2 S2 hm hMk) (vm.o hm) rfl ⟨rfl, rfl⟩ (rm_law rfl (by omega) (by omega)) dL_law_623) (fun r4 w5 h6 => ?_)
  obtain ⟨R2, hR2, e_R2, S3, rfl, hM3, hs3⟩ := h6
  refine v_eqi (iZ R2) e_R2 ?_
  have eR : R1 = R2 := hU R1 R2 hR1 hR2
  subst eR
  refine v_icmp_eq 626 847 C dL_law_626 (by decide) (fun c626_0 => ?_) (fun c626_0 => absurd (rfl) c626_0)
  refine v_iinc 847 0 (iZ (9 * ((n + 1 : Nat) : Int))) [(3, .int (iZ (9 * ((n + 1 : Nat) : Int)))), (2, .ref (ad2 45)), (1, .ref (ad2 0)), (0, .ref b0)] C dL_law_847 rfl ((iZ_add _ 9).trans (congrArg iZ (by omega))) (by decide) rfl ?_
  refine v_goto 850 18 C dL_law_850 (by decide) ?_
  refine v_sub [0, 1, 2, 3] rfl ?_
  refine v_wid (k := 66 + 15 * (n + 1)) (n := 2000 + 184 * (n + 1)) (by omega) (by omega) ?_
  exact K N2 ad2 S3 b2 t2 hN2 hI2 (hC2.keep hs3) hE2 hM3
set_option maxHeartbeats 4000000 in
set_option maxRecDepth 100000 in
theorem lw_move {p : Program} {l : Launch} {e : Env} {s : State} {m : MethodId} {below : List Frame} {meth : Method} {c : Code} {b0 L : Nat} {xs : Nat → Int32} {D : va_G} {kc : Nat → ClassId} {n N : Nat} {ad : Nat → Nat} {S : St} {b : Bs} {t : Ts} (C : Cx p s m #[Value.ref b0] meth c cL_law RL 4 ret D kc) (hX : va_X b0 L xs s s.heap) (hbl : b0 < s.heap.size) (hL : L ≤ 4608) (hn : 9 * n + 9 ≤ L) (hN : N = 66 + 15 * bn b) (hI : Inv b) (hC : RC S b t) (hE : LE b t) (hM : RM S b) (K : LWK p l e s m below meth c b0 D kc (n + 1)) : VL p l e s m below meth c b0 D (66 + 15 * n) (2000 + 184 * n) (wl kc N ad S) 631 [(3, .int (iZ (9 * (n : Int)))), (2, .ref (ad 45)), (1, .ref (ad 0)), (0, .ref b0)] [] := by
  have hg : vg N := by show 45 ≤ N; omega
  have hA : ∀ q, s.heap.size ≤ q → (fun q => s.heap.size ≤ q) q := fun _ h => h
  refine v_aload_n 631 2 C dL_law_631 rfl ?_
  refine v_aload_n 632 3 C dL_law_632 rfl ?_
  refine v_iload_n 633 0 C dL_law_633 rfl ?_
  refine v_iconst 634 C (iZ 1) dL_law_634 rfl ?_
  refine z_iadd 635 C dL_law_635 ?_
  refine l_sld 636 C hX hbl (9 * n + 1) (izn (by omega)) (by omega) hL dL_law_636 ?_
  refine v_eqi (iZ (xs (9 * n + 1)).toInt) (iZ_of _).symm ?_
  refine v_aload_n 637 3 C dL_law_637 rfl ?_
  refine v_iload_n 638 0 C dL_law_638 rfl ?_
  refine v_iconst 639 C (iZ 2) dL_law_639 rfl ?_
  refine z_iadd 640 C dL_law_640 ?_
  refine l_sld 641 C hX hbl (9 * n + 2) (izn (by omega)) (by omega) hL dL_law_641 ?_
  refine v_eqi (iZ (xs (9 * n + 2)).toInt) (iZ_of _).symm ?_
  obtain ⟨RR, b2, hU, hcl, hmo⟩ := pr_move (l := l) (D := D) (kc := kc) (ad := ad) hg hN hI hC hE (r32_of (xs (9 * n + 1))) (r32_of (xs (9 * n + 2)))
  refine v_calli 642 hA (rV_Pg 642 C L_RL_71 lk_456 lk_457 (hcl) (vg.o hg) rfl ⟨rfl, rfl⟩ (rm_law rfl (by omega) (by omega)) dL_law_642) (fun r1 w2 h3 => ?_)
  obtain ⟨R1, hR1, e_R1, N2, ad2, S2, t2, rfl, hN2, had2, hC2, hE2, hI2, hM2⟩ := h3
  refine v_eqi (iZ R1) e_R1 ?_
  have hMk := hM.keep hM2 hI
  refine v_eqlv [(3, .int (iZ (9 * (n : Int)))), (2, .ref (ad2 45)), (1, .ref (ad2 0)), (0, .ref b0)] (by rw [had2 45 (by decide), had2 0 (by decide)]) ?_
  have hm : vm N2 := by show 66 ≤ N2; omega
  refine v_aload_n 645 1 C dL_law_645 rfl ?_
  refine v_aload_n 646 3 C dL_law_646 rfl ?_
  refine v_iload_n 647 0 C dL_law_647 rfl ?_
  refine v_iconst 648 C (iZ 1) dL_law_648 rfl ?_
  refine z_iadd 649 C dL_law_649 ?_
  refine l_sld 650 C hX hbl (9 * n + 1) (izn (by omega)) (by omega) hL dL_law_650 ?_
  refine v_eqi (iZ (xs (9 * n + 1)).toInt) (iZ_of _).symm ?_
  refine v_aload_n 651 3 C dL_law_651 rfl ?_
  refine v_iload_n 652 0 C dL_law_652 rfl ?_
  refine v_iconst 653 C (iZ 2) dL_law_653 rfl ?_
  refine z_iadd 654 C dL_law_654 ?_
  refine l_sld 655 C hX hbl (9 * n + 2) (izn (by omega)) (by omega) hL dL_law_655 ?_
  refine v_eqi (iZ (xs (9 * n + 2)).toInt) (iZ_of _).symm ?_
  refine v_calli 656 hA (rV_Mo 656 C L_RL_74 lk_749 lk_750 (hmo N2 ad2 S2 hm hMk) (vm.o hm) rfl ⟨rfl, rfl⟩ (rm_law rfl (by omega) (by omega)) dL_law_656) (fun r4 w5 h6 => ?_)
  obtain ⟨R2, hR2, e_R2, S3, rfl, hM3, hs3⟩ := h6
  refine v_eqi (iZ R2) e_R2 ?_
  have eR : R1 = R2 := hU R1 R2 hR1 hR2
  subst eR
  refine v_icmp_eq 659 847 C dL_law_659 (by decide) (fun c659_0 => ?_) (fun c659_0 => absurd (rfl) c659_0)
  refine v_iinc 847 0 (iZ (9 * ((n + 1 : Nat) : Int))) [(3, .int (iZ (9 * ((n + 1 : Nat) : Int)))), (2, .ref (ad2 45)), (1, .ref (ad2 0)), (0, .ref b0)] C dL_law_847 rfl ((iZ_add _ 9).trans (congrArg iZ (by omega))) (by decide) rfl ?_
  refine v_goto 850 18 C dL_law_850 (by decide) ?_
  refine v_sub [0, 1, 2, 3] rfl ?_
  refine v_wid (k := 66 + 15 * (n + 1)) (n := 2000 + 184 * (n + 1)) (by omega) (by omega) ?_
  exact K N2 ad2 S3 b2 t2 hN2 hI2 (hC2.keep hs3) hE2 hM3
set_option maxHeartbeats 4000000 in
set_option maxRecDepth 100000 in
theorem lw_greatest {p : Program} {l : Launch} {e : Env} {s : State} {m : MethodId} {below : List Frame} {meth : Method} {c : Code} {b0 L : Nat} {xs : Nat → Int32} {D : va_G} {kc : Nat → ClassId} {n N : Nat} {ad : Nat → Nat} {S : St} {b : Bs} {t : Ts} (C : Cx p s m #[Value.ref b0] meth c cL_law RL 4 ret D kc) (hX : va_X b0 L xs s s.heap) (hbl : b0 < s.heap.size) (hL : L ≤ 4608) (hn : 9 * n + 9 ≤ L) (hN : N = 66 + 15 * bn b) (hI : Inv b) (hC : RC S b t) (hE : LE b t) (hM : RM S b) (K : LWK p l e s m below meth c b0 D kc (n + 1)) : VL p l e s m below meth c b0 D (66 + 15 * n) (2000 + 184 * n) (wl kc N ad S) 664 [(3, .int (iZ (9 * (n : Int)))), (2, .ref (ad 45)), (1, .ref (ad 0)), (0, .ref b0)] [] := by
  have hg : vg N := by show 45 ≤ N; omega
  have hA : ∀ q, s.heap.size ≤ q → (fun q => s.heap.size ≤ q) q := fun _ h => h
  refine v_aload_n 664 2 C dL_law_664 rfl ?_
  obtain ⟨RR, b2, hU, hcl, hmo⟩ := pr_greatest (l := l) (D := D) (kc := kc) (ad := ad) hg hN hI hC hE 
  refine v_calli 665 hA (rV_Pg 665 C L_RL_75 lk_466 lk_467 (hcl) (vg.o hg) rfl ⟨rfl, rfl⟩ (rm_law rfl (by omega) (by omega)) dL_law_665) (fun r1 w2 h3 => ?_)
  obtain ⟨R1, hR1, e_R1, N2, ad2, S2, t2, rfl, hN2, had2, hC2, hE2, hI2, hM2⟩ := h3
  refine v_eqi (iZ R1) e_R1 ?_
  have hMk := hM.keep hM2 hI
  refine v_eqlv [(3, .int (iZ (9 * (n : Int)))), (2, .ref (ad2 45)), (1, .ref (ad2 0)), (0, .ref b0)] (by rw [had2 45 (by decide), had2 0 (by decide)]) ?_
  have hm : vm N2 := by show 66 ≤ N2; omega
  refine v_aload_n 668 1 C dL_law_668 rfl ?_
  refine v_calli 669 hA (rV_Mo 669 C L_RL_79 lk_763 lk_764 (hmo N2 ad2 S2 hm hMk) (vm.o hm) rfl ⟨rfl, rfl⟩ (rm_law rfl (by omega) (by omega)) dL_law_669) (fun r4 w5 h6 => ?_)
  obtain ⟨R2, hR2, e_R2, S3, rfl, hM3, hs3⟩ := h6
  refine v_eqi (iZ R2) e_R2 ?_
  have eR : R1 = R2 := hU R1 R2 hR1 hR2
  subst eR
  refine v_icmp_eq 672 847 C dL_law_672 (by decide) (fun c672_0 => ?_) (fun c672_0 => absurd (rfl) c672_0)
  refine v_iinc 847 0 (iZ (9 * ((n + 1 : Nat) : Int))) [(3, .int (iZ (9 * ((n + 1 : Nat) : Int)))), (2, .ref (ad2 45)), (1, .ref (ad2 0)), (0, .ref b0)] C dL_law_847 rfl ((iZ_add _ 9).trans (congrArg iZ (by omega))) (by decide) rfl ?_
  refine v_goto 850 18 C dL_law_850 (by decide) ?_
  refine v_sub [0, 1, 2, 3] rfl ?_
  refine v_wid (k := 66 + 15 * (n + 1)) (n := 2000 + 184 * (n + 1)) (by omega) (by omega) ?_
  exact K N2 ad2 S3 b2 t2 hN2 hI2 (hC2.keep hs3) hE2 hM3
set_option maxHeartbeats 4000000 in
set_option maxRecDepth 100000 in
theorem lw_find {p : Program} {l : Launch} {e : Env} {s : State} {m : MethodId} {below : List Frame} {meth : Method} {c : Code} {b0 L : Nat} {xs : Nat → Int32} {D : va_G} {kc : Nat → ClassId} {n N : Nat} {ad : Nat → Nat} {S : St} {b : Bs} {t : Ts} (C : Cx p s m #[Value.ref b0] meth c cL_law RL 4 ret D kc) (hX : va_X b0 L xs s s.heap) (hbl : b0 < s.heap.size) (hL : L ≤ 4608) (hn : 9 * n + 9 ≤ L) (hN : N = 66 + 15 * bn b) (hI : Inv b) (hC : RC S b t) (hE : LE b t) (hM : RM S b) (K : LWK p l e s m below meth c b0 D kc (n + 1)) : VL p l e s m below meth c b0 D (66 + 15 * n) (2000 + 184 * n) (wl kc N ad S) 677 [(3, .int (iZ (9 * (n : Int)))), (2, .ref (ad 45)), (1, .ref (ad 0)), (0, .ref b0)] [] := by
  have hg : vg N := by show 45 ≤ N; omega
  have hA : ∀ q, s.heap.size ≤ q → (fun q => s.heap.size ≤ q) q := fun _ h => h
  refine v_aload_n 677 2 C dL_law_677 rfl ?_
  refine v_aload_n 678 3 C dL_law_678 rfl ?_
  refine v_iload_n 679 0 C dL_law_679 rfl ?_
  refine v_iconst 680 C (iZ 1) dL_law_680 rfl ?_
  refine z_iadd 681 C dL_law_681 ?_
  refine l_sld 682 C hX hbl (9 * n + 1) (izn (by omega)) (by omega) hL dL_law_682 ?_
  refine v_eqi (iZ (xs (9 * n + 1)).toInt) (iZ_of _).symm ?_
  refine v_aload_n 683 3 C dL_law_683 rfl ?_
  refine v_iload_n 684 0 C dL_law_684 rfl ?_
  refine v_iconst 685 C (iZ 2) dL_law_685 rfl ?_
  refine z_iadd 686 C dL_law_686 ?_
  refine l_sld 687 C hX hbl (9 * n + 2) (izn (by omega)) (by omega) hL dL_law_687 ?_
  refine v_eqi (iZ (xs (9 * n + 2)).toInt) (iZ_of _).symm ?_
  refine z_if_eq 688 695 C (r32_of _) dL_law_688 (by decide) (fun cb => ?_) (fun cb => ?_)
  · skip
    refine v_iconst 695 C (iZ 0) dL_law_695 rfl ?_
    refine v_aload_n 696 3 C dL_law_696 rfl ?_
    refine v_iload_n 697 0 C dL_law_697 rfl ?_
    refine v_iconst 698 C (iZ 3) dL_law_698 rfl ?_
    refine z_iadd 699 C dL_law_699 ?_
    refine l_sld 700 C hX hbl (9 * n + 3) (izn (by omega)) (by omega) hL dL_law_700 ?_
    refine v_eqi (iZ (xs (9 * n + 3)).toInt) (iZ_of _).symm ?_
    refine v_aload_n 701 3 C dL_law_701 rfl ?_
    refine v_iload_n 702 0 C dL_law_702 rfl ?_
    refine v_iconst 703 C (iZ 4) dL_law_703 rfl ?_
    refine z_iadd 704 C dL_law_704 ?_
    refine l_sld 705 C hX hbl (9 * n + 4) (izn (by omega)) (by omega) hL dL_law_705 ?_
    refine v_eqi (iZ (xs (9 * n + 4)).toInt) (iZ_of _).symm ?_
    refine v_aload_n 706 3 C dL_law_706 rfl ?_
    refine v_iload_n 707 0 C dL_law_707 rfl ?_
    refine v_iconst 708 C (iZ 5) dL_law_708 rfl ?_
    refine z_iadd 709 C dL_law_709 ?_
    refine l_sld 710 C hX hbl (9 * n + 5) (izn (by omega)) (by omega) hL dL_law_710 ?_
    refine v_eqi (iZ (xs (9 * n + 5)).toInt) (iZ_of _).symm ?_
    refine v_aload_n 711 3 C dL_law_711 rfl ?_
    refine v_iload_n 712 0 C dL_law_712 rfl ?_
    refine v_bipush 713 C (iZ 6) dL_law_713 (by decide) ?_
    refine z_iadd 715 C dL_law_715 ?_
    refine l_sld 716 C hX hbl (9 * n + 6) (izn (by omega)) (by omega) hL dL_law_716 ?_
    refine v_eqi (iZ (xs (9 * n + 6)).toInt) (iZ_of _).symm ?_
    obtain ⟨RR, b2, hU, hcl, hmo⟩ := pr_find (l := l) (D := D) (kc := kc) (ad := ad) hg hN hI hC hE (r32_of (xs (9 * n + 1))) (Or.inl rfl) (r32_of (xs (9 * n + 3))) (r32_of (xs (9 * n + 4))) (r32_of (xs (9 * n + 5))) (r32_of (xs (9 * n + 6)))
    refine v_calli 717 hA (rV_Pg 717 C L_RL_80 lk_470 lk_471 (hcl) (vg.o hg) rfl ⟨rfl, rfl⟩ (rm_law rfl (by omega) (by omega)) dL_law_717) (fun r1 w2 h3 => ?_)
    obtain ⟨R1, hR1, e_R1, N2, ad2, S2, t2, rfl, hN2, had2, hC2, hE2, hI2, hM2⟩ := h3
    refine v_eqi (iZ R1) e_R1 ?_
    have hMk := hM.keep hM2 hI
    refine v_eqlv [(3, .int (iZ (9 * (n : Int)))), (2, .ref (ad2 45)), (1, .ref (ad2 0)), (0, .ref b0)] (by rw [had2 45 (by decide), had2 0 (by decide)]) ?_
    have hm : vm N2 := by show 66 ≤ N2; omega
    refine v_aload_n 720 1 C dL_law_720 rfl ?_
    refine v_aload_n 721 3 C dL_law_721 rfl ?_
    refine v_iload_n 722 0 C dL_law_722 rfl ?_
    refine v_iconst 723 C (iZ 1) dL_law_723 rfl ?_
    refine z_iadd 724 C dL_law_724 ?_
    refine l_sld 725 C hX hbl (9 * n + 1) (izn (by omega)) (by omega) hL dL_law_725 ?_
    refine v_eqi (iZ (xs (9 * n + 1)).toInt) (iZ_of _).symm ?_
    refine v_aload_n 726 3 C dL_law_726 rfl ?_
    refine v_iload_n 727 0 C dL_law_727 rfl ?_
    refine v_iconst 728 C (iZ 2) dL_law_728 rfl ?_
    refine z_iadd 729 C dL_law_729 ?_
    refine l_sld 730 C hX hbl (9 * n + 2) (izn (by omega)) (by omega) hL dL_law_730 ?_
    refine v_eqi (iZ (xs (9 * n + 2)).toInt) (iZ_of _).symm ?_
    refine z_if_eq 731 738 C (r32_of _) dL_law_731 (by decide) (fun c731_1 => ?_) (fun c731_1 => absurd (cb) c731_1)
    refine v_iconst 738 C (iZ 0) dL_law_738 rfl ?_
    refine v_aload_n 739 3 C dL_law_739 rfl ?_
    refine v_iload_n 740 0 C dL_law_740 rfl ?_
    refine v_iconst 741 C (iZ 3) dL_law_741 rfl ?_
    refine z_iadd 742 C dL_law_742 ?_
    refine l_sld 743 C hX hbl (9 * n + 3) (izn (by omega)) (by omega) hL dL_law_743 ?_
    refine v_eqi (iZ (xs (9 * n + 3)).toInt) (iZ_of _).symm ?_
    refine v_aload_n 744 3 C dL_law_744 rfl ?_
    refine v_iload_n 745 0 C dL_law_745 rfl ?_
    refine v_iconst 746 C (iZ 4) dL_law_746 rfl ?_
    refine z_iadd 747 C dL_law_747 ?_
    refine l_sld 748 C hX hbl (9 * n + 4) (izn (by omega)) (by omega) hL dL_law_748 ?_
    refine v_eqi (iZ (xs (9 * n + 4)).toInt) (iZ_of _).symm ?_
    refine v_aload_n 749 3 C dL_law_749 rfl ?_
    refine v_iload_n 750 0 C dL_law_750 rfl ?_
    refine v_iconst 751 C (iZ 5) dL_law_751 rfl ?_
    refine z_iadd 752 C dL_law_752 ?_
    refine l_sld 753 C hX hbl (9 * n + 5) (izn (by omega)) (by omega) hL dL_law_753 ?_
    refine v_eqi (iZ (xs (9 * n + 5)).toInt) (iZ_of _).symm ?_
    refine v_aload_n 754 3 C dL_law_754 rfl ?_
    refine v_iload_n 755 0 C dL_law_755 rfl ?_
    refine v_bipush 756 C (iZ 6) dL_law_756 (by decide) ?_
    refine z_iadd 758 C dL_law_758 ?_
    refine l_sld 759 C hX hbl (9 * n + 6) (izn (by omega)) (by omega) hL dL_law_759 ?_
    refine v_eqi (iZ (xs (9 * n + 6)).toInt) (iZ_of _).symm ?_
    refine v_calli 760 hA (rV_Mo 760 C L_RL_84 lk_767 lk_768 (hmo N2 ad2 S2 hm hMk) (vm.o hm) rfl ⟨rfl, rfl⟩ (rm_law rfl (by omega) (by omega)) dL_law_760) (fun r4 w5 h6 => ?_)
    obtain ⟨R2, hR2, e_R2, S3, rfl, hM3, hs3⟩ := h6
    refine v_eqi (iZ R2) e_R2 ?_
    have eR : R1 = R2 := hU R1 R2 hR1 hR2
    subst eR
    refine v_icmp_eq 763 847 C dL_law_763 (by decide) (fun c763_2 => ?_) (fun c763_2 => absurd (rfl) c763_2)
    refine v_iinc 847 0 (iZ (9 * ((n + 1 : Nat) : Int))) [(3, .int (iZ (9 * ((n + 1 : Nat) : Int)))), (2, .ref (ad2 45)), (1, .ref (ad2 0)), (0, .ref b0)] C dL_law_847 rfl ((iZ_add _ 9).trans (congrArg iZ (by omega))) (by decide) rfl ?_
    refine v_goto 850 18 C dL_law_850 (by decide) ?_
    refine v_sub [0, 1, 2, 3] rfl ?_
    refine v_wid (k := 66 + 15 * (n + 1)) (n := 2000 + 184 * (n + 1)) (by omega) (by omega) ?_
    exact K N2 ad2 S3 b2 t2 hN2 hI2 (hC2.keep hs3) hE2 hM3
  · skip
    refine v_iconst 691 C (iZ 1) dL_law_691 rfl ?_
    refine v_goto 692 696 C dL_law_692 (by decide) ?_
    refine v_aload_n 696 3 C dL_law_696 rfl ?_
    refine v_iload_n 697 0 C dL_law_697 rfl ?_
    refine v_iconst 698 C (iZ 3) dL_law_698 rfl ?_
    refine z_iadd 699 C dL_law_699 ?_
    refine l_sld 700 C hX hbl (9 * n + 3) (izn (by omega)) (by omega) hL dL_law_700 ?_
    refine v_eqi (iZ (xs (9 * n + 3)).toInt) (iZ_of _).symm ?_
    refine v_aload_n 701 3 C dL_law_701 rfl ?_
    refine v_iload_n 702 0 C dL_law_702 rfl ?_
    refine v_iconst 703 C (iZ 4) dL_law_703 rfl ?_
    refine z_iadd 704 C dL_law_704 ?_
    refine l_sld 705 C hX hbl (9 * n + 4) (izn (by omega)) (by omega) hL dL_law_705 ?_
    refine v_eqi (iZ (xs (9 * n + 4)).toInt) (iZ_of _).symm ?_
    refine v_aload_n 706 3 C dL_law_706 rfl ?_
    refine v_iload_n 707 0 C dL_law_707 rfl ?_
    refine v_iconst 708 C (iZ 5) dL_law_708 rfl ?_
    refine z_iadd 709 C dL_law_709 ?_
    refine l_sld 710 C hX hbl (9 * n + 5) (izn (by omega)) (by omega) hL dL_law_710 ?_
    refine v_eqi (iZ (xs (9 * n + 5)).toInt) (iZ_of _).symm ?_
    refine v_aload_n 711 3 C dL_law_711 rfl ?_
    refine v_iload_n 712 0 C dL_law_712 rfl ?_
    refine v_bipush 713 C (iZ 6) dL_law_713 (by decide) ?_
    refine z_iadd 715 C dL_law_715 ?_
    refine l_sld 716 C hX hbl (9 * n + 6) (izn (by omega)) (by omega) hL dL_law_716 ?_
    refine v_eqi (iZ (xs (9 * n + 6)).toInt) (iZ_of _).symm ?_
    obtain ⟨RR, b2, hU, hcl, hmo⟩ := pr_find (l := l) (D := D) (kc := kc) (ad := ad) hg hN hI hC hE (r32_of (xs (9 * n + 1))) (Or.inr rfl) (r32_of (xs (9 * n + 3))) (r32_of (xs (9 * n + 4))) (r32_of (xs (9 * n + 5))) (r32_of (xs (9 * n + 6)))
    refine v_calli 717 hA (rV_Pg 717 C L_RL_80 lk_470 lk_471 (hcl) (vg.o hg) rfl ⟨rfl, rfl⟩ (rm_law rfl (by omega) (by omega)) dL_law_717) (fun r7 w8 h9 => ?_)
    obtain ⟨R1, hR1, e_R1, N2, ad2, S2, t2, rfl, hN2, had2, hC2, hE2, hI2, hM2⟩ := h9
    refine v_eqi (iZ R1) e_R1 ?_
    have hMk := hM.keep hM2 hI
    refine v_eqlv [(3, .int (iZ (9 * (n : Int)))), (2, .ref (ad2 45)), (1, .ref (ad2 0)), (0, .ref b0)] (by rw [had2 45 (by decide), had2 0 (by decide)]) ?_
    have hm : vm N2 := by show 66 ≤ N2; omega
    refine v_aload_n 720 1 C dL_law_720 rfl ?_
    refine v_aload_n 721 3 C dL_law_721 rfl ?_
    refine v_iload_n 722 0 C dL_law_722 rfl ?_
    refine v_iconst 723 C (iZ 1) dL_law_723 rfl ?_
    refine z_iadd 724 C dL_law_724 ?_
    refine l_sld 725 C hX hbl (9 * n + 1) (izn (by omega)) (by omega) hL dL_law_725 ?_
    refine v_eqi (iZ (xs (9 * n + 1)).toInt) (iZ_of _).symm ?_
    refine v_aload_n 726 3 C dL_law_726 rfl ?_
    refine v_iload_n 727 0 C dL_law_727 rfl ?_
    refine v_iconst 728 C (iZ 2) dL_law_728 rfl ?_
    refine z_iadd 729 C dL_law_729 ?_
    refine l_sld 730 C hX hbl (9 * n + 2) (izn (by omega)) (by omega) hL dL_law_730 ?_
    refine v_eqi (iZ (xs (9 * n + 2)).toInt) (iZ_of _).symm ?_
    refine z_if_eq 731 738 C (r32_of _) dL_law_731 (by decide) (fun c731_1 => absurd c731_1 (cb)) (fun c731_1 => ?_)
    refine v_iconst 734 C (iZ 1) dL_law_734 rfl ?_
    refine v_goto 735 739 C dL_law_735 (by decide) ?_
    refine v_aload_n 739 3 C dL_law_739 rfl ?_
    refine v_iload_n 740 0 C dL_law_740 rfl ?_
    refine v_iconst 741 C (iZ 3) dL_law_741 rfl ?_
    refine z_iadd 742 C dL_law_742 ?_
    refine l_sld 743 C hX hbl (9 * n + 3) (izn (by omega)) (by omega) hL dL_law_743 ?_
    refine v_eqi (iZ (xs (9 * n + 3)).toInt) (iZ_of _).symm ?_
    refine v_aload_n 744 3 C dL_law_744 rfl ?_
    refine v_iload_n 745 0 C dL_law_745 rfl ?_
    refine v_iconst 746 C (iZ 4) dL_law_746 rfl ?_
    refine z_iadd 747 C dL_law_747 ?_
    refine l_sld 748 C hX hbl (9 * n + 4) (izn (by omega)) (by omega) hL dL_law_748 ?_
    refine v_eqi (iZ (xs (9 * n + 4)).toInt) (iZ_of _).symm ?_
    refine v_aload_n 749 3 C dL_law_749 rfl ?_
    refine v_iload_n 750 0 C dL_law_750 rfl ?_
    refine v_iconst 751 C (iZ 5) dL_law_751 rfl ?_
    refine z_iadd 752 C dL_law_752 ?_
    refine l_sld 753 C hX hbl (9 * n + 5) (izn (by omega)) (by omega) hL dL_law_753 ?_
    refine v_eqi (iZ (xs (9 * n + 5)).toInt) (iZ_of _).symm ?_
    refine v_aload_n 754 3 C dL_law_754 rfl ?_
    refine v_iload_n 755 0 C dL_law_755 rfl ?_
    refine v_bipush 756 C (iZ 6) dL_law_756 (by decide) ?_
    refine z_iadd 758 C dL_law_758 ?_
    refine l_sld 759 C hX hbl (9 * n + 6) (izn (by omega)) (by omega) hL dL_law_759 ?_
    refine v_eqi (iZ (xs (9 * n + 6)).toInt) (iZ_of _).symm ?_
    refine v_calli 760 hA (rV_Mo 760 C L_RL_84 lk_767 lk_768 (hmo N2 ad2 S2 hm hMk) (vm.o hm) rfl ⟨rfl, rfl⟩ (rm_law rfl (by omega) (by omega)) dL_law_760) (fun r10 w11 h12 => ?_)
    obtain ⟨R2, hR2, e_R2, S3, rfl, hM3, hs3⟩ := h12
    refine v_eqi (iZ R2) e_R2 ?_
    have eR : R1 = R2 := hU R1 R2 hR1 hR2
    subst eR
    refine v_icmp_eq 763 847 C dL_law_763 (by decide) (fun c763_2 => ?_) (fun c763_2 => absurd (rfl) c763_2)
    refine v_iinc 847 0 (iZ (9 * ((n + 1 : Nat) : Int))) [(3, .int (iZ (9 * ((n + 1 : Nat) : Int)))), (2, .ref (ad2 45)), (1, .ref (ad2 0)), (0, .ref b0)] C dL_law_847 rfl ((iZ_add _ 9).trans (congrArg iZ (by omega))) (by decide) rfl ?_
    refine v_goto 850 18 C dL_law_850 (by decide) ?_
    refine v_sub [0, 1, 2, 3] rfl ?_
    refine v_wid (k := 66 + 15 * (n + 1)) (n := 2000 + 184 * (n + 1)) (by omega) (by omega) ?_
    exact K N2 ad2 S3 b2 t2 hN2 hI2 (hC2.keep hs3) hE2 hM3
set_option maxHeartbeats 4000000 in
set_option maxRecDepth 100000 in
theorem lw_even {p : Program} {l : Launch} {e : Env} {s : State} {m : MethodId} {below : List Frame} {meth : Method} {c : Code} {b0 L : Nat} {xs : Nat → Int32} {D : va_G} {kc : Nat → ClassId} {n N : Nat} {ad : Nat → Nat} {S : St} {b : Bs} {t : Ts} (C : Cx p s m #[Value.ref b0] meth c cL_law RL 4 ret D kc) (hX : va_X b0 L xs s s.heap) (hbl : b0 < s.heap.size) (hL : L ≤ 4608) (hn : 9 * n + 9 ≤ L) (hN : N = 66 + 15 * bn b) (hI : Inv b) (hC : RC S b t) (hE : LE b t) (hM : RM S b) (K : LWK p l e s m below meth c b0 D kc (n + 1)) : VL p l e s m below meth c b0 D (66 + 15 * n) (2000 + 184 * n) (wl kc N ad S) 768 [(3, .int (iZ (9 * (n : Int)))), (2, .ref (ad 45)), (1, .ref (ad 0)), (0, .ref b0)] [] := by
  have hg : vg N := by show 45 ≤ N; omega
  have hA : ∀ q, s.heap.size ≤ q → (fun q => s.heap.size ≤ q) q := fun _ h => h
  refine v_aload_n 768 2 C dL_law_768 rfl ?_
  refine v_aload_n 769 3 C dL_law_769 rfl ?_
  refine v_iload_n 770 0 C dL_law_770 rfl ?_
  refine v_iconst 771 C (iZ 1) dL_law_771 rfl ?_
  refine z_iadd 772 C dL_law_772 ?_
  refine l_sld 773 C hX hbl (9 * n + 1) (izn (by omega)) (by omega) hL dL_law_773 ?_
  refine v_eqi (iZ (xs (9 * n + 1)).toInt) (iZ_of _).symm ?_
  obtain ⟨RR, b2, hU, hcl, hmo⟩ := pr_even (l := l) (D := D) (kc := kc) (ad := ad) hg hN hI hC hE (r32_of (xs (9 * n + 1)))
  refine v_calli 774 hA (rV_Pg 774 C L_RL_85 lk_478 lk_479 (hcl) (vg.o hg) rfl ⟨rfl, rfl⟩ (rm_law rfl (by omega) (by omega)) dL_law_774) (fun r1 w2 h3 => ?_)
  obtain ⟨R1, hR1, e_R1, N2, ad2, S2, t2, rfl, hN2, had2, hC2, hE2, hI2, hM2⟩ := h3
  refine v_eqi (iZ R1) e_R1 ?_
  have hMk := hM.keep hM2 hI
  refine v_eqlv [(3, .int (iZ (9 * (n : Int)))), (2, .ref (ad2 45)), (1, .ref (ad2 0)), (0, .ref b0)] (by rw [had2 45 (by decide), had2 0 (by decide)]) ?_
  have hm : vm N2 := by show 66 ≤ N2; omega
  refine v_aload_n 777 1 C dL_law_777 rfl ?_
  refine v_aload_n 778 3 C dL_law_778 rfl ?_
  refine v_iload_n 779 0 C dL_law_779 rfl ?_
  refine v_iconst 780 C (iZ 1) dL_law_780 rfl ?_
  refine z_iadd 781 C dL_law_781 ?_
  refine l_sld 782 C hX hbl (9 * n + 1) (izn (by omega)) (by omega) hL dL_law_782 ?_
  refine v_eqi (iZ (xs (9 * n + 1)).toInt) (iZ_of _).symm ?_
  refine v_calli 783 hA (rV_Mo 783 C L_RL_89 lk_771 lk_772 (hmo N2 ad2 S2 hm hMk) (vm.o hm) rfl ⟨rfl, rfl⟩ (rm_law rfl (by omega) (by omega)) dL_law_783) (fun r4 w5 h6 => ?_)
  obtain ⟨R2, hR2, e_R2, S3, rfl, hM3, hs3⟩ := h6
  refine v_eqi (iZ R2) e_R2 ?_
  have eR : R1 = R2 := hU R1 R2 hR1 hR2
  subst eR
  refine v_icmp_eq 786 847 C dL_law_786 (by decide) (fun c786_0 => ?_) (fun c786_0 => absurd (rfl) c786_0)
  refine v_iinc 847 0 (iZ (9 * ((n + 1 : Nat) : Int))) [(3, .int (iZ (9 * ((n + 1 : Nat) : Int)))), (2, .ref (ad2 45)), (1, .ref (ad2 0)), (0, .ref b0)] C dL_law_847 rfl ((iZ_add _ 9).trans (congrArg iZ (by omega))) (by decide) rfl ?_
  refine v_goto 850 18 C dL_law_850 (by decide) ?_
  refine v_sub [0, 1, 2, 3] rfl ?_
  refine v_wid (k := 66 + 15 * (n + 1)) (n := 2000 + 184 * (n + 1)) (by omega) (by omega) ?_
  exact K N2 ad2 S3 b2 t2 hN2 hI2 (hC2.keep hs3) hE2 hM3
set_option maxHeartbeats 4000000 in
set_option maxRecDepth 100000 in
theorem lw_partOf {p : Program} {l : Launch} {e : Env} {s : State} {m : MethodId} {below : List Frame} {meth : Method} {c : Code} {b0 L : Nat} {xs : Nat → Int32} {D : va_G} {kc : Nat → ClassId} {n N : Nat} {ad : Nat → Nat} {S : St} {b : Bs} {t : Ts} (C : Cx p s m #[Value.ref b0] meth c cL_law RL 4 ret D kc) (hX : va_X b0 L xs s s.heap) (hbl : b0 < s.heap.size) (hL : L ≤ 4608) (hn : 9 * n + 9 ≤ L) (hN : N = 66 + 15 * bn b) (hI : Inv b) (hC : RC S b t) (hE : LE b t) (hM : RM S b) (K : LWK p l e s m below meth c b0 D kc (n + 1)) : VL p l e s m below meth c b0 D (66 + 15 * n) (2000 + 184 * n) (wl kc N ad S) 791 [(3, .int (iZ (9 * (n : Int)))), (2, .ref (ad 45)), (1, .ref (ad 0)), (0, .ref b0)] [] := by
  have hg : vg N := by show 45 ≤ N; omega
  have hA : ∀ q, s.heap.size ≤ q → (fun q => s.heap.size ≤ q) q := fun _ h => h
  refine v_aload_n 791 2 C dL_law_791 rfl ?_
  refine v_aload_n 792 3 C dL_law_792 rfl ?_
  refine v_iload_n 793 0 C dL_law_793 rfl ?_
  refine v_iconst 794 C (iZ 1) dL_law_794 rfl ?_
  refine z_iadd 795 C dL_law_795 ?_
  refine l_sld 796 C hX hbl (9 * n + 1) (izn (by omega)) (by omega) hL dL_law_796 ?_
  refine v_eqi (iZ (xs (9 * n + 1)).toInt) (iZ_of _).symm ?_
  refine v_aload_n 797 3 C dL_law_797 rfl ?_
  refine v_iload_n 798 0 C dL_law_798 rfl ?_
  refine v_iconst 799 C (iZ 2) dL_law_799 rfl ?_
  refine z_iadd 800 C dL_law_800 ?_
  refine l_sld 801 C hX hbl (9 * n + 2) (izn (by omega)) (by omega) hL dL_law_801 ?_
  refine v_eqi (iZ (xs (9 * n + 2)).toInt) (iZ_of _).symm ?_
  obtain ⟨RR, b2, hU, hcl, hmo⟩ := pr_partOf (l := l) (D := D) (kc := kc) (ad := ad) hg hN hI hC hE (r32_of (xs (9 * n + 1))) (r32_of (xs (9 * n + 2)))
  refine v_calli 802 hA (rV_Pg 802 C L_RL_90 lk_482 lk_483 (hcl) (vg.o hg) rfl ⟨rfl, rfl⟩ (rm_law rfl (by omega) (by omega)) dL_law_802) (fun r1 w2 h3 => ?_)
  obtain ⟨R1, hR1, e_R1, N2, ad2, S2, t2, rfl, hN2, had2, hC2, hE2, hI2, hM2⟩ := h3
  refine v_eqi (iZ R1) e_R1 ?_
  have hMk := hM.keep hM2 hI
  refine v_eqlv [(3, .int (iZ (9 * (n : Int)))), (2, .ref (ad2 45)), (1, .ref (ad2 0)), (0, .ref b0)] (by rw [had2 45 (by decide), had2 0 (by decide)]) ?_
  have hm : vm N2 := by show 66 ≤ N2; omega
  refine v_aload_n 805 1 C dL_law_805 rfl ?_
  refine v_aload_n 806 3 C dL_law_806 rfl ?_
  refine v_iload_n 807 0 C dL_law_807 rfl ?_
  refine v_iconst 808 C (iZ 1) dL_law_808 rfl ?_
  refine z_iadd 809 C dL_law_809 ?_
  refine l_sld 810 C hX hbl (9 * n + 1) (izn (by omega)) (by omega) hL dL_law_810 ?_
  refine v_eqi (iZ (xs (9 * n + 1)).toInt) (iZ_of _).symm ?_
  refine v_aload_n 811 3 C dL_law_811 rfl ?_
  refine v_iload_n 812 0 C dL_law_812 rfl ?_
  refine v_iconst 813 C (iZ 2) dL_law_813 rfl ?_
  refine z_iadd 814 C dL_law_814 ?_
  refine l_sld 815 C hX hbl (9 * n + 2) (izn (by omega)) (by omega) hL dL_law_815 ?_
  refine v_eqi (iZ (xs (9 * n + 2)).toInt) (iZ_of _).symm ?_
  refine v_calli 816 hA (rV_Mo 816 C L_RL_93 lk_775 lk_776 (hmo N2 ad2 S2 hm hMk) (vm.o hm) rfl ⟨rfl, rfl⟩ (rm_law rfl (by omega) (by omega)) dL_law_816) (fun r4 w5 h6 => ?_)
  obtain ⟨R2, hR2, e_R2, S3, rfl, hM3, hs3⟩ := h6
  refine v_eqi (iZ R2) e_R2 ?_
  have eR : R1 = R2 := hU R1 R2 hR1 hR2
  subst eR
  refine v_icmp_eq 819 847 C dL_law_819 (by decide) (fun c819_0 => ?_) (fun c819_0 => absurd (rfl) c819_0)
  refine v_iinc 847 0 (iZ (9 * ((n + 1 : Nat) : Int))) [(3, .int (iZ (9 * ((n + 1 : Nat) : Int)))), (2, .ref (ad2 45)), (1, .ref (ad2 0)), (0, .ref b0)] C dL_law_847 rfl ((iZ_add _ 9).trans (congrArg iZ (by omega))) (by decide) rfl ?_
  refine v_goto 850 18 C dL_law_850 (by decide) ?_
  refine v_sub [0, 1, 2, 3] rfl ?_
  refine v_wid (k := 66 + 15 * (n + 1)) (n := 2000 + 184 * (n + 1)) (by omega) (by omega) ?_
  exact K N2 ad2 S3 b2 t2 hN2 hI2 (hC2.keep hs3) hE2 hM3
set_option maxHeartbeats 4000000 in
set_option maxRecDepth 100000 in
theorem lw_count {p : Program} {l : Launch} {e : Env} {s : State} {m : MethodId} {below : List Frame} {meth : Method} {c : Code} {b0 L : Nat} {xs : Nat → Int32} {D : va_G} {kc : Nat → ClassId} {n N : Nat} {ad : Nat → Nat} {S : St} {b : Bs} {t : Ts} (C : Cx p s m #[Value.ref b0] meth c cL_law RL 4 ret D kc) (hX : va_X b0 L xs s s.heap) (hbl : b0 < s.heap.size) (hL : L ≤ 4608) (hn : 9 * n + 9 ≤ L) (hN : N = 66 + 15 * bn b) (hI : Inv b) (hC : RC S b t) (hE : LE b t) (hM : RM S b) (K : LWK p l e s m below meth c b0 D kc (n + 1)) : VL p l e s m below meth c b0 D (66 + 15 * n) (2000 + 184 * n) (wl kc N ad S) 824 [(3, .int (iZ (9 * (n : Int)))), (2, .ref (ad 45)), (1, .ref (ad 0)), (0, .ref b0)] [] := by
  have hg : vg N := by show 45 ≤ N; omega
  have hA : ∀ q, s.heap.size ≤ q → (fun q => s.heap.size ≤ q) q := fun _ h => h
  refine v_aload_n 824 2 C dL_law_824 rfl ?_
  refine v_aload_n 825 3 C dL_law_825 rfl ?_
  refine v_iload_n 826 0 C dL_law_826 rfl ?_
  refine v_iconst 827 C (iZ 1) dL_law_827 rfl ?_
  refine z_iadd 828 C dL_law_828 ?_
  refine l_sld 829 C hX hbl (9 * n + 1) (izn (by omega)) (by omega) hL dL_law_829 ?_
  refine v_eqi (iZ (xs (9 * n + 1)).toInt) (iZ_of _).symm ?_
  obtain ⟨RR, b2, hU, hcl, hmo⟩ := pr_count (l := l) (D := D) (kc := kc) (ad := ad) hg hN hI hC hE (r32_of (xs (9 * n + 1)))
  refine v_calli 830 hA (rV_Pg 830 C L_RL_94 lk_486 lk_487 (hcl) (vg.o hg) rfl ⟨rfl, rfl⟩ (rm_law rfl (by omega) (by omega)) dL_law_830) (fun r1 w2 h3 => ?_)
  obtain ⟨R1, hR1, e_R1, N2, ad2, S2, t2, rfl, hN2, had2, hC2, hE2, hI2, hM2⟩ := h3
  refine v_eqi (iZ R1) e_R1 ?_
  have hMk := hM.keep hM2 hI
  refine v_eqlv [(3, .int (iZ (9 * (n : Int)))), (2, .ref (ad2 45)), (1, .ref (ad2 0)), (0, .ref b0)] (by rw [had2 45 (by decide), had2 0 (by decide)]) ?_
  have hm : vm N2 := by show 66 ≤ N2; omega
  refine v_aload_n 833 1 C dL_law_833 rfl ?_
  refine v_aload_n 834 3 C dL_law_834 rfl ?_
  refine v_iload_n 835 0 C dL_law_835 rfl ?_
  refine v_iconst 836 C (iZ 1) dL_law_836 rfl ?_
  refine z_iadd 837 C dL_law_837 ?_
  refine l_sld 838 C hX hbl (9 * n + 1) (izn (by omega)) (by omega) hL dL_law_838 ?_
  refine v_eqi (iZ (xs (9 * n + 1)).toInt) (iZ_of _).symm ?_
  refine v_calli 839 hA (rV_Mo 839 C L_RL_97 lk_779 lk_780 (hmo N2 ad2 S2 hm hMk) (vm.o hm) rfl ⟨rfl, rfl⟩ (rm_law rfl (by omega) (by omega)) dL_law_839) (fun r4 w5 h6 => ?_)
  obtain ⟨R2, hR2, e_R2, S3, rfl, hM3, hs3⟩ := h6
  refine v_eqi (iZ R2) e_R2 ?_
  have eR : R1 = R2 := hU R1 R2 hR1 hR2
  subst eR
  refine v_icmp_eq 842 847 C dL_law_842 (by decide) (fun c842_0 => ?_) (fun c842_0 => absurd (rfl) c842_0)
  refine v_iinc 847 0 (iZ (9 * ((n + 1 : Nat) : Int))) [(3, .int (iZ (9 * ((n + 1 : Nat) : Int)))), (2, .ref (ad2 45)), (1, .ref (ad2 0)), (0, .ref b0)] C dL_law_847 rfl ((iZ_add _ 9).trans (congrArg iZ (by omega))) (by decide) rfl ?_
  refine v_goto 850 18 C dL_law_850 (by decide) ?_
  refine v_sub [0, 1, 2, 3] rfl ?_
  refine v_wid (k := 66 + 15 * (n + 1)) (n := 2000 + 184 * (n + 1)) (by omega) (by omega) ?_
  exact K N2 ad2 S3 b2 t2 hN2 hI2 (hC2.keep hs3) hE2 hM3
