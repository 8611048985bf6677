set_option maxHeartbeats 4000000 in
set_option maxRecDepth 100000 in
theorem lw_loop (l : Launch) (D : va_G) (α : gz_P → Nat) (cA : Nat → ClassId) {bb bL : Nat} {xs : Nat → Int32} (hbL : bL ≤ 3072) : ∀ i : Int, i ≤ 3078 → ∀ (c : Int) (I : gz_M), 0 ≤ i → 6 * c = i → gz_R c I → gl_V bb bL xs l D α cA RL cL_law (some .boolean) 4 9 (gz_Qi fun x _ => x = 1) I [some (.ref bb), some (.ref (α (0, 0, 0))), some (.ref (α (20, 0, 0))), some (gz_i i)] [] 18 := by
  refine gz_upto _ ?_
  intro i hi ih c I h0 hc h
  refine gl_iload_n (pc := 18) dL_law_18 rfl ?_
  refine gl_aload_n (pc := 19) dL_law_19 rfl ?_
  refine gl_slen (pc := 20) dL_law_20 ?_
  refine gl_bipush (pc := 21) dL_law_21 rfl ?_
  refine gl_isub (pc := 23) dL_law_23 ?_
  refine gl_icmp_gt (pc := 24) (tgt := 780) dL_law_24 (by decide) (by omega) (by omega) (fun h24 => ?_) (fun h24 => ?_)
  · refine gl_iconst (pc := 780) dL_law_780 ?_
    exact gl_zret (pc := 781) dL_law_781 rfl (Or.inr rfl) rfl
  · have k774 : ∀ I' : gz_M, gz_R (c + 1) I' → gl_V bb bL xs l D α cA RL cL_law (some .boolean) 4 9 (gz_Qi fun x _ => x = 1) I' [some (.ref bb), some (.ref (α (0, 0, 0))), some (.ref (α (20, 0, 0))), some (gz_i i)] [] 774 := fun I' h' => by
      refine gl_iinc (pc := 774) dL_law_774 rfl rfl rfl rfl ?_
      refine gl_goto (pc := 777) (tgt := 18) dL_law_777 (by decide) ?_
      exact ih (i + 6) (by omega) (by omega) (c + 1) I' (by omega) (by omega) h'
    refine gl_aload_n (pc := 27) dL_law_27 rfl ?_
    refine gl_iload_n (pc := 28) dL_law_28 rfl ?_
    refine gl_sld (pc := 29) dL_law_29 hbL (by omega) ?_
    refine gl_bipush (pc := 30) dL_law_30 rfl ?_
    refine gl_iand (pc := 32) dL_law_32 (fun w hw => ?_)
    by_cases hsw : w < 0 ∨ 17 < w
    · refine gl_swOut (pc := 33) (tgt := 774) dL_law_33 (by decide) hw hsw ?_
      exact k774 _ ⟨h.1, h.2.up⟩
    · have hsx : w = 0 ∨ w = 1 ∨ w = 2 ∨ w = 3 ∨ w = 4 ∨ w = 5 ∨ w = 6 ∨ w = 7 ∨ w = 8 ∨ w = 9 ∨ w = 10 ∨ w = 11 ∨ w = 12 ∨ w = 13 ∨ w = 14 ∨ w = 15 ∨ w = 16 ∨ w = 17 := by omega
      rcases hsx with hsx | hsx | hsx | hsx | hsx | hsx | hsx | hsx | hsx | hsx | hsx | hsx | hsx | hsx | hsx | hsx | hsx | hsx
      · refine gl_swIn (pc := 33) (off := 87) (tgt := 120) dL_law_33 0 hsx (by decide) (by decide) (by decide) rfl (by decide) ?_
        refine gl_aload_n (pc := 120) dL_law_120 rfl ?_
        refine gl_aload_n (pc := 121) dL_law_121 rfl ?_
        refine gl_iload_n (pc := 122) dL_law_122 rfl ?_
        refine gl_iconst (pc := 123) dL_law_123 ?_
        refine gl_iadd (pc := 124) dL_law_124 ?_
        refine gl_sld (pc := 125) dL_law_125 hbL (by omega) ?_
        refine gl_aload_n (pc := 126) dL_law_126 rfl ?_
        refine gl_iload_n (pc := 127) dL_law_127 rfl ?_
        refine gl_iconst (pc := 128) dL_law_128 ?_
        refine gl_iadd (pc := 129) dL_law_129 ?_
        refine gl_sld (pc := 130) dL_law_130 hbL (by omega) ?_
        refine gl_aload_n (pc := 131) dL_law_131 rfl ?_
        refine gl_iload_n (pc := 132) dL_law_132 rfl ?_
        refine gl_iconst (pc := 133) dL_law_133 ?_
        refine gl_iadd (pc := 134) dL_law_134 ?_
        refine gl_sld (pc := 135) dL_law_135 hbL (by omega) ?_
        refine gl_aload_n (pc := 136) dL_law_136 rfl ?_
        refine gl_iload_n (pc := 137) dL_law_137 rfl ?_
        refine gl_iconst (pc := 138) dL_law_138 ?_
        refine gl_iadd (pc := 139) dL_law_139 ?_
        refine gl_sld (pc := 140) dL_law_140 hbL (by omega) ?_
        refine gl_i2l (pc := 141) dL_law_141 ?_
        refine gl_bipush (pc := 142) dL_law_142 rfl ?_
        refine gl_lshl (pc := 144) dL_law_144 ?_
        refine gl_aload_n (pc := 145) dL_law_145 rfl ?_
        refine gl_iload_n (pc := 146) dL_law_146 rfl ?_
        refine gl_iconst (pc := 147) dL_law_147 ?_
        refine gl_iadd (pc := 148) dL_law_148 ?_
        refine gl_sld (pc := 149) dL_law_149 hbL (by omega) ?_
        refine gl_i2l (pc := 150) dL_law_150 ?_
        refine gl_ldc2 (pc := 151) dL_law_151 wl_L_13 ?_
        refine gl_land (pc := 154) dL_law_154 ?_
        refine gl_lor (pc := 155) dL_law_155 ?_
        refine gl_cV4i (pc := 156) dL_law_156 wm_L_15 my_X4_insert rfl rfl rfl (by first | exact gz_B1 | (omega)) (ct_X4_insert l D α cA h.1 (gz_rng _) (gz_rng _) (gz_rng _)) (fun x156 I156 h156 => ?_)
        have f1 := fX_insert h.1 h156
        have g1 := h.2.loc h.1 (fun _ _ => rfl) f1.2
        have hnx : 0 ≤ I156 (20, 0, 0) 10 ∧ I156 (20, 0, 0) 10 ≤ 100000 := by
          have u1 := g1.nx
          have u2 := g1.n0
          omega
        refine gl_aload_n (pc := 159) dL_law_159 rfl ?_
        refine gl_aload_n (pc := 160) dL_law_160 rfl ?_
        refine gl_iload_n (pc := 161) dL_law_161 rfl ?_
        refine gl_iconst (pc := 162) dL_law_162 ?_
        refine gl_iadd (pc := 163) dL_law_163 ?_
        refine gl_sld (pc := 164) dL_law_164 hbL (by omega) ?_
        refine gl_aload_n (pc := 165) dL_law_165 rfl ?_
        refine gl_iload_n (pc := 166) dL_law_166 rfl ?_
        refine gl_iconst (pc := 167) dL_law_167 ?_
        refine gl_iadd (pc := 168) dL_law_168 ?_
        refine gl_sld (pc := 169) dL_law_169 hbL (by omega) ?_
        refine gl_aload_n (pc := 170) dL_law_170 rfl ?_
        refine gl_iload_n (pc := 171) dL_law_171 rfl ?_
        refine gl_iconst (pc := 172) dL_law_172 ?_
        refine gl_iadd (pc := 173) dL_law_173 ?_
        refine gl_sld (pc := 174) dL_law_174 hbL (by omega) ?_
        refine gl_aload_n (pc := 175) dL_law_175 rfl ?_
        refine gl_iload_n (pc := 176) dL_law_176 rfl ?_
        refine gl_iconst (pc := 177) dL_law_177 ?_
        refine gl_iadd (pc := 178) dL_law_178 ?_
        refine gl_sld (pc := 179) dL_law_179 hbL (by omega) ?_
        refine gl_i2l (pc := 180) dL_law_180 ?_
        refine gl_bipush (pc := 181) dL_law_181 rfl ?_
        refine gl_lshl (pc := 183) dL_law_183 ?_
        refine gl_aload_n (pc := 184) dL_law_184 rfl ?_
        refine gl_iload_n (pc := 185) dL_law_185 rfl ?_
        refine gl_iconst (pc := 186) dL_law_186 ?_
        refine gl_iadd (pc := 187) dL_law_187 ?_
        refine gl_sld (pc := 188) dL_law_188 hbL (by omega) ?_
        refine gl_i2l (pc := 189) dL_law_189 ?_
        refine gl_ldc2 (pc := 190) dL_law_190 wl_L_13 ?_
        refine gl_land (pc := 193) dL_law_193 ?_
        refine gl_lor (pc := 194) dL_law_194 ?_
        refine gl_cV4i (pc := 195) dL_law_195 wm_L_19 my_X5_insert rfl rfl rfl (by first | exact gz_B1 | (omega)) (ct_X5_insert l D α cA f1.1 (gz_rng _) (gz_rng _) (gz_rng _)) (fun x195 I195 h195 => ?_)
        obtain ⟨e9, hR⟩ := st_insert h h156 h195
        subst e9
        refine gl_eq (pc := 198) (tgt := 774) dL_law_198 (by decide) ?_
        exact k774 _ hR
      · refine gl_swIn (pc := 33) (off := 170) (tgt := 203) dL_law_33 1 hsx (by decide) (by decide) (by decide) rfl (by decide) ?_
        refine gl_aload_n (pc := 203) dL_law_203 rfl ?_
        refine gl_aload_n (pc := 204) dL_law_204 rfl ?_
        refine gl_iload_n (pc := 205) dL_law_205 rfl ?_
        refine gl_iconst (pc := 206) dL_law_206 ?_
        refine gl_iadd (pc := 207) dL_law_207 ?_
        refine gl_sld (pc := 208) dL_law_208 hbL (by omega) ?_
        refine gl_aload_n (pc := 209) dL_law_209 rfl ?_
        refine gl_iload_n (pc := 210) dL_law_210 rfl ?_
        refine gl_iconst (pc := 211) dL_law_211 ?_
        refine gl_iadd (pc := 212) dL_law_212 ?_
        refine gl_sld (pc := 213) dL_law_213 hbL (by omega) ?_
        refine gl_aload_n (pc := 214) dL_law_214 rfl ?_
        refine gl_iload_n (pc := 215) dL_law_215 rfl ?_
        refine gl_iconst (pc := 216) dL_law_216 ?_
        refine gl_iadd (pc := 217) dL_law_217 ?_
        refine gl_sld (pc := 218) dL_law_218 hbL (by omega) ?_
        refine gl_cV3i (pc := 219) dL_law_219 wm_L_20 my_X4_remove rfl rfl rfl (by first | exact gz_B1 | (omega)) (ct_X4_remove l D α cA h.1 (gz_rng _) (gz_rng _) (gz_rng _)) (fun x219 I219 h219 => ?_)
        have f1 := fX_remove h.1 h219
        have g1 := h.2.loc h.1 (fun _ _ => rfl) f1.2
        have hnx : 0 ≤ I219 (20, 0, 0) 10 ∧ I219 (20, 0, 0) 10 ≤ 100000 := by
          have u1 := g1.nx
          have u2 := g1.n0
          omega
        refine gl_aload_n (pc := 222) dL_law_222 rfl ?_
        refine gl_aload_n (pc := 223) dL_law_223 rfl ?_
        refine gl_iload_n (pc := 224) dL_law_224 rfl ?_
        refine gl_iconst (pc := 225) dL_law_225 ?_
        refine gl_iadd (pc := 226) dL_law_226 ?_
        refine gl_sld (pc := 227) dL_law_227 hbL (by omega) ?_
        refine gl_aload_n (pc := 228) dL_law_228 rfl ?_
        refine gl_iload_n (pc := 229) dL_law_229 rfl ?_
        refine gl_iconst (pc := 230) dL_law_230 ?_
        refine gl_iadd (pc := 231) dL_law_231 ?_
        refine gl_sld (pc := 232) dL_law_232 hbL (by omega) ?_
        refine gl_aload_n (pc := 233) dL_law_233 rfl ?_
        refine gl_iload_n (pc := 234) dL_law_234 rfl ?_
        refine gl_iconst (pc := 235) dL_law_235 ?_
        refine gl_iadd (pc := 236) dL_law_236 ?_
        refine gl_sld (pc := 237) dL_law_237 hbL (by omega) ?_
        refine gl_cV3i (pc := 238) dL_law_238 wm_L_24 my_X5_remove rfl rfl rfl (by first | exact gz_B1 | (omega)) (ct_X5_remove l D α cA f1.1 (gz_rng _) (gz_rng _) (gz_rng _)) (fun x238 I238 h238 => ?_)
        obtain ⟨e9, hR⟩ := st_remove h h219 h238
        subst e9
        refine gl_eq (pc := 241) (tgt := 774) dL_law_241 (by decide) ?_
        exact k774 _ hR
      · refine gl_swIn (pc := 33) (off := 213) (tgt := 246) dL_law_33 2 hsx (by decide) (by decide) (by decide) rfl (by decide) ?_
        refine gl_aload_n (pc := 246) dL_law_246 rfl ?_
        refine gl_aload_n (pc := 247) dL_law_247 rfl ?_
        refine gl_iload_n (pc := 248) dL_law_248 rfl ?_
        refine gl_iconst (pc := 249) dL_law_249 ?_
        refine gl_iadd (pc := 250) dL_law_250 ?_
        refine gl_sld (pc := 251) dL_law_251 hbL (by omega) ?_
        refine gl_aload_n (pc := 252) dL_law_252 rfl ?_
        refine gl_iload_n (pc := 253) dL_law_253 rfl ?_
        refine gl_iconst (pc := 254) dL_law_254 ?_
        refine gl_iadd (pc := 255) dL_law_255 ?_
        refine gl_sld (pc := 256) dL_law_256 hbL (by omega) ?_
        refine gl_aload_n (pc := 257) dL_law_257 rfl ?_
        refine gl_iload_n (pc := 258) dL_law_258 rfl ?_
        refine gl_iconst (pc := 259) dL_law_259 ?_
        refine gl_iadd (pc := 260) dL_law_260 ?_
        refine gl_sld (pc := 261) dL_law_261 hbL (by omega) ?_
        refine gl_aload_n (pc := 262) dL_law_262 rfl ?_
        refine gl_iload_n (pc := 263) dL_law_263 rfl ?_
        refine gl_iconst (pc := 264) dL_law_264 ?_
        refine gl_iadd (pc := 265) dL_law_265 ?_
        refine gl_sld (pc := 266) dL_law_266 hbL (by omega) ?_
        refine gl_cV4i (pc := 267) dL_law_267 wm_L_25 my_X4_extend rfl rfl rfl (by first | exact gz_B1 | (omega)) (ct_X4_extend l D α cA h.1 (gz_rng _) (gz_rng _) (gz_rng _) (gz_rng _)) (fun x267 I267 h267 => ?_)
        have f1 := fX_extend h.1 h267
        have g1 := h.2.loc h.1 (fun _ _ => rfl) f1.2
        have hnx : 0 ≤ I267 (20, 0, 0) 10 ∧ I267 (20, 0, 0) 10 ≤ 100000 := by
          have u1 := g1.nx
          have u2 := g1.n0
          omega
        refine gl_aload_n (pc := 270) dL_law_270 rfl ?_
        refine gl_aload_n (pc := 271) dL_law_271 rfl ?_
        refine gl_iload_n (pc := 272) dL_law_272 rfl ?_
        refine gl_iconst (pc := 273) dL_law_273 ?_
        refine gl_iadd (pc := 274) dL_law_274 ?_
        refine gl_sld (pc := 275) dL_law_275 hbL (by omega) ?_
        refine gl_aload_n (pc := 276) dL_law_276 rfl ?_
        refine gl_iload_n (pc := 277) dL_law_277 rfl ?_
        refine gl_iconst (pc := 278) dL_law_278 ?_
        refine gl_iadd (pc := 279) dL_law_279 ?_
        refine gl_sld (pc := 280) dL_law_280 hbL (by omega) ?_
        refine gl_aload_n (pc := 281) dL_law_281 rfl ?_
        refine gl_iload_n (pc := 282) dL_law_282 rfl ?_
        refine gl_iconst (pc := 283) dL_law_283 ?_
        refine gl_iadd (pc := 284) dL_law_284 ?_
        refine gl_sld (pc := 285) dL_law_285 hbL (by omega) ?_
        refine gl_aload_n (pc := 286) dL_law_286 rfl ?_
        refine gl_iload_n (pc := 287) dL_law_287 rfl ?_
        refine gl_iconst (pc := 288) dL_law_288 ?_
        refine gl_iadd (pc := 289) dL_law_289 ?_
        refine gl_sld (pc := 290) dL_law_290 hbL (by omega) ?_
        refine gl_cV4i (pc := 291) dL_law_291 wm_L_29 my_X5_extend rfl rfl rfl (by first | exact gz_B1 | (omega)) (ct_X5_extend l D α cA f1.1 (gz_rng _) (gz_rng _) (gz_rng _) (gz_rng _)) (fun x291 I291 h291 => ?_)
        obtain ⟨e9, hR⟩ := st_extend h h267 h291
        subst e9
        refine gl_eq (pc := 294) (tgt := 774) dL_law_294 (by decide) ?_
        exact k774 _ hR
      · refine gl_swIn (pc := 33) (off := 266) (tgt := 299) dL_law_33 3 hsx (by decide) (by decide) (by decide) rfl (by decide) ?_
        refine gl_aload_n (pc := 299) dL_law_299 rfl ?_
        refine gl_aload_n (pc := 300) dL_law_300 rfl ?_
        refine gl_iload_n (pc := 301) dL_law_301 rfl ?_
        refine gl_iconst (pc := 302) dL_law_302 ?_
        refine gl_iadd (pc := 303) dL_law_303 ?_
        refine gl_sld (pc := 304) dL_law_304 hbL (by omega) ?_
        refine gl_aload_n (pc := 305) dL_law_305 rfl ?_
        refine gl_iload_n (pc := 306) dL_law_306 rfl ?_
        refine gl_iconst (pc := 307) dL_law_307 ?_
        refine gl_iadd (pc := 308) dL_law_308 ?_
        refine gl_sld (pc := 309) dL_law_309 hbL (by omega) ?_
        refine gl_cV2i (pc := 310) dL_law_310 wm_L_30 my_X4_state rfl rfl rfl (by first | exact gz_B1 | (omega)) (ct_X4_state l D α cA h.1 (gz_rng _) (gz_rng _)) (fun x310 I310 h310 => ?_)
        have f1 := fX_state h.1 h310
        have g1 := h.2.loc h.1 (fun _ _ => rfl) f1.2
        have hnx : 0 ≤ I310 (20, 0, 0) 10 ∧ I310 (20, 0, 0) 10 ≤ 100000 := by
          have u1 := g1.nx
          have u2 := g1.n0
          omega
        refine gl_aload_n (pc := 313) dL_law_313 rfl ?_
        refine gl_aload_n (pc := 314) dL_law_314 rfl ?_
        refine gl_iload_n (pc := 315) dL_law_315 rfl ?_
        refine gl_iconst (pc := 316) dL_law_316 ?_
        refine gl_iadd (pc := 317) dL_law_317 ?_
        refine gl_sld (pc := 318) dL_law_318 hbL (by omega) ?_
        refine gl_aload_n (pc := 319) dL_law_319 rfl ?_
        refine gl_iload_n (pc := 320) dL_law_320 rfl ?_
        refine gl_iconst (pc := 321) dL_law_321 ?_
        refine gl_iadd (pc := 322) dL_law_322 ?_
        refine gl_sld (pc := 323) dL_law_323 hbL (by omega) ?_
        refine gl_cV2i (pc := 324) dL_law_324 wm_L_34 my_X5_state rfl rfl rfl (by first | exact gz_B1 | (omega)) (ct_X5_state l D α cA f1.1 (gz_rng _) (gz_rng _)) (fun x324 I324 h324 => ?_)
        obtain ⟨e9, hR⟩ := st_state h h310 h324
        subst e9
        refine gl_eq (pc := 327) (tgt := 774) dL_law_327 (by decide) ?_
        exact k774 _ hR
      · refine gl_swIn (pc := 33) (off := 299) (tgt := 332) dL_law_33 4 hsx (by decide) (by decide) (by decide) rfl (by decide) ?_
        refine gl_aload_n (pc := 332) dL_law_332 rfl ?_
        refine gl_aload_n (pc := 333) dL_law_333 rfl ?_
        refine gl_iload_n (pc := 334) dL_law_334 rfl ?_
        refine gl_iconst (pc := 335) dL_law_335 ?_
        refine gl_iadd (pc := 336) dL_law_336 ?_
        refine gl_sld (pc := 337) dL_law_337 hbL (by omega) ?_
        refine gl_aload_n (pc := 338) dL_law_338 rfl ?_
        refine gl_iload_n (pc := 339) dL_law_339 rfl ?_
        refine gl_iconst (pc := 340) dL_law_340 ?_
        refine gl_iadd (pc := 341) dL_law_341 ?_
        refine gl_sld (pc := 342) dL_law_342 hbL (by omega) ?_
        refine gl_cV2i (pc := 343) dL_law_343 wm_L_35 my_X4_chunk rfl rfl rfl (by first | exact gz_B1 | (omega)) (ct_X4_chunk l D α cA h.1 (gz_rng _) (gz_rng _)) (fun x343 I343 h343 => ?_)
        have f1 := fX_chunk h.1 h343
        have g1 := h.2.loc h.1 (fun _ _ => rfl) f1.2
        have hnx : 0 ≤ I343 (20, 0, 0) 10 ∧ I343 (20, 0, 0) 10 ≤ 100000 := by
          have u1 := g1.nx
          have u2 := g1.n0
          omega
        refine gl_aload_n (pc := 346) dL_law_346 rfl ?_
        refine gl_aload_n (pc := 347) dL_law_347 rfl ?_
        refine gl_iload_n (pc := 348) dL_law_348 rfl ?_
        refine gl_iconst (pc := 349) dL_law_349 ?_
        refine gl_iadd (pc := 350) dL_law_350 ?_
        refine gl_sld (pc := 351) dL_law_351 hbL (by omega) ?_
        refine gl_aload_n (pc := 352) dL_law_352 rfl ?_
        refine gl_iload_n (pc := 353) dL_law_353 rfl ?_
        refine gl_iconst (pc := 354) dL_law_354 ?_
        refine gl_iadd (pc := 355) dL_law_355 ?_
        refine gl_sld (pc := 356) dL_law_356 hbL (by omega) ?_
        refine gl_cV2i (pc := 357) dL_law_357 wm_L_38 my_X5_chunk rfl rfl rfl (by first | exact gz_B1 | (omega)) (ct_X5_chunk l D α cA f1.1 (gz_rng _) (gz_rng _)) (fun x357 I357 h357 => ?_)
        obtain ⟨e9, hR⟩ := st_chunk h h343 h357
        subst e9
        refine gl_eq (pc := 360) (tgt := 774) dL_law_360 (by decide) ?_
        exact k774 _ hR
      · refine gl_swIn (pc := 33) (off := 332) (tgt := 365) dL_law_33 5 hsx (by decide) (by decide) (by decide) rfl (by decide) ?_
        refine gl_aload_n (pc := 365) dL_law_365 rfl ?_
        refine gl_aload_n (pc := 366) dL_law_366 rfl ?_
        refine gl_iload_n (pc := 367) dL_law_367 rfl ?_
        refine gl_iconst (pc := 368) dL_law_368 ?_
        refine gl_iadd (pc := 369) dL_law_369 ?_
        refine gl_sld (pc := 370) dL_law_370 hbL (by omega) ?_
        refine gl_cV1i (pc := 371) dL_law_371 wm_L_39 my_X4_rescale rfl rfl rfl (by first | exact gz_B1 | (omega)) (ct_X4_rescale l D α cA h.1 (gz_rng _)) (fun x371 I371 h371 => ?_)
        have f1 := fX_rescale h.1 h371
        have g1 := h.2.loc h.1 (fun _ _ => rfl) f1.2
        have hnx : 0 ≤ I371 (20, 0, 0) 10 ∧ I371 (20, 0, 0) 10 ≤ 100000 := by
          have u1 := g1.nx
          have u2 := g1.n0
          omega
        refine gl_aload_n (pc := 374) dL_law_374 rfl ?_
        refine gl_aload_n (pc := 375) dL_law_375 rfl ?_
        refine gl_iload_n (pc := 376) dL_law_376 rfl ?_
        refine gl_iconst (pc := 377) dL_law_377 ?_
        refine gl_iadd (pc := 378) dL_law_378 ?_
        refine gl_sld (pc := 379) dL_law_379 hbL (by omega) ?_
        refine gl_cV1i (pc := 380) dL_law_380 wm_L_43 my_X5_rescale rfl rfl rfl (by first | exact gz_B1 | (omega)) (ct_X5_rescale l D α cA f1.1 (gz_rng _)) (fun x380 I380 h380 => ?_)
        obtain ⟨e9, hR⟩ := st_rescale h h371 h380
        subst e9
        refine gl_eq (pc := 383) (tgt := 774) dL_law_383 (by decide) ?_
        exact k774 _ hR
      · refine gl_swIn (pc := 33) (off := 355) (tgt := 388) dL_law_33 6 hsx (by decide) (by decide) (by decide) rfl (by decide) ?_
        refine gl_aload_n (pc := 388) dL_law_388 rfl ?_
        refine gl_aload_n (pc := 389) dL_law_389 rfl ?_
        refine gl_iload_n (pc := 390) dL_law_390 rfl ?_
        refine gl_iconst (pc := 391) dL_law_391 ?_
        refine gl_iadd (pc := 392) dL_law_392 ?_
        refine gl_sld (pc := 393) dL_law_393 hbL (by omega) ?_
        refine gl_cV1i (pc := 394) dL_law_394 wm_L_44 my_X4_mark rfl rfl rfl (by first | exact gz_B1 | (omega)) (ct_X4_mark l D α cA h.1 h.2.E (gz_rng _) rfl h.2.inj ⟨h.2.n0.1, by have := h.2.n0.2; omega⟩) (fun x394 I394 h394 => ?_)
        have f1 := fX_mark h.1 h394
        have g1 := h.2.loc h.1 (fun _ _ => rfl) f1.2
        have hnx : 0 ≤ I394 (20, 0, 0) 10 ∧ I394 (20, 0, 0) 10 ≤ 100000 := by
          have u1 := g1.nx
          have u2 := g1.n0
          omega
        refine gl_aload_n (pc := 397) dL_law_397 rfl ?_
        refine gl_aload_n (pc := 398) dL_law_398 rfl ?_
        refine gl_iload_n (pc := 399) dL_law_399 rfl ?_
        refine gl_iconst (pc := 400) dL_law_400 ?_
        refine gl_iadd (pc := 401) dL_law_401 ?_
        refine gl_sld (pc := 402) dL_law_402 hbL (by omega) ?_
        refine gl_cV1i (pc := 403) dL_law_403 wm_L_47 my_X5_mark rfl rfl rfl (by first | exact gz_B1 | (omega)) (ct_X5_mark l D α cA f1.1 hnx (by rw [← g1.A]; exact g1.tot) (gz_rng _)) (fun x403 I403 h403 => ?_)
        obtain ⟨e9, hR⟩ := st_mark h rfl h394 h403
        subst e9
        refine gl_eq (pc := 406) (tgt := 774) dL_law_406 (by decide) ?_
        exact k774 _ hR
      · refine gl_swIn (pc := 33) (off := 378) (tgt := 411) dL_law_33 7 hsx (by decide) (by decide) (by decide) rfl (by decide) ?_
        refine gl_aload_n (pc := 411) dL_law_411 rfl ?_
        refine gl_aload_n (pc := 412) dL_law_412 rfl ?_
        refine gl_iload_n (pc := 413) dL_law_413 rfl ?_
        refine gl_iconst (pc := 414) dL_law_414 ?_
        refine gl_iadd (pc := 415) dL_law_415 ?_
        refine gl_sld (pc := 416) dL_law_416 hbL (by omega) ?_
        refine gl_cV1i (pc := 417) dL_law_417 wm_L_48 my_X4_drop rfl rfl rfl (by first | exact gz_B1 | (omega)) (ct_X4_drop l D α cA h.1 h.2.E (gz_rng _) h.2.inj h.2.srt h.2.bas) (fun x417 I417 h417 => ?_)
        have f1 := fX_drop h.1 h417
        have g1 := h.2.loc h.1 (fun _ _ => rfl) f1.2
        have hnx : 0 ≤ I417 (20, 0, 0) 10 ∧ I417 (20, 0, 0) 10 ≤ 100000 := by
          have u1 := g1.nx
          have u2 := g1.n0
          omega
        refine gl_aload_n (pc := 420) dL_law_420 rfl ?_
        refine gl_aload_n (pc := 421) dL_law_421 rfl ?_
        refine gl_iload_n (pc := 422) dL_law_422 rfl ?_
        refine gl_iconst (pc := 423) dL_law_423 ?_
        refine gl_iadd (pc := 424) dL_law_424 ?_
        refine gl_sld (pc := 425) dL_law_425 hbL (by omega) ?_
        refine gl_cV1i (pc := 426) dL_law_426 wm_L_51 my_X5_drop rfl rfl rfl (by first | exact gz_B1 | (omega)) (ct_X5_drop l D α cA f1.1 (gz_rng _) g1.dis) (fun x426 I426 h426 => ?_)
        obtain ⟨e9, hR⟩ := st_drop h h417 h426
        subst e9
        refine gl_eq (pc := 429) (tgt := 774) dL_law_429 (by decide) ?_
        exact k774 _ hR
      · refine gl_swIn (pc := 33) (off := 401) (tgt := 434) dL_law_33 8 hsx (by decide) (by decide) (by decide) rfl (by decide) ?_
        refine gl_aload_n (pc := 434) dL_law_434 rfl ?_
        refine gl_aload_n (pc := 435) dL_law_435 rfl ?_
        refine gl_iload_n (pc := 436) dL_law_436 rfl ?_
        refine gl_iconst (pc := 437) dL_law_437 ?_
        refine gl_iadd (pc := 438) dL_law_438 ?_
        refine gl_sld (pc := 439) dL_law_439 hbL (by omega) ?_
        refine gl_cV1i (pc := 440) dL_law_440 wm_L_52 my_X4_back rfl rfl rfl (by first | exact gz_B1 | (omega)) (ct_X4_back l D α cA h.1 (gz_rng _) (fun i a b c => ⟨(h.2.kp i a b c).1, fun t t1 t2 => ((h.2.kp i a b c).2 t t1 t2).2⟩)) (fun x440 I440 h440 => ?_)
        have f1 := fX_back h.1 h440
        have g1 := h.2.loc h.1 (fun _ _ => rfl) f1.2
        have hnx : 0 ≤ I440 (20, 0, 0) 10 ∧ I440 (20, 0, 0) 10 ≤ 100000 := by
          have u1 := g1.nx
          have u2 := g1.n0
          omega
        refine gl_aload_n (pc := 443) dL_law_443 rfl ?_
        refine gl_aload_n (pc := 444) dL_law_444 rfl ?_
        refine gl_iload_n (pc := 445) dL_law_445 rfl ?_
        refine gl_iconst (pc := 446) dL_law_446 ?_
        refine gl_iadd (pc := 447) dL_law_447 ?_
        refine gl_sld (pc := 448) dL_law_448 hbL (by omega) ?_
        refine gl_cV1i (pc := 449) dL_law_449 wm_L_55 my_X5_back rfl rfl rfl (by first | exact gz_B1 | (omega)) (ct_X5_back l D α cA f1.1 (gz_rng _) (g1.kt5 h.1) g1.nn g1.dis hnx) (fun x449 I449 h449 => ?_)
        obtain ⟨e9, hR⟩ := st_back h h440 h449
        subst e9
        refine gl_eq (pc := 452) (tgt := 774) dL_law_452 (by decide) ?_
        exact k774 _ hR
      · refine gl_swIn (pc := 33) (off := 424) (tgt := 457) dL_law_33 9 hsx (by decide) (by decide) (by decide) rfl (by decide) ?_
        refine gl_aload_n (pc := 457) dL_law_457 rfl ?_
        refine gl_aload_n (pc := 458) dL_law_458 rfl ?_
        refine gl_iload_n (pc := 459) dL_law_459 rfl ?_
        refine gl_iconst (pc := 460) dL_law_460 ?_
        refine gl_iadd (pc := 461) dL_law_461 ?_
        refine gl_sld (pc := 462) dL_law_462 hbL (by omega) ?_
        refine gl_cV1i (pc := 463) dL_law_463 wm_L_56 my_X4_usable rfl rfl rfl (by first | exact gz_B1 | (omega)) (ct_X4_usable l D α cA h.1 (gz_rng _)) (fun x463 I463 h463 => ?_)
        have f1 := fX_usable h.1 h463
        have g1 := h.2.loc h.1 (fun _ _ => rfl) f1.2
        have hnx : 0 ≤ I463 (20, 0, 0) 10 ∧ I463 (20, 0, 0) 10 ≤ 100000 := by
          have u1 := g1.nx
          have u2 := g1.n0
          omega
        refine gl_aload_n (pc := 466) dL_law_466 rfl ?_
        refine gl_aload_n (pc := 467) dL_law_467 rfl ?_
        refine gl_iload_n (pc := 468) dL_law_468 rfl ?_
        refine gl_iconst (pc := 469) dL_law_469 ?_
        refine gl_iadd (pc := 470) dL_law_470 ?_
        refine gl_sld (pc := 471) dL_law_471 hbL (by omega) ?_
        refine gl_cV1i (pc := 472) dL_law_472 wm_L_59 my_X5_usable rfl rfl rfl (by first | exact gz_B1 | (omega)) (ct_X5_usable l D α cA f1.1 (gz_rng _) g1.dis) (fun x472 I472 h472 => ?_)
        obtain ⟨e9, hR⟩ := st_usable h h463 h472
        subst e9
        refine gl_eq (pc := 475) (tgt := 774) dL_law_475 (by decide) ?_
        exact k774 _ hR
      · refine gl_swIn (pc := 33) (off := 447) (tgt := 480) dL_law_33 10 hsx (by decide) (by decide) (by decide) rfl (by decide) ?_
        refine gl_aload_n (pc := 480) dL_law_480 rfl ?_
        refine gl_aload_n (pc := 481) dL_law_481 rfl ?_
        refine gl_iload_n (pc := 482) dL_law_482 rfl ?_
        refine gl_iconst (pc := 483) dL_law_483 ?_
        refine gl_iadd (pc := 484) dL_law_484 ?_
        refine gl_sld (pc := 485) dL_law_485 hbL (by omega) ?_
        refine gl_aload_n (pc := 486) dL_law_486 rfl ?_
        refine gl_iload_n (pc := 487) dL_law_487 rfl ?_
        refine gl_iconst (pc := 488) dL_law_488 ?_
        refine gl_iadd (pc := 489) dL_law_489 ?_
        refine gl_sld (pc := 490) dL_law_490 hbL (by omega) ?_
        refine gl_cV2i (pc := 491) dL_law_491 wm_L_60 my_X4_markTold rfl rfl rfl (by first | exact gz_B1 | (omega)) (ct_X4_markTold l D α cA h.1 (gz_rng _) (gz_rng _)) (fun x491 I491 h491 => ?_)
        have f1 := fX_markTold h.1 h491
        have g1 := h.2.loc h.1 (fun _ _ => rfl) f1.2
        have hnx : 0 ≤ I491 (20, 0, 0) 10 ∧ I491 (20, 0, 0) 10 ≤ 100000 := by
          have u1 := g1.nx
          have u2 := g1.n0
          omega
        refine gl_aload_n (pc := 494) dL_law_494 rfl ?_
        refine gl_aload_n (pc := 495) dL_law_495 rfl ?_
        refine gl_iload_n (pc := 496) dL_law_496 rfl ?_
        refine gl_iconst (pc := 497) dL_law_497 ?_
        refine gl_iadd (pc := 498) dL_law_498 ?_
        refine gl_sld (pc := 499) dL_law_499 hbL (by omega) ?_
        refine gl_aload_n (pc := 500) dL_law_500 rfl ?_
        refine gl_iload_n (pc := 501) dL_law_501 rfl ?_
        refine gl_iconst (pc := 502) dL_law_502 ?_
        refine gl_iadd (pc := 503) dL_law_503 ?_
        refine gl_sld (pc := 504) dL_law_504 hbL (by omega) ?_
        refine gl_cV2i (pc := 505) dL_law_505 wm_L_63 my_X5_markTold rfl rfl rfl (by first | exact gz_B1 | (omega)) (ct_X5_markTold l D α cA f1.1 (gz_rng _) (gz_rng _)) (fun x505 I505 h505 => ?_)
        obtain ⟨e9, hR⟩ := st_markTold h h491 h505
        subst e9
        refine gl_eq (pc := 508) (tgt := 774) dL_law_508 (by decide) ?_
        exact k774 _ hR
      · refine gl_swIn (pc := 33) (off := 480) (tgt := 513) dL_law_33 11 hsx (by decide) (by decide) (by decide) rfl (by decide) ?_
        refine gl_aload_n (pc := 513) dL_law_513 rfl ?_
        refine gl_aload_n (pc := 514) dL_law_514 rfl ?_
        refine gl_iload_n (pc := 515) dL_law_515 rfl ?_
        refine gl_iconst (pc := 516) dL_law_516 ?_
        refine gl_iadd (pc := 517) dL_law_517 ?_
        refine gl_sld (pc := 518) dL_law_518 hbL (by omega) ?_
        refine gl_aload_n (pc := 519) dL_law_519 rfl ?_
        refine gl_iload_n (pc := 520) dL_law_520 rfl ?_
        refine gl_iconst (pc := 521) dL_law_521 ?_
        refine gl_iadd (pc := 522) dL_law_522 ?_
        refine gl_sld (pc := 523) dL_law_523 hbL (by omega) ?_
        refine gl_aload_n (pc := 524) dL_law_524 rfl ?_
        refine gl_iload_n (pc := 525) dL_law_525 rfl ?_
        refine gl_iconst (pc := 526) dL_law_526 ?_
        refine gl_iadd (pc := 527) dL_law_527 ?_
        refine gl_sld (pc := 528) dL_law_528 hbL (by omega) ?_
        refine gl_cV3i (pc := 529) dL_law_529 wm_L_64 my_X4_list rfl rfl rfl (by first | exact gz_B1 | (omega)) (ct_X4_list l D α cA h.1 (gz_rng _) (gz_rng _) (gz_rng _)) (fun x529 I529 h529 => ?_)
        have f1 := fX_list h.1 h529
        have g1 := h.2.loc h.1 (fun _ _ => rfl) f1.2
        have hnx : 0 ≤ I529 (20, 0, 0) 10 ∧ I529 (20, 0, 0) 10 ≤ 100000 := by
          have u1 := g1.nx
          have u2 := g1.n0
          omega
        refine gl_aload_n (pc := 532) dL_law_532 rfl ?_
        refine gl_aload_n (pc := 533) dL_law_533 rfl ?_
        refine gl_iload_n (pc := 534) dL_law_534 rfl ?_
        refine gl_iconst (pc := 535) dL_law_535 ?_
        refine gl_iadd (pc := 536) dL_law_536 ?_
        refine gl_sld (pc := 537) dL_law_537 hbL (by omega) ?_
        refine gl_aload_n (pc := 538) dL_law_538 rfl ?_
        refine gl_iload_n (pc := 539) dL_law_539 rfl ?_
        refine gl_iconst (pc := 540) dL_law_540 ?_
        refine gl_iadd (pc := 541) dL_law_541 ?_
        refine gl_sld (pc := 542) dL_law_542 hbL (by omega) ?_
        refine gl_aload_n (pc := 543) dL_law_543 rfl ?_
        refine gl_iload_n (pc := 544) dL_law_544 rfl ?_
        refine gl_iconst (pc := 545) dL_law_545 ?_
        refine gl_iadd (pc := 546) dL_law_546 ?_
        refine gl_sld (pc := 547) dL_law_547 hbL (by omega) ?_
        refine gl_cV3i (pc := 548) dL_law_548 wm_L_67 my_X5_list rfl rfl rfl (by first | exact gz_B1 | (omega)) (ct_X5_list l D α cA f1.1 (gz_rng _) (gz_rng _) (gz_rng _) g1.dis) (fun x548 I548 h548 => ?_)
        obtain ⟨e9, hR⟩ := st_list h h529 h548
        subst e9
        refine gl_eq (pc := 551) (tgt := 774) dL_law_551 (by decide) ?_
        exact k774 _ hR
      · refine gl_swIn (pc := 33) (off := 523) (tgt := 556) dL_law_33 12 hsx (by decide) (by decide) (by decide) rfl (by decide) ?_
        refine gl_aload_n (pc := 556) dL_law_556 rfl ?_
        refine gl_aload_n (pc := 557) dL_law_557 rfl ?_
        refine gl_iload_n (pc := 558) dL_law_558 rfl ?_
        refine gl_iconst (pc := 559) dL_law_559 ?_
        refine gl_iadd (pc := 560) dL_law_560 ?_
        refine gl_sld (pc := 561) dL_law_561 hbL (by omega) ?_
        refine gl_aload_n (pc := 562) dL_law_562 rfl ?_
        refine gl_iload_n (pc := 563) dL_law_563 rfl ?_
        refine gl_iconst (pc := 564) dL_law_564 ?_
        refine gl_iadd (pc := 565) dL_law_565 ?_
        refine gl_sld (pc := 566) dL_law_566 hbL (by omega) ?_
        refine gl_cV2i (pc := 567) dL_law_567 wm_L_68 my_X4_same rfl rfl rfl (by first | exact gz_B1 | (omega)) (ct_X4_same l D α cA h.1 (gz_rng _) (gz_rng _)) (fun x567 I567 h567 => ?_)
        have f1 := fX_same h.1 h567
        have g1 := h.2.loc h.1 (fun _ _ => rfl) f1.2
        have hnx : 0 ≤ I567 (20, 0, 0) 10 ∧ I567 (20, 0, 0) 10 ≤ 100000 := by
          have u1 := g1.nx
          have u2 := g1.n0
          omega
        refine gl_aload_n (pc := 570) dL_law_570 rfl ?_
        refine gl_aload_n (pc := 571) dL_law_571 rfl ?_
        refine gl_iload_n (pc := 572) dL_law_572 rfl ?_
        refine gl_iconst (pc := 573) dL_law_573 ?_
        refine gl_iadd (pc := 574) dL_law_574 ?_
        refine gl_sld (pc := 575) dL_law_575 hbL (by omega) ?_
        refine gl_aload_n (pc := 576) dL_law_576 rfl ?_
        refine gl_iload_n (pc := 577) dL_law_577 rfl ?_
        refine gl_iconst (pc := 578) dL_law_578 ?_
        refine gl_iadd (pc := 579) dL_law_579 ?_
        refine gl_sld (pc := 580) dL_law_580 hbL (by omega) ?_
        refine gl_cV2i (pc := 581) dL_law_581 wm_L_72 my_X5_same rfl rfl rfl (by first | exact gz_B1 | (omega)) (ct_X5_same l D α cA f1.1 (gz_rng _) (gz_rng _) g1.dis) (fun x581 I581 h581 => ?_)
        obtain ⟨e9, hR⟩ := st_same h h567 h581
        subst e9
        refine gl_eq (pc := 584) (tgt := 774) dL_law_584 (by decide) ?_
        exact k774 _ hR
      · refine gl_swIn (pc := 33) (off := 556) (tgt := 589) dL_law_33 13 hsx (by decide) (by decide) (by decide) rfl (by decide) ?_
        refine gl_aload_n (pc := 589) dL_law_589 rfl ?_
        refine gl_aload_n (pc := 590) dL_law_590 rfl ?_
        refine gl_iload_n (pc := 591) dL_law_591 rfl ?_
        refine gl_iconst (pc := 592) dL_law_592 ?_
        refine gl_iadd (pc := 593) dL_law_593 ?_
        refine gl_sld (pc := 594) dL_law_594 hbL (by omega) ?_
        refine gl_aload_n (pc := 595) dL_law_595 rfl ?_
        refine gl_iload_n (pc := 596) dL_law_596 rfl ?_
        refine gl_iconst (pc := 597) dL_law_597 ?_
        refine gl_iadd (pc := 598) dL_law_598 ?_
        refine gl_sld (pc := 599) dL_law_599 hbL (by omega) ?_
        refine gl_cV2i (pc := 600) dL_law_600 wm_L_73 my_X4_partTold rfl rfl rfl (by first | exact gz_B1 | (omega)) (ct_X4_partTold l D α cA h.1 (gz_rng _) (gz_rng _)) (fun x600 I600 h600 => ?_)
        have f1 := fX_partTold h.1 h600
        have g1 := h.2.loc h.1 (fun _ _ => rfl) f1.2
        have hnx : 0 ≤ I600 (20, 0, 0) 10 ∧ I600 (20, 0, 0) 10 ≤ 100000 := by
          have u1 := g1.nx
          have u2 := g1.n0
          omega
        refine gl_aload_n (pc := 603) dL_law_603 rfl ?_
        refine gl_aload_n (pc := 604) dL_law_604 rfl ?_
        refine gl_iload_n (pc := 605) dL_law_605 rfl ?_
        refine gl_iconst (pc := 606) dL_law_606 ?_
        refine gl_iadd (pc := 607) dL_law_607 ?_
        refine gl_sld (pc := 608) dL_law_608 hbL (by omega) ?_
        refine gl_aload_n (pc := 609) dL_law_609 rfl ?_
        refine gl_iload_n (pc := 610) dL_law_610 rfl ?_
        refine gl_iconst (pc := 611) dL_law_611 ?_
        refine gl_iadd (pc := 612) dL_law_612 ?_
        refine gl_sld (pc := 613) dL_law_613 hbL (by omega) ?_
        refine gl_cV2i (pc := 614) dL_law_614 wm_L_76 my_X5_partTold rfl rfl rfl (by first | exact gz_B1 | (omega)) (ct_X5_partTold l D α cA f1.1 (gz_rng _) (gz_rng _)) (fun x614 I614 h614 => ?_)
        obtain ⟨e9, hR⟩ := st_partTold h h600 h614
        subst e9
        refine gl_eq (pc := 617) (tgt := 774) dL_law_617 (by decide) ?_
        exact k774 _ hR
      · refine gl_swIn (pc := 33) (off := 589) (tgt := 622) dL_law_33 14 hsx (by decide) (by decide) (by decide) rfl (by decide) ?_
        refine gl_aload_n (pc := 622) dL_law_622 rfl ?_
        refine gl_aload_n (pc := 623) dL_law_623 rfl ?_
        refine gl_iload_n (pc := 624) dL_law_624 rfl ?_
        refine gl_iconst (pc := 625) dL_law_625 ?_
        refine gl_iadd (pc := 626) dL_law_626 ?_
        refine gl_sld (pc := 627) dL_law_627 hbL (by omega) ?_
        refine gl_aload_n (pc := 628) dL_law_628 rfl ?_
        refine gl_iload_n (pc := 629) dL_law_629 rfl ?_
        refine gl_iconst (pc := 630) dL_law_630 ?_
        refine gl_iadd (pc := 631) dL_law_631 ?_
        refine gl_sld (pc := 632) dL_law_632 hbL (by omega) ?_
        refine gl_aload_n (pc := 633) dL_law_633 rfl ?_
        refine gl_iload_n (pc := 634) dL_law_634 rfl ?_
        refine gl_iconst (pc := 635) dL_law_635 ?_
        refine gl_iadd (pc := 636) dL_law_636 ?_
        refine gl_sld (pc := 637) dL_law_637 hbL (by omega) ?_
        refine gl_cV3i (pc := 638) dL_law_638 wm_L_77 my_X4_partByte rfl rfl rfl (by first | exact gz_B1 | (omega)) (ct_X4_partByte l D α cA h.1 (gz_rng _) (gz_rng _) (gz_rng _)) (fun x638 I638 h638 => ?_)
        have f1 := fX_partByte h.1 h638
        have g1 := h.2.loc h.1 (fun _ _ => rfl) f1.2
        have hnx : 0 ≤ I638 (20, 0, 0) 10 ∧ I638 (20, 0, 0) 10 ≤ 100000 := by
          have u1 := g1.nx
          have u2 := g1.n0
          omega
        refine gl_aload_n (pc := 641) dL_law_641 rfl ?_
        refine gl_aload_n (pc := 642) dL_law_642 rfl ?_
        refine gl_iload_n (pc := 643) dL_law_643 rfl ?_
        refine gl_iconst (pc := 644) dL_law_644 ?_
        refine gl_iadd (pc := 645) dL_law_645 ?_
        refine gl_sld (pc := 646) dL_law_646 hbL (by omega) ?_
        refine gl_aload_n (pc := 647) dL_law_647 rfl ?_
        refine gl_iload_n (pc := 648) dL_law_648 rfl ?_
        refine gl_iconst (pc := 649) dL_law_649 ?_
        refine gl_iadd (pc := 650) dL_law_650 ?_
        refine gl_sld (pc := 651) dL_law_651 hbL (by omega) ?_
        refine gl_aload_n (pc := 652) dL_law_652 rfl ?_
        refine gl_iload_n (pc := 653) dL_law_653 rfl ?_
        refine gl_iconst (pc := 654) dL_law_654 ?_
        refine gl_iadd (pc := 655) dL_law_655 ?_
        refine gl_sld (pc := 656) dL_law_656 hbL (by omega) ?_
        refine gl_cV3i (pc := 657) dL_law_657 wm_L_80 my_X5_partByte rfl rfl rfl (by first | exact gz_B1 | (omega)) (ct_X5_partByte l D α cA f1.1 (gz_rng _) (gz_rng _) (gz_rng _)) (fun x657 I657 h657 => ?_)
        obtain ⟨e9, hR⟩ := st_partByte h h638 h657
        subst e9
        refine gl_eq (pc := 660) (tgt := 774) dL_law_660 (by decide) ?_
        exact k774 _ hR
      · refine gl_swIn (pc := 33) (off := 632) (tgt := 665) dL_law_33 15 hsx (by decide) (by decide) (by decide) rfl (by decide) ?_
        refine gl_aload_n (pc := 665) dL_law_665 rfl ?_
        refine gl_aload_n (pc := 666) dL_law_666 rfl ?_
        refine gl_iload_n (pc := 667) dL_law_667 rfl ?_
        refine gl_iconst (pc := 668) dL_law_668 ?_
        refine gl_iadd (pc := 669) dL_law_669 ?_
        refine gl_sld (pc := 670) dL_law_670 hbL (by omega) ?_
        refine gl_aload_n (pc := 671) dL_law_671 rfl ?_
        refine gl_iload_n (pc := 672) dL_law_672 rfl ?_
        refine gl_iconst (pc := 673) dL_law_673 ?_
        refine gl_iadd (pc := 674) dL_law_674 ?_
        refine gl_sld (pc := 675) dL_law_675 hbL (by omega) ?_
        refine gl_aload_n (pc := 676) dL_law_676 rfl ?_
        refine gl_iload_n (pc := 677) dL_law_677 rfl ?_
        refine gl_iconst (pc := 678) dL_law_678 ?_
        refine gl_iadd (pc := 679) dL_law_679 ?_
        refine gl_sld (pc := 680) dL_law_680 hbL (by omega) ?_
        refine gl_aload_n (pc := 681) dL_law_681 rfl ?_
        refine gl_iload_n (pc := 682) dL_law_682 rfl ?_
        refine gl_iconst (pc := 683) dL_law_683 ?_
        refine gl_iadd (pc := 684) dL_law_684 ?_
        refine gl_sld (pc := 685) dL_law_685 hbL (by omega) ?_
        refine gl_cV4i (pc := 686) dL_law_686 wm_L_81 my_X4_alter rfl rfl rfl (by first | exact gz_B1 | (omega)) (ct_X4_alter l D α cA h.1 (gz_rng _) (gz_rng _) (gz_rng _) (gz_rng _)) (fun x686 I686 h686 => ?_)
        have f1 := fX_alter h.1 h686
        have g1 := h.2.loc h.1 (fun _ _ => rfl) f1.2
        have hnx : 0 ≤ I686 (20, 0, 0) 10 ∧ I686 (20, 0, 0) 10 ≤ 100000 := by
          have u1 := g1.nx
          have u2 := g1.n0
          omega
        refine gl_aload_n (pc := 689) dL_law_689 rfl ?_
        refine gl_aload_n (pc := 690) dL_law_690 rfl ?_
        refine gl_iload_n (pc := 691) dL_law_691 rfl ?_
        refine gl_iconst (pc := 692) dL_law_692 ?_
        refine gl_iadd (pc := 693) dL_law_693 ?_
        refine gl_sld (pc := 694) dL_law_694 hbL (by omega) ?_
        refine gl_aload_n (pc := 695) dL_law_695 rfl ?_
        refine gl_iload_n (pc := 696) dL_law_696 rfl ?_
        refine gl_iconst (pc := 697) dL_law_697 ?_
        refine gl_iadd (pc := 698) dL_law_698 ?_
        refine gl_sld (pc := 699) dL_law_699 hbL (by omega) ?_
        refine gl_aload_n (pc := 700) dL_law_700 rfl ?_
        refine gl_iload_n (pc := 701) dL_law_701 rfl ?_
        refine gl_iconst (pc := 702) dL_law_702 ?_
        refine gl_iadd (pc := 703) dL_law_703 ?_
        refine gl_sld (pc := 704) dL_law_704 hbL (by omega) ?_
        refine gl_aload_n (pc := 705) dL_law_705 rfl ?_
        refine gl_iload_n (pc := 706) dL_law_706 rfl ?_
        refine gl_iconst (pc := 707) dL_law_707 ?_
        refine gl_iadd (pc := 708) dL_law_708 ?_
        refine gl_sld (pc := 709) dL_law_709 hbL (by omega) ?_
        refine gl_cV4i (pc := 710) dL_law_710 wm_L_84 my_X5_alter rfl rfl rfl (by first | exact gz_B1 | (omega)) (ct_X5_alter l D α cA f1.1 (gz_rng _) (gz_rng _) (gz_rng _) (gz_rng _)) (fun x710 I710 h710 => ?_)
        obtain ⟨e9, hR⟩ := st_alter h h686 h710
        subst e9
        refine gl_eq (pc := 713) (tgt := 774) dL_law_713 (by decide) ?_
        exact k774 _ hR
      · refine gl_swIn (pc := 33) (off := 685) (tgt := 718) dL_law_33 16 hsx (by decide) (by decide) (by decide) rfl (by decide) ?_
        refine gl_aload_n (pc := 718) dL_law_718 rfl ?_
        refine gl_aload_n (pc := 719) dL_law_719 rfl ?_
        refine gl_iload_n (pc := 720) dL_law_720 rfl ?_
        refine gl_iconst (pc := 721) dL_law_721 ?_
        refine gl_iadd (pc := 722) dL_law_722 ?_
        refine gl_sld (pc := 723) dL_law_723 hbL (by omega) ?_
        refine gl_aload_n (pc := 724) dL_law_724 rfl ?_
        refine gl_iload_n (pc := 725) dL_law_725 rfl ?_
        refine gl_iconst (pc := 726) dL_law_726 ?_
        refine gl_iadd (pc := 727) dL_law_727 ?_
        refine gl_sld (pc := 728) dL_law_728 hbL (by omega) ?_
        refine gl_cV2i (pc := 729) dL_law_729 wm_L_85 my_X4_lose rfl rfl rfl (by first | exact gz_B1 | (omega)) (ct_X4_lose l D α cA h.1 (gz_rng _) (gz_rng _)) (fun x729 I729 h729 => ?_)
        have f1 := fX_lose h.1 h729
        have g1 := h.2.loc h.1 (fun _ _ => rfl) f1.2
        have hnx : 0 ≤ I729 (20, 0, 0) 10 ∧ I729 (20, 0, 0) 10 ≤ 100000 := by
          have u1 := g1.nx
          have u2 := g1.n0
          omega
        refine gl_aload_n (pc := 732) dL_law_732 rfl ?_
        refine gl_aload_n (pc := 733) dL_law_733 rfl ?_
        refine gl_iload_n (pc := 734) dL_law_734 rfl ?_
        refine gl_iconst (pc := 735) dL_law_735 ?_
        refine gl_iadd (pc := 736) dL_law_736 ?_
        refine gl_sld (pc := 737) dL_law_737 hbL (by omega) ?_
        refine gl_aload_n (pc := 738) dL_law_738 rfl ?_
        refine gl_iload_n (pc := 739) dL_law_739 rfl ?_
        refine gl_iconst (pc := 740) dL_law_740 ?_
        refine gl_iadd (pc := 741) dL_law_741 ?_
        refine gl_sld (pc := 742) dL_law_742 hbL (by omega) ?_
        refine gl_cV2i (pc := 743) dL_law_743 wm_L_88 my_X5_lose rfl rfl rfl (by first | exact gz_B1 | (omega)) (ct_X5_lose l D α cA f1.1 (gz_rng _) (gz_rng _)) (fun x743 I743 h743 => ?_)
        obtain ⟨e9, hR⟩ := st_lose h h729 h743
        subst e9
        refine gl_eq (pc := 746) (tgt := 774) dL_law_746 (by decide) ?_
        exact k774 _ hR
      · refine gl_swIn (pc := 33) (off := 718) (tgt := 751) dL_law_33 17 hsx (by decide) (by decide) (by decide) rfl (by decide) ?_
        refine gl_aload_n (pc := 751) dL_law_751 rfl ?_
        refine gl_aload_n (pc := 752) dL_law_752 rfl ?_
        refine gl_iload_n (pc := 753) dL_law_753 rfl ?_
        refine gl_iconst (pc := 754) dL_law_754 ?_
        refine gl_iadd (pc := 755) dL_law_755 ?_
        refine gl_sld (pc := 756) dL_law_756 hbL (by omega) ?_
        refine gl_cV1i (pc := 757) dL_law_757 wm_L_89 my_X4_told rfl rfl rfl (by first | exact gz_B1 | (omega)) (ct_X4_told l D α cA h.1 (gz_rng _)) (fun x757 I757 h757 => ?_)
        have f1 := fX_told h.1 h757
        have g1 := h.2.loc h.1 (fun _ _ => rfl) f1.2
        have hnx : 0 ≤ I757 (20, 0, 0) 10 ∧ I757 (20, 0, 0) 10 ≤ 100000 := by
          have u1 := g1.nx
          have u2 := g1.n0
          omega
        refine gl_aload_n (pc := 760) dL_law_760 rfl ?_
        refine gl_aload_n (pc := 761) dL_law_761 rfl ?_
        refine gl_iload_n (pc := 762) dL_law_762 rfl ?_
        refine gl_iconst (pc := 763) dL_law_763 ?_
        refine gl_iadd (pc := 764) dL_law_764 ?_
        refine gl_sld (pc := 765) dL_law_765 hbL (by omega) ?_
        refine gl_cV1i (pc := 766) dL_law_766 wm_L_92 my_X5_told rfl rfl rfl (by first | exact gz_B1 | (omega)) (ct_X5_told l D α cA f1.1 (gz_rng _)) (fun x766 I766 h766 => ?_)
        obtain ⟨e9, hR⟩ := st_told h h757 h766
        subst e9
        refine gl_eq (pc := 769) (tgt := 774) dL_law_769 (by decide) ?_
        exact k774 _ hR
