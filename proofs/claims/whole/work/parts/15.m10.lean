set_option maxHeartbeats 2000000 in
set_option maxRecDepth 20000 in
theorem s_L_law {G : Z_G} (hG : z_GG G) (h : Z_H) : Z_S G iL_law 0 [some (.retAddr 0), none, none, none] [] h (f_L_law G.2.2.2.2.1 G.2.2.2.2.2 h) some := by
  unfold f_L_law
  refine z_nwO cX9 (pc := 0) dL_law_0 w_20 w_21 w_1 (by decide +kernel) (fun r1 h2 => ?_)
  refine z_dup (pc := 3) dL_law_3 rfl ?_
  refine z_cIV (As := []) (rest := [.ref r1]) hG.1 (m_X9_init hG h2 r1) oX9_init (pc := 4) dL_law_4 rfl w_22 rfl rfl rfl rfl (fun h3 => ?_)
  refine z_astore_n (i := 1) (la' := [some (.retAddr 0), some (.ref r1), none, none]) (pc := 7) dL_law_7 rfl (by decide) rfl rfl ?_
  refine z_nwO cX10 (pc := 8) dL_law_8 w_1069 w_1070 w_11 (by decide +kernel) (fun r4 h5 => ?_)
  refine z_dup (pc := 11) dL_law_11 rfl ?_
  refine z_cIV (As := []) (rest := [.ref r4]) hG.1 (m_X10_init hG h5 r4) oX10_init (pc := 12) dL_law_12 rfl w_1071 rfl rfl rfl rfl (fun h6 => ?_)
  refine z_astore_n (i := 2) (la' := [some (.retAddr 0), some (.ref r1), some (.ref r4), none]) (pc := 15) dL_law_15 rfl (by decide) rfl rfl ?_
  refine z_iconst (v := 0) (pc := 16) dL_law_16 (by decide) ?_
  refine z_istore_n (i := 3) (la' := [some (.retAddr 0), some (.ref r1), some (.ref r4), some (.int 0)]) (pc := 17) dL_law_17 rfl (by decide) rfl rfl ?_
  refine z_lpR (T2 := Z_H) (s0 := (0, h6)) 18 (fun ((v7, h8) : Int32 × Z_H) => [some (.retAddr 0), some (.ref r1), some (.ref r4), some (.int v7)]) (fun ((v7, h8) : Int32 × Z_H) => h8) (fun _ => 1246) (fun (h9 : Z_H) => [none, none, none, none]) (fun (h9 : Z_H) => h9) ?_ ?_ ?_
  · intro x h
    rfl
  · rintro h9
    try dsimp only
    refine z_iconst (v := 1) (pc := 1246) dL_law_1246 (by decide) ?_
    exact z_ireturn (pc := 1247) dL_law_1247 rfl (by decide) rfl
  intro k' hkr hx1 rec10 hrec10
  rintro ⟨v7, h8⟩
  unfold f_L_law_l1
  try dsimp only
  refine z_iload_n (x := v7) (pc := 18) dL_law_18 rfl rfl ?_
  refine z_sload_n (x := 0) (pc := 19) dL_law_19 rfl rfl ?_
  refine z_slen (pc := 20) dL_law_20 ?_
  refine z_bipush (v := 6) (pc := 21) dL_law_21 (by decide) ?_
  refine z_isub (pc := 23) dL_law_23 ?_
  refine z_ic_gt (tgt := 1246) (pc := 24) dL_law_24 (by decide) (fun _ => ?_) (fun _ => ?_)
  · exact z_wk (hx1 h8) trivial
  refine z_sload_n (x := 0) (pc := 27) dL_law_27 rfl rfl ?_
  refine z_iload_n (x := v7) (pc := 28) dL_law_28 rfl rfl ?_
  refine z_sld (pc := 29) dL_law_29 (fun t11 => ?_)
  refine z_bipush (v := 31) (pc := 30) dL_law_30 (by decide) ?_
  refine z_iand (pc := 32) dL_law_32 ?_
  refine z_nm (fun v12 => ?_)
  refine z_jn 1240 (fun (h13 : Z_H) => [some (.retAddr 0), some (.ref r1), some (.ref r4), some (.int v7)]) (fun (h13 : Z_H) => []) (fun (h13 : Z_H) => h13) ?_ ?_
  · rintro h13
    try dsimp only
    refine z_iinc (i := 3) (x := v7) (v := (v7 + 6)) (la' := [some (.retAddr 0), some (.ref r1), some (.ref r4), some (.int (v7 + 6))]) (pc := 1240) dL_law_1240 rfl rfl (by decide) rfl rfl ?_
    refine z_goto (tgt := 18) (pc := 1243) dL_law_1243 (by decide) ?_
    exact hrec10 ((v7 + 6), h13)
  intro j14 hj14
  refine z_bz (fun hs0 => ?_) (fun hs0 => ?_)
  · refine z_tsw (tgt := 168) (off := 135) (pc := 33) dL_law_33 (by rw [hs0]; decide) (by rw [hs0]; decide) (by rw [hs0]; rfl) (by decide) ?_
    refine z_aload_n (x := r1) (pc := 168) dL_law_168 rfl rfl ?_
    refine z_sload_n (x := 0) (pc := 169) dL_law_169 rfl rfl ?_
    refine z_iload_n (x := v7) (pc := 170) dL_law_170 rfl rfl ?_
    refine z_iconst (v := 1) (pc := 171) dL_law_171 (by decide) ?_
    refine z_iadd (pc := 172) dL_law_172 ?_
    refine z_sld (pc := 173) dL_law_173 (fun t15 => ?_)
    refine z_sload_n (x := 0) (pc := 174) dL_law_174 rfl rfl ?_
    refine z_iload_n (x := v7) (pc := 175) dL_law_175 rfl rfl ?_
    refine z_iconst (v := 2) (pc := 176) dL_law_176 (by decide) ?_
    refine z_iadd (pc := 177) dL_law_177 ?_
    refine z_sld (pc := 178) dL_law_178 (fun t16 => ?_)
    refine z_sload_n (x := 0) (pc := 179) dL_law_179 rfl rfl ?_
    refine z_iload_n (x := v7) (pc := 180) dL_law_180 rfl rfl ?_
    refine z_iconst (v := 3) (pc := 181) dL_law_181 (by decide) ?_
    refine z_iadd (pc := 182) dL_law_182 ?_
    refine z_sld (pc := 183) dL_law_183 (fun t17 => ?_)
    refine z_sload_n (x := 0) (pc := 184) dL_law_184 rfl rfl ?_
    refine z_iload_n (x := v7) (pc := 185) dL_law_185 rfl rfl ?_
    refine z_iconst (v := 4) (pc := 186) dL_law_186 (by decide) ?_
    refine z_iadd (pc := 187) dL_law_187 ?_
    refine z_sld (pc := 188) dL_law_188 (fun t18 => ?_)
    refine z_sload_n (x := 0) (pc := 189) dL_law_189 rfl rfl ?_
    refine z_iload_n (x := v7) (pc := 190) dL_law_190 rfl rfl ?_
    refine z_iconst (v := 5) (pc := 191) dL_law_191 (by decide) ?_
    refine z_iadd (pc := 192) dL_law_192 ?_
    refine z_sld (pc := 193) dL_law_193 (fun t19 => ?_)
    refine z_dVI (As := [.int t15, .int t16, .int t17, .int t18, .int t19]) (rest := []) hG.1 (m_X9_feed hG h8 r1 t15 t16 t17 t18 t19) (fun _ e => z_gdb e) oX9_feed (pc := 194) dL_law_194 rfl w_419 rfl rfl rfl (fun t20 h21 => ?_)
    refine z_aload_n (x := r4) (pc := 197) dL_law_197 rfl rfl ?_
    refine z_sload_n (x := 0) (pc := 198) dL_law_198 rfl rfl ?_
    refine z_iload_n (x := v7) (pc := 199) dL_law_199 rfl rfl ?_
    refine z_iconst (v := 1) (pc := 200) dL_law_200 (by decide) ?_
    refine z_iadd (pc := 201) dL_law_201 ?_
    refine z_sld (pc := 202) dL_law_202 (fun t22 => ?_)
    refine z_sload_n (x := 0) (pc := 203) dL_law_203 rfl rfl ?_
    refine z_iload_n (x := v7) (pc := 204) dL_law_204 rfl rfl ?_
    refine z_iconst (v := 2) (pc := 205) dL_law_205 (by decide) ?_
    refine z_iadd (pc := 206) dL_law_206 ?_
    refine z_sld (pc := 207) dL_law_207 (fun t23 => ?_)
    refine z_sload_n (x := 0) (pc := 208) dL_law_208 rfl rfl ?_
    refine z_iload_n (x := v7) (pc := 209) dL_law_209 rfl rfl ?_
    refine z_iconst (v := 3) (pc := 210) dL_law_210 (by decide) ?_
    refine z_iadd (pc := 211) dL_law_211 ?_
    refine z_sld (pc := 212) dL_law_212 (fun t24 => ?_)
    refine z_sload_n (x := 0) (pc := 213) dL_law_213 rfl rfl ?_
    refine z_iload_n (x := v7) (pc := 214) dL_law_214 rfl rfl ?_
    refine z_iconst (v := 4) (pc := 215) dL_law_215 (by decide) ?_
    refine z_iadd (pc := 216) dL_law_216 ?_
    refine z_sld (pc := 217) dL_law_217 (fun t25 => ?_)
    refine z_sload_n (x := 0) (pc := 218) dL_law_218 rfl rfl ?_
    refine z_iload_n (x := v7) (pc := 219) dL_law_219 rfl rfl ?_
    refine z_iconst (v := 5) (pc := 220) dL_law_220 (by decide) ?_
    refine z_iadd (pc := 221) dL_law_221 ?_
    refine z_sld (pc := 222) dL_law_222 (fun t26 => ?_)
    refine z_dVI (As := [.int t22, .int t23, .int t24, .int t25, .int t26]) (rest := [.int t20]) hG.1 (m_X10_feed hG h21 r4 t22 t23 t24 t25 t26) (fun _ e => z_gdb e) oX10_feed (pc := 223) dL_law_223 rfl w_1167 rfl rfl rfl (fun t27 h28 => ?_)
    refine z_ic_eq (tgt := 1240) (pc := 226) dL_law_226 (by decide) (fun _ => ?_) (fun _ => ?_)
    · exact hj14 h28
    refine z_iconst (v := 0) (pc := 229) dL_law_229 (by decide) ?_
    exact z_ireturn (pc := 230) dL_law_230 rfl (by decide) (hkr _ _)
  refine z_bz (fun hs1 => ?_) (fun hs1 => ?_)
  · refine z_tsw (tgt := 231) (off := 198) (pc := 33) dL_law_33 (by rw [hs1]; decide) (by rw [hs1]; decide) (by rw [hs1]; rfl) (by decide) ?_
    refine z_aload_n (x := r1) (pc := 231) dL_law_231 rfl rfl ?_
    refine z_sload_n (x := 0) (pc := 232) dL_law_232 rfl rfl ?_
    refine z_iload_n (x := v7) (pc := 233) dL_law_233 rfl rfl ?_
    refine z_iconst (v := 1) (pc := 234) dL_law_234 (by decide) ?_
    refine z_iadd (pc := 235) dL_law_235 ?_
    refine z_sld (pc := 236) dL_law_236 (fun t29 => ?_)
    refine z_dVI (As := [.int t29]) (rest := []) hG.1 (m_X9_end hG h8 r1 t29) (fun _ e => z_gdb e) oX9_end (pc := 237) dL_law_237 rfl w_427 rfl rfl rfl (fun t30 h31 => ?_)
    refine z_aload_n (x := r4) (pc := 240) dL_law_240 rfl rfl ?_
    refine z_sload_n (x := 0) (pc := 241) dL_law_241 rfl rfl ?_
    refine z_iload_n (x := v7) (pc := 242) dL_law_242 rfl rfl ?_
    refine z_iconst (v := 1) (pc := 243) dL_law_243 (by decide) ?_
    refine z_iadd (pc := 244) dL_law_244 ?_
    refine z_sld (pc := 245) dL_law_245 (fun t32 => ?_)
    refine z_dVI (As := [.int t32]) (rest := [.int t30]) hG.1 (m_X10_end hG h31 r4 t32) (fun _ e => z_gdb e) oX10_end (pc := 246) dL_law_246 rfl w_1175 rfl rfl rfl (fun t33 h34 => ?_)
    refine z_ic_eq (tgt := 1240) (pc := 249) dL_law_249 (by decide) (fun _ => ?_) (fun _ => ?_)
    · exact hj14 h34
    refine z_iconst (v := 0) (pc := 252) dL_law_252 (by decide) ?_
    exact z_ireturn (pc := 253) dL_law_253 rfl (by decide) (hkr _ _)
  refine z_bz (fun hs2 => ?_) (fun hs2 => ?_)
  · refine z_tsw (tgt := 254) (off := 221) (pc := 33) dL_law_33 (by rw [hs2]; decide) (by rw [hs2]; decide) (by rw [hs2]; rfl) (by decide) ?_
    refine z_aload_n (x := r1) (pc := 254) dL_law_254 rfl rfl ?_
    refine z_dVI (As := []) (rest := []) hG.1 (m_X9_plan hG h8 r1) (fun _ e => z_gdb e) oX9_plan (pc := 255) dL_law_255 rfl w_431 rfl rfl rfl (fun t35 h36 => ?_)
    refine z_aload_n (x := r4) (pc := 258) dL_law_258 rfl rfl ?_
    refine z_dVI (As := []) (rest := [.int t35]) hG.1 (m_X10_plan hG h36 r4) (fun _ e => z_gdb e) oX10_plan (pc := 259) dL_law_259 rfl w_1182 rfl rfl rfl (fun t37 h38 => ?_)
    refine z_ic_eq (tgt := 1240) (pc := 262) dL_law_262 (by decide) (fun _ => ?_) (fun _ => ?_)
    · exact hj14 h38
    refine z_iconst (v := 0) (pc := 265) dL_law_265 (by decide) ?_
    exact z_ireturn (pc := 266) dL_law_266 rfl (by decide) (hkr _ _)
  refine z_bz (fun hs3 => ?_) (fun hs3 => ?_)
  · refine z_tsw (tgt := 267) (off := 234) (pc := 33) dL_law_33 (by rw [hs3]; decide) (by rw [hs3]; decide) (by rw [hs3]; rfl) (by decide) ?_
    refine z_aload_n (x := r1) (pc := 267) dL_law_267 rfl rfl ?_
    refine z_sload_n (x := 0) (pc := 268) dL_law_268 rfl rfl ?_
    refine z_iload_n (x := v7) (pc := 269) dL_law_269 rfl rfl ?_
    refine z_iconst (v := 1) (pc := 270) dL_law_270 (by decide) ?_
    refine z_iadd (pc := 271) dL_law_271 ?_
    refine z_sld (pc := 272) dL_law_272 (fun t39 => ?_)
    refine z_cVP (As := [.int t39]) (rest := []) hG.1 (m_X9_fault hG h8 r1 t39) (fun _ e => z_gdb e) oX9_fault (pc := 273) dL_law_273 rfl w_610 rfl rfl rfl (fun t40 => ?_)
    refine z_aload_n (x := r4) (pc := 276) dL_law_276 rfl rfl ?_
    refine z_sload_n (x := 0) (pc := 277) dL_law_277 rfl rfl ?_
    refine z_iload_n (x := v7) (pc := 278) dL_law_278 rfl rfl ?_
    refine z_iconst (v := 1) (pc := 279) dL_law_279 (by decide) ?_
    refine z_iadd (pc := 280) dL_law_280 ?_
    refine z_sld (pc := 281) dL_law_281 (fun t41 => ?_)
    refine z_dVI (As := [.int t41]) (rest := [.int t40]) hG.1 (m_X10_fault hG h8 r4 t41) (fun _ e => z_gdb e) oX10_fault (pc := 282) dL_law_282 rfl w_1239 rfl rfl rfl (fun t42 h43 => ?_)
    refine z_ic_eq (tgt := 1240) (pc := 285) dL_law_285 (by decide) (fun _ => ?_) (fun _ => ?_)
    · exact hj14 h43
    refine z_iconst (v := 0) (pc := 288) dL_law_288 (by decide) ?_
    exact z_ireturn (pc := 289) dL_law_289 rfl (by decide) (hkr _ _)
  refine z_bz (fun hs4 => ?_) (fun hs4 => ?_)
  · refine z_tsw (tgt := 290) (off := 257) (pc := 33) dL_law_33 (by rw [hs4]; decide) (by rw [hs4]; decide) (by rw [hs4]; rfl) (by decide) ?_
    refine z_aload_n (x := r1) (pc := 290) dL_law_290 rfl rfl ?_
    refine z_sload_n (x := 0) (pc := 291) dL_law_291 rfl rfl ?_
    refine z_iload_n (x := v7) (pc := 292) dL_law_292 rfl rfl ?_
    refine z_iconst (v := 1) (pc := 293) dL_law_293 (by decide) ?_
    refine z_iadd (pc := 294) dL_law_294 ?_
    refine z_sld (pc := 295) dL_law_295 (fun t44 => ?_)
    refine z_dVI (As := [.int t44]) (rest := []) hG.1 (m_X9_months hG h8 r1 t44) (fun _ e => z_gdb e) oX9_months (pc := 296) dL_law_296 rfl w_614 rfl rfl rfl (fun t45 h46 => ?_)
    refine z_aload_n (x := r4) (pc := 299) dL_law_299 rfl rfl ?_
    refine z_sload_n (x := 0) (pc := 300) dL_law_300 rfl rfl ?_
    refine z_iload_n (x := v7) (pc := 301) dL_law_301 rfl rfl ?_
    refine z_iconst (v := 1) (pc := 302) dL_law_302 (by decide) ?_
    refine z_iadd (pc := 303) dL_law_303 ?_
    refine z_sld (pc := 304) dL_law_304 (fun t47 => ?_)
    refine z_dVI (As := [.int t47]) (rest := [.int t45]) hG.1 (m_X10_months hG h46 r4 t47) (fun _ e => z_gdb e) oX10_months (pc := 305) dL_law_305 rfl w_1243 rfl rfl rfl (fun t48 h49 => ?_)
    refine z_ic_eq (tgt := 1240) (pc := 308) dL_law_308 (by decide) (fun _ => ?_) (fun _ => ?_)
    · exact hj14 h49
    refine z_iconst (v := 0) (pc := 311) dL_law_311 (by decide) ?_
    exact z_ireturn (pc := 312) dL_law_312 rfl (by decide) (hkr _ _)
  refine z_bz (fun hs5 => ?_) (fun hs5 => ?_)
  · refine z_tsw (tgt := 313) (off := 280) (pc := 33) dL_law_33 (by rw [hs5]; decide) (by rw [hs5]; decide) (by rw [hs5]; rfl) (by decide) ?_
    refine z_aload_n (x := r1) (pc := 313) dL_law_313 rfl rfl ?_
    refine z_sload_n (x := 0) (pc := 314) dL_law_314 rfl rfl ?_
    refine z_iload_n (x := v7) (pc := 315) dL_law_315 rfl rfl ?_
    refine z_iconst (v := 1) (pc := 316) dL_law_316 (by decide) ?_
    refine z_iadd (pc := 317) dL_law_317 ?_
    refine z_sld (pc := 318) dL_law_318 (fun t50 => ?_)
    refine z_dVI (As := [.int t50]) (rest := []) hG.1 (m_X9_join hG h8 r1 t50) (fun _ e => z_gdb e) oX9_join (pc := 319) dL_law_319 rfl w_618 rfl rfl rfl (fun t51 h52 => ?_)
    refine z_aload_n (x := r4) (pc := 322) dL_law_322 rfl rfl ?_
    refine z_sload_n (x := 0) (pc := 323) dL_law_323 rfl rfl ?_
    refine z_iload_n (x := v7) (pc := 324) dL_law_324 rfl rfl ?_
    refine z_iconst (v := 1) (pc := 325) dL_law_325 (by decide) ?_
    refine z_iadd (pc := 326) dL_law_326 ?_
    refine z_sld (pc := 327) dL_law_327 (fun t53 => ?_)
    refine z_dVI (As := [.int t53]) (rest := [.int t51]) hG.1 (m_X10_join hG h52 r4 t53) (fun _ e => z_gdb e) oX10_join (pc := 328) dL_law_328 rfl w_1251 rfl rfl rfl (fun t54 h55 => ?_)
    refine z_ic_eq (tgt := 1240) (pc := 331) dL_law_331 (by decide) (fun _ => ?_) (fun _ => ?_)
    · exact hj14 h55
    refine z_iconst (v := 0) (pc := 334) dL_law_334 (by decide) ?_
    exact z_ireturn (pc := 335) dL_law_335 rfl (by decide) (hkr _ _)
  refine z_bz (fun hs6 => ?_) (fun hs6 => ?_)
  · refine z_tsw (tgt := 336) (off := 303) (pc := 33) dL_law_33 (by rw [hs6]; decide) (by rw [hs6]; decide) (by rw [hs6]; rfl) (by decide) ?_
    refine z_aload_n (x := r1) (pc := 336) dL_law_336 rfl rfl ?_
    refine z_sload_n (x := 0) (pc := 337) dL_law_337 rfl rfl ?_
    refine z_iload_n (x := v7) (pc := 338) dL_law_338 rfl rfl ?_
    refine z_iconst (v := 1) (pc := 339) dL_law_339 (by decide) ?_
    refine z_iadd (pc := 340) dL_law_340 ?_
    refine z_sld (pc := 341) dL_law_341 (fun t56 => ?_)
    refine z_sload_n (x := 0) (pc := 342) dL_law_342 rfl rfl ?_
    refine z_iload_n (x := v7) (pc := 343) dL_law_343 rfl rfl ?_
    refine z_iconst (v := 2) (pc := 344) dL_law_344 (by decide) ?_
    refine z_iadd (pc := 345) dL_law_345 ?_
    refine z_sld (pc := 346) dL_law_346 (fun t57 => ?_)
    refine z_sload_n (x := 0) (pc := 347) dL_law_347 rfl rfl ?_
    refine z_iload_n (x := v7) (pc := 348) dL_law_348 rfl rfl ?_
    refine z_iconst (v := 3) (pc := 349) dL_law_349 (by decide) ?_
    refine z_iadd (pc := 350) dL_law_350 ?_
    refine z_sld (pc := 351) dL_law_351 (fun t58 => ?_)
    refine z_dVI (As := [.int t56, .int t57, .int t58]) (rest := []) hG.1 (m_X9_move hG h8 r1 t56 t57 t58) (fun _ e => z_gdb e) oX9_move (pc := 352) dL_law_352 rfl w_635 rfl rfl rfl (fun t59 h60 => ?_)
    refine z_aload_n (x := r4) (pc := 355) dL_law_355 rfl rfl ?_
    refine z_sload_n (x := 0) (pc := 356) dL_law_356 rfl rfl ?_
    refine z_iload_n (x := v7) (pc := 357) dL_law_357 rfl rfl ?_
    refine z_iconst (v := 1) (pc := 358) dL_law_358 (by decide) ?_
    refine z_iadd (pc := 359) dL_law_359 ?_
    refine z_sld (pc := 360) dL_law_360 (fun t61 => ?_)
    refine z_sload_n (x := 0) (pc := 361) dL_law_361 rfl rfl ?_
    refine z_iload_n (x := v7) (pc := 362) dL_law_362 rfl rfl ?_
    refine z_iconst (v := 2) (pc := 363) dL_law_363 (by decide) ?_
    refine z_iadd (pc := 364) dL_law_364 ?_
    refine z_sld (pc := 365) dL_law_365 (fun t62 => ?_)
    refine z_sload_n (x := 0) (pc := 366) dL_law_366 rfl rfl ?_
    refine z_iload_n (x := v7) (pc := 367) dL_law_367 rfl rfl ?_
    refine z_iconst (v := 3) (pc := 368) dL_law_368 (by decide) ?_
    refine z_iadd (pc := 369) dL_law_369 ?_
    refine z_sld (pc := 370) dL_law_370 (fun t63 => ?_)
    refine z_dVI (As := [.int t61, .int t62, .int t63]) (rest := [.int t59]) hG.1 (m_X10_move hG h60 r4 t61 t62 t63) (fun _ e => z_gdb e) oX10_move (pc := 371) dL_law_371 rfl w_1295 rfl rfl rfl (fun t64 h65 => ?_)
    refine z_ic_eq (tgt := 1240) (pc := 374) dL_law_374 (by decide) (fun _ => ?_) (fun _ => ?_)
    · exact hj14 h65
    refine z_iconst (v := 0) (pc := 377) dL_law_377 (by decide) ?_
    exact z_ireturn (pc := 378) dL_law_378 rfl (by decide) (hkr _ _)
  refine z_bz (fun hs7 => ?_) (fun hs7 => ?_)
  · refine z_tsw (tgt := 379) (off := 346) (pc := 33) dL_law_33 (by rw [hs7]; decide) (by rw [hs7]; decide) (by rw [hs7]; rfl) (by decide) ?_
    refine z_aload_n (x := r1) (pc := 379) dL_law_379 rfl rfl ?_
    refine z_sload_n (x := 0) (pc := 380) dL_law_380 rfl rfl ?_
    refine z_iload_n (x := v7) (pc := 381) dL_law_381 rfl rfl ?_
    refine z_iconst (v := 1) (pc := 382) dL_law_382 (by decide) ?_
    refine z_iadd (pc := 383) dL_law_383 ?_
    refine z_sld (pc := 384) dL_law_384 (fun t66 => ?_)
    refine z_dVI (As := [.int t66]) (rest := []) hG.1 (m_X9_quit hG h8 r1 t66) (fun _ e => z_gdb e) oX9_quit (pc := 385) dL_law_385 rfl w_671 rfl rfl rfl (fun t67 h68 => ?_)
    refine z_aload_n (x := r4) (pc := 388) dL_law_388 rfl rfl ?_
    refine z_sload_n (x := 0) (pc := 389) dL_law_389 rfl rfl ?_
    refine z_iload_n (x := v7) (pc := 390) dL_law_390 rfl rfl ?_
    refine z_iconst (v := 1) (pc := 391) dL_law_391 (by decide) ?_
    refine z_iadd (pc := 392) dL_law_392 ?_
    refine z_sld (pc := 393) dL_law_393 (fun t69 => ?_)
    refine z_dVI (As := [.int t69]) (rest := [.int t67]) hG.1 (m_X10_quit hG h68 r4 t69) (fun _ e => z_gdb e) oX10_quit (pc := 394) dL_law_394 rfl w_1303 rfl rfl rfl (fun t70 h71 => ?_)
    refine z_ic_eq (tgt := 1240) (pc := 397) dL_law_397 (by decide) (fun _ => ?_) (fun _ => ?_)
    · exact hj14 h71
    refine z_iconst (v := 0) (pc := 400) dL_law_400 (by decide) ?_
    exact z_ireturn (pc := 401) dL_law_401 rfl (by decide) (hkr _ _)
  refine z_bz (fun hs8 => ?_) (fun hs8 => ?_)
  · refine z_tsw (tgt := 402) (off := 369) (pc := 33) dL_law_33 (by rw [hs8]; decide) (by rw [hs8]; decide) (by rw [hs8]; rfl) (by decide) ?_
    refine z_aload_n (x := r1) (pc := 402) dL_law_402 rfl rfl ?_
    refine z_sload_n (x := 0) (pc := 403) dL_law_403 rfl rfl ?_
    refine z_iload_n (x := v7) (pc := 404) dL_law_404 rfl rfl ?_
    refine z_iconst (v := 1) (pc := 405) dL_law_405 (by decide) ?_
    refine z_iadd (pc := 406) dL_law_406 ?_
    refine z_sld (pc := 407) dL_law_407 (fun t72 => ?_)
    refine z_sload_n (x := 0) (pc := 408) dL_law_408 rfl rfl ?_
    refine z_iload_n (x := v7) (pc := 409) dL_law_409 rfl rfl ?_
    refine z_iconst (v := 2) (pc := 410) dL_law_410 (by decide) ?_
    refine z_iadd (pc := 411) dL_law_411 ?_
    refine z_sld (pc := 412) dL_law_412 (fun t73 => ?_)
    refine z_sload_n (x := 0) (pc := 413) dL_law_413 rfl rfl ?_
    refine z_iload_n (x := v7) (pc := 414) dL_law_414 rfl rfl ?_
    refine z_iconst (v := 3) (pc := 415) dL_law_415 (by decide) ?_
    refine z_iadd (pc := 416) dL_law_416 ?_
    refine z_sld (pc := 417) dL_law_417 (fun t74 => ?_)
    refine z_dVI (As := [.int t72, .int t73, .int t74]) (rest := []) hG.1 (m_X9_sell hG h8 r1 t72 t73 t74) (fun _ e => z_gdb e) oX9_sell (pc := 418) dL_law_418 rfl w_709 rfl rfl rfl (fun t75 h76 => ?_)
    refine z_aload_n (x := r4) (pc := 421) dL_law_421 rfl rfl ?_
    refine z_sload_n (x := 0) (pc := 422) dL_law_422 rfl rfl ?_
    refine z_iload_n (x := v7) (pc := 423) dL_law_423 rfl rfl ?_
    refine z_iconst (v := 1) (pc := 424) dL_law_424 (by decide) ?_
    refine z_iadd (pc := 425) dL_law_425 ?_
    refine z_sld (pc := 426) dL_law_426 (fun t77 => ?_)
    refine z_sload_n (x := 0) (pc := 427) dL_law_427 rfl rfl ?_
    refine z_iload_n (x := v7) (pc := 428) dL_law_428 rfl rfl ?_
    refine z_iconst (v := 2) (pc := 429) dL_law_429 (by decide) ?_
    refine z_iadd (pc := 430) dL_law_430 ?_
    refine z_sld (pc := 431) dL_law_431 (fun t78 => ?_)
    refine z_sload_n (x := 0) (pc := 432) dL_law_432 rfl rfl ?_
    refine z_iload_n (x := v7) (pc := 433) dL_law_433 rfl rfl ?_
    refine z_iconst (v := 3) (pc := 434) dL_law_434 (by decide) ?_
    refine z_iadd (pc := 435) dL_law_435 ?_
    refine z_sld (pc := 436) dL_law_436 (fun t79 => ?_)
    refine z_dVI (As := [.int t77, .int t78, .int t79]) (rest := [.int t75]) hG.1 (m_X10_sell hG h76 r4 t77 t78 t79) (fun _ e => z_gdb e) oX10_sell (pc := 437) dL_law_437 rfl w_1338 rfl rfl rfl (fun t80 h81 => ?_)
    refine z_ic_eq (tgt := 1240) (pc := 440) dL_law_440 (by decide) (fun _ => ?_) (fun _ => ?_)
    · exact hj14 h81
    refine z_iconst (v := 0) (pc := 443) dL_law_443 (by decide) ?_
    exact z_ireturn (pc := 444) dL_law_444 rfl (by decide) (hkr _ _)
  refine z_bz (fun hs9 => ?_) (fun hs9 => ?_)
  · refine z_tsw (tgt := 445) (off := 412) (pc := 33) dL_law_33 (by rw [hs9]; decide) (by rw [hs9]; decide) (by rw [hs9]; rfl) (by decide) ?_
    refine z_aload_n (x := r1) (pc := 445) dL_law_445 rfl rfl ?_
    refine z_sload_n (x := 0) (pc := 446) dL_law_446 rfl rfl ?_
    refine z_iload_n (x := v7) (pc := 447) dL_law_447 rfl rfl ?_
    refine z_iconst (v := 1) (pc := 448) dL_law_448 (by decide) ?_
    refine z_iadd (pc := 449) dL_law_449 ?_
    refine z_sld (pc := 450) dL_law_450 (fun t82 => ?_)
    refine z_sload_n (x := 0) (pc := 451) dL_law_451 rfl rfl ?_
    refine z_iload_n (x := v7) (pc := 452) dL_law_452 rfl rfl ?_
    refine z_iconst (v := 2) (pc := 453) dL_law_453 (by decide) ?_
    refine z_iadd (pc := 454) dL_law_454 ?_
    refine z_sld (pc := 455) dL_law_455 (fun t83 => ?_)
    refine z_dVI (As := [.int t82, .int t83]) (rest := []) hG.1 (m_X9_back hG h8 r1 t82 t83) (fun _ e => z_gdb e) oX9_back (pc := 456) dL_law_456 rfl w_808 rfl rfl rfl (fun t84 h85 => ?_)
    refine z_aload_n (x := r4) (pc := 459) dL_law_459 rfl rfl ?_
    refine z_sload_n (x := 0) (pc := 460) dL_law_460 rfl rfl ?_
    refine z_iload_n (x := v7) (pc := 461) dL_law_461 rfl rfl ?_
    refine z_iconst (v := 1) (pc := 462) dL_law_462 (by decide) ?_
    refine z_iadd (pc := 463) dL_law_463 ?_
    refine z_sld (pc := 464) dL_law_464 (fun t86 => ?_)
    refine z_sload_n (x := 0) (pc := 465) dL_law_465 rfl rfl ?_
    refine z_iload_n (x := v7) (pc := 466) dL_law_466 rfl rfl ?_
    refine z_iconst (v := 2) (pc := 467) dL_law_467 (by decide) ?_
    refine z_iadd (pc := 468) dL_law_468 ?_
    refine z_sld (pc := 469) dL_law_469 (fun t87 => ?_)
    refine z_dVI (As := [.int t86, .int t87]) (rest := [.int t84]) hG.1 (m_X10_back hG h85 r4 t86 t87) (fun _ e => z_gdb e) oX10_back (pc := 470) dL_law_470 rfl w_1404 rfl rfl rfl (fun t88 h89 => ?_)
    refine z_ic_eq (tgt := 1240) (pc := 473) dL_law_473 (by decide) (fun _ => ?_) (fun _ => ?_)
    · exact hj14 h89
    refine z_iconst (v := 0) (pc := 476) dL_law_476 (by decide) ?_
    exact z_ireturn (pc := 477) dL_law_477 rfl (by decide) (hkr _ _)
  refine z_bz (fun hs10 => ?_) (fun hs10 => ?_)
  · refine z_tsw (tgt := 478) (off := 445) (pc := 33) dL_law_33 (by rw [hs10]; decide) (by rw [hs10]; decide) (by rw [hs10]; rfl) (by decide) ?_
    refine z_aload_n (x := r1) (pc := 478) dL_law_478 rfl rfl ?_
    refine z_sload_n (x := 0) (pc := 479) dL_law_479 rfl rfl ?_
    refine z_iload_n (x := v7) (pc := 480) dL_law_480 rfl rfl ?_
    refine z_iconst (v := 1) (pc := 481) dL_law_481 (by decide) ?_
    refine z_iadd (pc := 482) dL_law_482 ?_
    refine z_sld (pc := 483) dL_law_483 (fun t90 => ?_)
    refine z_sload_n (x := 0) (pc := 484) dL_law_484 rfl rfl ?_
    refine z_iload_n (x := v7) (pc := 485) dL_law_485 rfl rfl ?_
    refine z_iconst (v := 2) (pc := 486) dL_law_486 (by decide) ?_
    refine z_iadd (pc := 487) dL_law_487 ?_
    refine z_sld (pc := 488) dL_law_488 (fun t91 => ?_)
    refine z_dVI (As := [.int t90, .int t91]) (rest := []) hG.1 (m_X9_draw hG h8 r1 t90 t91) (fun _ e => z_gdb e) oX9_draw (pc := 489) dL_law_489 rfl w_818 rfl rfl rfl (fun t92 h93 => ?_)
    refine z_aload_n (x := r4) (pc := 492) dL_law_492 rfl rfl ?_
    refine z_sload_n (x := 0) (pc := 493) dL_law_493 rfl rfl ?_
    refine z_iload_n (x := v7) (pc := 494) dL_law_494 rfl rfl ?_
    refine z_iconst (v := 1) (pc := 495) dL_law_495 (by decide) ?_
    refine z_iadd (pc := 496) dL_law_496 ?_
    refine z_sld (pc := 497) dL_law_497 (fun t94 => ?_)
    refine z_sload_n (x := 0) (pc := 498) dL_law_498 rfl rfl ?_
    refine z_iload_n (x := v7) (pc := 499) dL_law_499 rfl rfl ?_
    refine z_iconst (v := 2) (pc := 500) dL_law_500 (by decide) ?_
    refine z_iadd (pc := 501) dL_law_501 ?_
    refine z_sld (pc := 502) dL_law_502 (fun t95 => ?_)
    refine z_dVI (As := [.int t94, .int t95]) (rest := [.int t92]) hG.1 (m_X10_draw hG h93 r4 t94 t95) (fun _ e => z_gdb e) oX10_draw (pc := 503) dL_law_503 rfl w_1412 rfl rfl rfl (fun t96 h97 => ?_)
    refine z_ic_eq (tgt := 1240) (pc := 506) dL_law_506 (by decide) (fun _ => ?_) (fun _ => ?_)
    · exact hj14 h97
    refine z_iconst (v := 0) (pc := 509) dL_law_509 (by decide) ?_
    exact z_ireturn (pc := 510) dL_law_510 rfl (by decide) (hkr _ _)
  refine z_bz (fun hs11 => ?_) (fun hs11 => ?_)
  · refine z_tsw (tgt := 511) (off := 478) (pc := 33) dL_law_33 (by rw [hs11]; decide) (by rw [hs11]; decide) (by rw [hs11]; rfl) (by decide) ?_
    refine z_aload_n (x := r1) (pc := 511) dL_law_511 rfl rfl ?_
    refine z_sload_n (x := 0) (pc := 512) dL_law_512 rfl rfl ?_
    refine z_iload_n (x := v7) (pc := 513) dL_law_513 rfl rfl ?_
    refine z_iconst (v := 1) (pc := 514) dL_law_514 (by decide) ?_
    refine z_iadd (pc := 515) dL_law_515 ?_
    refine z_sld (pc := 516) dL_law_516 (fun t98 => ?_)
    refine z_cVP (As := [.int t98]) (rest := []) hG.1 (m_X9_rule hG h8 r1 t98) (fun _ e => z_gdb e) oX9_rule (pc := 517) dL_law_517 rfl w_830 rfl rfl rfl (fun t99 => ?_)
    refine z_aload_n (x := r4) (pc := 520) dL_law_520 rfl rfl ?_
    refine z_sload_n (x := 0) (pc := 521) dL_law_521 rfl rfl ?_
    refine z_iload_n (x := v7) (pc := 522) dL_law_522 rfl rfl ?_
    refine z_iconst (v := 1) (pc := 523) dL_law_523 (by decide) ?_
    refine z_iadd (pc := 524) dL_law_524 ?_
    refine z_sld (pc := 525) dL_law_525 (fun t100 => ?_)
    refine z_dVI (As := [.int t100]) (rest := [.int t99]) hG.1 (m_X10_rule hG h8 r4 t100) (fun _ e => z_gdb e) oX10_rule (pc := 526) dL_law_526 rfl w_1424 rfl rfl rfl (fun t101 h102 => ?_)
    refine z_ic_eq (tgt := 1240) (pc := 529) dL_law_529 (by decide) (fun _ => ?_) (fun _ => ?_)
    · exact hj14 h102
    refine z_iconst (v := 0) (pc := 532) dL_law_532 (by decide) ?_
    exact z_ireturn (pc := 533) dL_law_533 rfl (by decide) (hkr _ _)
  refine z_bz (fun hs12 => ?_) (fun hs12 => ?_)
  · refine z_tsw (tgt := 534) (off := 501) (pc := 33) dL_law_33 (by rw [hs12]; decide) (by rw [hs12]; decide) (by rw [hs12]; rfl) (by decide) ?_
    refine z_aload_n (x := r1) (pc := 534) dL_law_534 rfl rfl ?_
    refine z_sload_n (x := 0) (pc := 535) dL_law_535 rfl rfl ?_
    refine z_iload_n (x := v7) (pc := 536) dL_law_536 rfl rfl ?_
    refine z_iconst (v := 1) (pc := 537) dL_law_537 (by decide) ?_
    refine z_iadd (pc := 538) dL_law_538 ?_
    refine z_sld (pc := 539) dL_law_539 (fun t103 => ?_)
    refine z_sload_n (x := 0) (pc := 540) dL_law_540 rfl rfl ?_
    refine z_iload_n (x := v7) (pc := 541) dL_law_541 rfl rfl ?_
    refine z_iconst (v := 2) (pc := 542) dL_law_542 (by decide) ?_
    refine z_iadd (pc := 543) dL_law_543 ?_
    refine z_sld (pc := 544) dL_law_544 (fun t104 => ?_)
    refine z_dVI (As := [.int t103, .int t104]) (rest := []) hG.1 (m_X9_seller hG h8 r1 t103 t104) (fun _ e => z_gdb e) oX9_seller (pc := 545) dL_law_545 rfl w_834 rfl rfl rfl (fun t105 h106 => ?_)
    refine z_aload_n (x := r4) (pc := 548) dL_law_548 rfl rfl ?_
    refine z_sload_n (x := 0) (pc := 549) dL_law_549 rfl rfl ?_
    refine z_iload_n (x := v7) (pc := 550) dL_law_550 rfl rfl ?_
    refine z_iconst (v := 1) (pc := 551) dL_law_551 (by decide) ?_
    refine z_iadd (pc := 552) dL_law_552 ?_
    refine z_sld (pc := 553) dL_law_553 (fun t107 => ?_)
    refine z_sload_n (x := 0) (pc := 554) dL_law_554 rfl rfl ?_
    refine z_iload_n (x := v7) (pc := 555) dL_law_555 rfl rfl ?_
    refine z_iconst (v := 2) (pc := 556) dL_law_556 (by decide) ?_
    refine z_iadd (pc := 557) dL_law_557 ?_
    refine z_sld (pc := 558) dL_law_558 (fun t108 => ?_)
    refine z_dVI (As := [.int t107, .int t108]) (rest := [.int t105]) hG.1 (m_X10_seller hG h106 r4 t107 t108) (fun _ e => z_gdb e) oX10_seller (pc := 559) dL_law_559 rfl w_1428 rfl rfl rfl (fun t109 h110 => ?_)
    refine z_ic_eq (tgt := 1240) (pc := 562) dL_law_562 (by decide) (fun _ => ?_) (fun _ => ?_)
    · exact hj14 h110
    refine z_iconst (v := 0) (pc := 565) dL_law_565 (by decide) ?_
    exact z_ireturn (pc := 566) dL_law_566 rfl (by decide) (hkr _ _)
  refine z_bz (fun hs13 => ?_) (fun hs13 => ?_)
  · refine z_tsw (tgt := 567) (off := 534) (pc := 33) dL_law_33 (by rw [hs13]; decide) (by rw [hs13]; decide) (by rw [hs13]; rfl) (by decide) ?_
    refine z_aload_n (x := r1) (pc := 567) dL_law_567 rfl rfl ?_
    refine z_sload_n (x := 0) (pc := 568) dL_law_568 rfl rfl ?_
    refine z_iload_n (x := v7) (pc := 569) dL_law_569 rfl rfl ?_
    refine z_iconst (v := 1) (pc := 570) dL_law_570 (by decide) ?_
    refine z_iadd (pc := 571) dL_law_571 ?_
    refine z_sld (pc := 572) dL_law_572 (fun t111 => ?_)
    refine z_sload_n (x := 0) (pc := 573) dL_law_573 rfl rfl ?_
    refine z_iload_n (x := v7) (pc := 574) dL_law_574 rfl rfl ?_
    refine z_iconst (v := 2) (pc := 575) dL_law_575 (by decide) ?_
    refine z_iadd (pc := 576) dL_law_576 ?_
    refine z_sld (pc := 577) dL_law_577 (fun t112 => ?_)
    refine z_sload_n (x := 0) (pc := 578) dL_law_578 rfl rfl ?_
    refine z_iload_n (x := v7) (pc := 579) dL_law_579 rfl rfl ?_
    refine z_iconst (v := 3) (pc := 580) dL_law_580 (by decide) ?_
    refine z_iadd (pc := 581) dL_law_581 ?_
    refine z_sld (pc := 582) dL_law_582 (fun t113 => ?_)
    refine z_dVI (As := [.int t111, .int t112, .int t113]) (rest := []) hG.1 (m_X9_tree hG h8 r1 t111 t112 t113) (fun _ e => z_gdb e) oX9_tree (pc := 583) dL_law_583 rfl w_856 rfl rfl rfl (fun t114 h115 => ?_)
    refine z_aload_n (x := r4) (pc := 586) dL_law_586 rfl rfl ?_
    refine z_sload_n (x := 0) (pc := 587) dL_law_587 rfl rfl ?_
    refine z_iload_n (x := v7) (pc := 588) dL_law_588 rfl rfl ?_
    refine z_iconst (v := 1) (pc := 589) dL_law_589 (by decide) ?_
    refine z_iadd (pc := 590) dL_law_590 ?_
    refine z_sld (pc := 591) dL_law_591 (fun t116 => ?_)
    refine z_sload_n (x := 0) (pc := 592) dL_law_592 rfl rfl ?_
    refine z_iload_n (x := v7) (pc := 593) dL_law_593 rfl rfl ?_
    refine z_iconst (v := 2) (pc := 594) dL_law_594 (by decide) ?_
    refine z_iadd (pc := 595) dL_law_595 ?_
    refine z_sld (pc := 596) dL_law_596 (fun t117 => ?_)
    refine z_sload_n (x := 0) (pc := 597) dL_law_597 rfl rfl ?_
    refine z_iload_n (x := v7) (pc := 598) dL_law_598 rfl rfl ?_
    refine z_iconst (v := 3) (pc := 599) dL_law_599 (by decide) ?_
    refine z_iadd (pc := 600) dL_law_600 ?_
    refine z_sld (pc := 601) dL_law_601 (fun t118 => ?_)
    refine z_dVI (As := [.int t116, .int t117, .int t118]) (rest := [.int t114]) hG.1 (m_X10_tree hG h115 r4 t116 t117 t118) (fun _ e => z_gdb e) oX10_tree (pc := 602) dL_law_602 rfl w_1445 rfl rfl rfl (fun t119 h120 => ?_)
    refine z_ic_eq (tgt := 1240) (pc := 605) dL_law_605 (by decide) (fun _ => ?_) (fun _ => ?_)
    · exact hj14 h120
    refine z_iconst (v := 0) (pc := 608) dL_law_608 (by decide) ?_
    exact z_ireturn (pc := 609) dL_law_609 rfl (by decide) (hkr _ _)
  refine z_bz (fun hs14 => ?_) (fun hs14 => ?_)
  · refine z_tsw (tgt := 610) (off := 577) (pc := 33) dL_law_33 (by rw [hs14]; decide) (by rw [hs14]; decide) (by rw [hs14]; rfl) (by decide) ?_
    refine z_aload_n (x := r1) (pc := 610) dL_law_610 rfl rfl ?_
    refine z_sload_n (x := 0) (pc := 611) dL_law_611 rfl rfl ?_
    refine z_iload_n (x := v7) (pc := 612) dL_law_612 rfl rfl ?_
    refine z_iconst (v := 1) (pc := 613) dL_law_613 (by decide) ?_
    refine z_iadd (pc := 614) dL_law_614 ?_
    refine z_sld (pc := 615) dL_law_615 (fun t121 => ?_)
    refine z_sload_n (x := 0) (pc := 616) dL_law_616 rfl rfl ?_
    refine z_iload_n (x := v7) (pc := 617) dL_law_617 rfl rfl ?_
    refine z_iconst (v := 2) (pc := 618) dL_law_618 (by decide) ?_
    refine z_iadd (pc := 619) dL_law_619 ?_
    refine z_sld (pc := 620) dL_law_620 (fun t122 => ?_)
    refine z_sload_n (x := 0) (pc := 621) dL_law_621 rfl rfl ?_
    refine z_iload_n (x := v7) (pc := 622) dL_law_622 rfl rfl ?_
    refine z_iconst (v := 3) (pc := 623) dL_law_623 (by decide) ?_
    refine z_iadd (pc := 624) dL_law_624 ?_
    refine z_sld (pc := 625) dL_law_625 (fun t123 => ?_)
    refine z_cVP (As := [.int t121, .int t122, .int t123]) (rest := []) hG.1 (m_X9_moved hG h8 r1 t121 t122 t123) (fun _ e => z_gdb e) oX9_moved (pc := 626) dL_law_626 rfl w_868 rfl rfl rfl (fun t124 => ?_)
    refine z_aload_n (x := r4) (pc := 629) dL_law_629 rfl rfl ?_
    refine z_sload_n (x := 0) (pc := 630) dL_law_630 rfl rfl ?_
    refine z_iload_n (x := v7) (pc := 631) dL_law_631 rfl rfl ?_
    refine z_iconst (v := 1) (pc := 632) dL_law_632 (by decide) ?_
    refine z_iadd (pc := 633) dL_law_633 ?_
    refine z_sld (pc := 634) dL_law_634 (fun t125 => ?_)
    refine z_sload_n (x := 0) (pc := 635) dL_law_635 rfl rfl ?_
    refine z_iload_n (x := v7) (pc := 636) dL_law_636 rfl rfl ?_
    refine z_iconst (v := 2) (pc := 637) dL_law_637 (by decide) ?_
    refine z_iadd (pc := 638) dL_law_638 ?_
    refine z_sld (pc := 639) dL_law_639 (fun t126 => ?_)
    refine z_sload_n (x := 0) (pc := 640) dL_law_640 rfl rfl ?_
    refine z_iload_n (x := v7) (pc := 641) dL_law_641 rfl rfl ?_
    refine z_iconst (v := 3) (pc := 642) dL_law_642 (by decide) ?_
    refine z_iadd (pc := 643) dL_law_643 ?_
    refine z_sld (pc := 644) dL_law_644 (fun t127 => ?_)
    refine z_dVI (As := [.int t125, .int t126, .int t127]) (rest := [.int t124]) hG.1 (m_X10_moved hG h8 r4 t125 t126 t127) (fun _ e => z_gdb e) oX10_moved (pc := 645) dL_law_645 rfl w_1465 rfl rfl rfl (fun t128 h129 => ?_)
    refine z_ic_eq (tgt := 1240) (pc := 648) dL_law_648 (by decide) (fun _ => ?_) (fun _ => ?_)
    · exact hj14 h129
    refine z_iconst (v := 0) (pc := 651) dL_law_651 (by decide) ?_
    exact z_ireturn (pc := 652) dL_law_652 rfl (by decide) (hkr _ _)
  refine z_bz (fun hs15 => ?_) (fun hs15 => ?_)
  · refine z_tsw (tgt := 653) (off := 620) (pc := 33) dL_law_33 (by rw [hs15]; decide) (by rw [hs15]; decide) (by rw [hs15]; rfl) (by decide) ?_
    refine z_aload_n (x := r1) (pc := 653) dL_law_653 rfl rfl ?_
    refine z_sload_n (x := 0) (pc := 654) dL_law_654 rfl rfl ?_
    refine z_iload_n (x := v7) (pc := 655) dL_law_655 rfl rfl ?_
    refine z_iconst (v := 1) (pc := 656) dL_law_656 (by decide) ?_
    refine z_iadd (pc := 657) dL_law_657 ?_
    refine z_sld (pc := 658) dL_law_658 (fun t130 => ?_)
    refine z_sload_n (x := 0) (pc := 659) dL_law_659 rfl rfl ?_
    refine z_iload_n (x := v7) (pc := 660) dL_law_660 rfl rfl ?_
    refine z_iconst (v := 2) (pc := 661) dL_law_661 (by decide) ?_
    refine z_iadd (pc := 662) dL_law_662 ?_
    refine z_sld (pc := 663) dL_law_663 (fun t131 => ?_)
    refine z_sload_n (x := 0) (pc := 664) dL_law_664 rfl rfl ?_
    refine z_iload_n (x := v7) (pc := 665) dL_law_665 rfl rfl ?_
    refine z_iconst (v := 3) (pc := 666) dL_law_666 (by decide) ?_
    refine z_iadd (pc := 667) dL_law_667 ?_
    refine z_sld (pc := 668) dL_law_668 (fun t132 => ?_)
    refine z_cVP (As := [.int t130, .int t131, .int t132]) (rest := []) hG.1 (m_X9_why hG h8 r1 t130 t131 t132) (fun _ e => z_gdb e) oX9_why (pc := 669) dL_law_669 rfl w_872 rfl rfl rfl (fun t133 => ?_)
    refine z_aload_n (x := r4) (pc := 672) dL_law_672 rfl rfl ?_
    refine z_sload_n (x := 0) (pc := 673) dL_law_673 rfl rfl ?_
    refine z_iload_n (x := v7) (pc := 674) dL_law_674 rfl rfl ?_
    refine z_iconst (v := 1) (pc := 675) dL_law_675 (by decide) ?_
    refine z_iadd (pc := 676) dL_law_676 ?_
    refine z_sld (pc := 677) dL_law_677 (fun t134 => ?_)
    refine z_sload_n (x := 0) (pc := 678) dL_law_678 rfl rfl ?_
    refine z_iload_n (x := v7) (pc := 679) dL_law_679 rfl rfl ?_
    refine z_iconst (v := 2) (pc := 680) dL_law_680 (by decide) ?_
    refine z_iadd (pc := 681) dL_law_681 ?_
    refine z_sld (pc := 682) dL_law_682 (fun t135 => ?_)
    refine z_sload_n (x := 0) (pc := 683) dL_law_683 rfl rfl ?_
    refine z_iload_n (x := v7) (pc := 684) dL_law_684 rfl rfl ?_
    refine z_iconst (v := 3) (pc := 685) dL_law_685 (by decide) ?_
    refine z_iadd (pc := 686) dL_law_686 ?_
    refine z_sld (pc := 687) dL_law_687 (fun t136 => ?_)
    refine z_dVI (As := [.int t134, .int t135, .int t136]) (rest := [.int t133]) hG.1 (m_X10_why hG h8 r4 t134 t135 t136) (fun _ e => z_gdb e) oX10_why (pc := 688) dL_law_688 rfl w_1267 rfl rfl rfl (fun t137 h138 => ?_)
    refine z_ic_eq (tgt := 1240) (pc := 691) dL_law_691 (by decide) (fun _ => ?_) (fun _ => ?_)
    · exact hj14 h138
    refine z_iconst (v := 0) (pc := 694) dL_law_694 (by decide) ?_
    exact z_ireturn (pc := 695) dL_law_695 rfl (by decide) (hkr _ _)
  refine z_bz (fun hs16 => ?_) (fun hs16 => ?_)
  · refine z_tsw (tgt := 696) (off := 663) (pc := 33) dL_law_33 (by rw [hs16]; decide) (by rw [hs16]; decide) (by rw [hs16]; rfl) (by decide) ?_
    refine z_aload_n (x := r1) (pc := 696) dL_law_696 rfl rfl ?_
    refine z_sload_n (x := 0) (pc := 697) dL_law_697 rfl rfl ?_
    refine z_iload_n (x := v7) (pc := 698) dL_law_698 rfl rfl ?_
    refine z_iconst (v := 1) (pc := 699) dL_law_699 (by decide) ?_
    refine z_iadd (pc := 700) dL_law_700 ?_
    refine z_sld (pc := 701) dL_law_701 (fun t139 => ?_)
    refine z_sload_n (x := 0) (pc := 702) dL_law_702 rfl rfl ?_
    refine z_iload_n (x := v7) (pc := 703) dL_law_703 rfl rfl ?_
    refine z_iconst (v := 2) (pc := 704) dL_law_704 (by decide) ?_
    refine z_iadd (pc := 705) dL_law_705 ?_
    refine z_sld (pc := 706) dL_law_706 (fun t140 => ?_)
    refine z_sload_n (x := 0) (pc := 707) dL_law_707 rfl rfl ?_
    refine z_iload_n (x := v7) (pc := 708) dL_law_708 rfl rfl ?_
    refine z_iconst (v := 3) (pc := 709) dL_law_709 (by decide) ?_
    refine z_iadd (pc := 710) dL_law_710 ?_
    refine z_sld (pc := 711) dL_law_711 (fun t141 => ?_)
    refine z_dVI (As := [.int t139, .int t140, .int t141]) (rest := []) hG.1 (m_X9_common hG h8 r1 t139 t140 t141) (fun _ e => z_gdb e) oX9_common (pc := 712) dL_law_712 rfl w_876 rfl rfl rfl (fun t142 h143 => ?_)
    refine z_aload_n (x := r4) (pc := 715) dL_law_715 rfl rfl ?_
    refine z_sload_n (x := 0) (pc := 716) dL_law_716 rfl rfl ?_
    refine z_iload_n (x := v7) (pc := 717) dL_law_717 rfl rfl ?_
    refine z_iconst (v := 1) (pc := 718) dL_law_718 (by decide) ?_
    refine z_iadd (pc := 719) dL_law_719 ?_
    refine z_sld (pc := 720) dL_law_720 (fun t144 => ?_)
    refine z_sload_n (x := 0) (pc := 721) dL_law_721 rfl rfl ?_
    refine z_iload_n (x := v7) (pc := 722) dL_law_722 rfl rfl ?_
    refine z_iconst (v := 2) (pc := 723) dL_law_723 (by decide) ?_
    refine z_iadd (pc := 724) dL_law_724 ?_
    refine z_sld (pc := 725) dL_law_725 (fun t145 => ?_)
    refine z_sload_n (x := 0) (pc := 726) dL_law_726 rfl rfl ?_
    refine z_iload_n (x := v7) (pc := 727) dL_law_727 rfl rfl ?_
    refine z_iconst (v := 3) (pc := 728) dL_law_728 (by decide) ?_
    refine z_iadd (pc := 729) dL_law_729 ?_
    refine z_sld (pc := 730) dL_law_730 (fun t146 => ?_)
    refine z_dVI (As := [.int t144, .int t145, .int t146]) (rest := [.int t142]) hG.1 (m_X10_common hG h143 r4 t144 t145 t146) (fun _ e => z_gdb e) oX10_common (pc := 731) dL_law_731 rfl w_1469 rfl rfl rfl (fun t147 h148 => ?_)
    refine z_ic_eq (tgt := 1240) (pc := 734) dL_law_734 (by decide) (fun _ => ?_) (fun _ => ?_)
    · exact hj14 h148
    refine z_iconst (v := 0) (pc := 737) dL_law_737 (by decide) ?_
    exact z_ireturn (pc := 738) dL_law_738 rfl (by decide) (hkr _ _)
  refine z_bz (fun hs17 => ?_) (fun hs17 => ?_)
  · refine z_tsw (tgt := 739) (off := 706) (pc := 33) dL_law_33 (by rw [hs17]; decide) (by rw [hs17]; decide) (by rw [hs17]; rfl) (by decide) ?_
    refine z_aload_n (x := r1) (pc := 739) dL_law_739 rfl rfl ?_
    refine z_sload_n (x := 0) (pc := 740) dL_law_740 rfl rfl ?_
    refine z_iload_n (x := v7) (pc := 741) dL_law_741 rfl rfl ?_
    refine z_iconst (v := 1) (pc := 742) dL_law_742 (by decide) ?_
    refine z_iadd (pc := 743) dL_law_743 ?_
    refine z_sld (pc := 744) dL_law_744 (fun t149 => ?_)
    refine z_sload_n (x := 0) (pc := 745) dL_law_745 rfl rfl ?_
    refine z_iload_n (x := v7) (pc := 746) dL_law_746 rfl rfl ?_
    refine z_iconst (v := 2) (pc := 747) dL_law_747 (by decide) ?_
    refine z_iadd (pc := 748) dL_law_748 ?_
    refine z_sld (pc := 749) dL_law_749 (fun t150 => ?_)
    refine z_dVI (As := [.int t149, .int t150]) (rest := []) hG.1 (m_X9_sale hG h8 r1 t149 t150) (fun _ e => z_gdb e) oX9_sale (pc := 750) dL_law_750 rfl w_880 rfl rfl rfl (fun t151 h152 => ?_)
    refine z_aload_n (x := r4) (pc := 753) dL_law_753 rfl rfl ?_
    refine z_sload_n (x := 0) (pc := 754) dL_law_754 rfl rfl ?_
    refine z_iload_n (x := v7) (pc := 755) dL_law_755 rfl rfl ?_
    refine z_iconst (v := 1) (pc := 756) dL_law_756 (by decide) ?_
    refine z_iadd (pc := 757) dL_law_757 ?_
    refine z_sld (pc := 758) dL_law_758 (fun t153 => ?_)
    refine z_sload_n (x := 0) (pc := 759) dL_law_759 rfl rfl ?_
    refine z_iload_n (x := v7) (pc := 760) dL_law_760 rfl rfl ?_
    refine z_iconst (v := 2) (pc := 761) dL_law_761 (by decide) ?_
    refine z_iadd (pc := 762) dL_law_762 ?_
    refine z_sld (pc := 763) dL_law_763 (fun t154 => ?_)
    refine z_dVI (As := [.int t153, .int t154]) (rest := [.int t151]) hG.1 (m_X10_sale hG h152 r4 t153 t154) (fun _ e => z_gdb e) oX10_sale (pc := 764) dL_law_764 rfl w_1477 rfl rfl rfl (fun t155 h156 => ?_)
    refine z_ic_eq (tgt := 1240) (pc := 767) dL_law_767 (by decide) (fun _ => ?_) (fun _ => ?_)
    · exact hj14 h156
    refine z_iconst (v := 0) (pc := 770) dL_law_770 (by decide) ?_
    exact z_ireturn (pc := 771) dL_law_771 rfl (by decide) (hkr _ _)
  refine z_bz (fun hs18 => ?_) (fun hs18 => ?_)
  · refine z_tsw (tgt := 772) (off := 739) (pc := 33) dL_law_33 (by rw [hs18]; decide) (by rw [hs18]; decide) (by rw [hs18]; rfl) (by decide) ?_
    refine z_aload_n (x := r1) (pc := 772) dL_law_772 rfl rfl ?_
    refine z_sload_n (x := 0) (pc := 773) dL_law_773 rfl rfl ?_
    refine z_iload_n (x := v7) (pc := 774) dL_law_774 rfl rfl ?_
    refine z_iconst (v := 1) (pc := 775) dL_law_775 (by decide) ?_
    refine z_iadd (pc := 776) dL_law_776 ?_
    refine z_sld (pc := 777) dL_law_777 (fun t157 => ?_)
    refine z_sload_n (x := 0) (pc := 778) dL_law_778 rfl rfl ?_
    refine z_iload_n (x := v7) (pc := 779) dL_law_779 rfl rfl ?_
    refine z_iconst (v := 2) (pc := 780) dL_law_780 (by decide) ?_
    refine z_iadd (pc := 781) dL_law_781 ?_
    refine z_sld (pc := 782) dL_law_782 (fun t158 => ?_)
    refine z_sload_n (x := 0) (pc := 783) dL_law_783 rfl rfl ?_
    refine z_iload_n (x := v7) (pc := 784) dL_law_784 rfl rfl ?_
    refine z_iconst (v := 3) (pc := 785) dL_law_785 (by decide) ?_
    refine z_iadd (pc := 786) dL_law_786 ?_
    refine z_sld (pc := 787) dL_law_787 (fun t159 => ?_)
    refine z_cVP (As := [.int t157, .int t158, .int t159]) (rest := []) hG.1 (m_X9_pay hG h8 r1 t157 t158 t159) (fun _ e => z_gdb e) oX9_pay (pc := 788) dL_law_788 rfl w_911 rfl rfl rfl (fun t160 => ?_)
    refine z_aload_n (x := r4) (pc := 791) dL_law_791 rfl rfl ?_
    refine z_sload_n (x := 0) (pc := 792) dL_law_792 rfl rfl ?_
    refine z_iload_n (x := v7) (pc := 793) dL_law_793 rfl rfl ?_
    refine z_iconst (v := 1) (pc := 794) dL_law_794 (by decide) ?_
    refine z_iadd (pc := 795) dL_law_795 ?_
    refine z_sld (pc := 796) dL_law_796 (fun t161 => ?_)
    refine z_sload_n (x := 0) (pc := 797) dL_law_797 rfl rfl ?_
    refine z_iload_n (x := v7) (pc := 798) dL_law_798 rfl rfl ?_
    refine z_iconst (v := 2) (pc := 799) dL_law_799 (by decide) ?_
    refine z_iadd (pc := 800) dL_law_800 ?_
    refine z_sld (pc := 801) dL_law_801 (fun t162 => ?_)
    refine z_sload_n (x := 0) (pc := 802) dL_law_802 rfl rfl ?_
    refine z_iload_n (x := v7) (pc := 803) dL_law_803 rfl rfl ?_
    refine z_iconst (v := 3) (pc := 804) dL_law_804 (by decide) ?_
    refine z_iadd (pc := 805) dL_law_805 ?_
    refine z_sld (pc := 806) dL_law_806 (fun t163 => ?_)
    refine z_dVI (As := [.int t161, .int t162, .int t163]) (rest := [.int t160]) hG.1 (m_X10_pay hG h8 r4 t161 t162 t163) (fun _ e => z_gdb e) oX10_pay (pc := 807) dL_law_807 rfl w_1501 rfl rfl rfl (fun t164 h165 => ?_)
    refine z_ic_eq (tgt := 1240) (pc := 810) dL_law_810 (by decide) (fun _ => ?_) (fun _ => ?_)
    · exact hj14 h165
    refine z_iconst (v := 0) (pc := 813) dL_law_813 (by decide) ?_
    exact z_ireturn (pc := 814) dL_law_814 rfl (by decide) (hkr _ _)
  refine z_bz (fun hs19 => ?_) (fun hs19 => ?_)
  · refine z_tsw (tgt := 815) (off := 782) (pc := 33) dL_law_33 (by rw [hs19]; decide) (by rw [hs19]; decide) (by rw [hs19]; rfl) (by decide) ?_
    refine z_aload_n (x := r1) (pc := 815) dL_law_815 rfl rfl ?_
    refine z_sload_n (x := 0) (pc := 816) dL_law_816 rfl rfl ?_
    refine z_iload_n (x := v7) (pc := 817) dL_law_817 rfl rfl ?_
    refine z_iconst (v := 1) (pc := 818) dL_law_818 (by decide) ?_
    refine z_iadd (pc := 819) dL_law_819 ?_
    refine z_sld (pc := 820) dL_law_820 (fun t166 => ?_)
    refine z_sload_n (x := 0) (pc := 821) dL_law_821 rfl rfl ?_
    refine z_iload_n (x := v7) (pc := 822) dL_law_822 rfl rfl ?_
    refine z_iconst (v := 2) (pc := 823) dL_law_823 (by decide) ?_
    refine z_iadd (pc := 824) dL_law_824 ?_
    refine z_sld (pc := 825) dL_law_825 (fun t167 => ?_)
    refine z_sload_n (x := 0) (pc := 826) dL_law_826 rfl rfl ?_
    refine z_iload_n (x := v7) (pc := 827) dL_law_827 rfl rfl ?_
    refine z_iconst (v := 3) (pc := 828) dL_law_828 (by decide) ?_
    refine z_iadd (pc := 829) dL_law_829 ?_
    refine z_sld (pc := 830) dL_law_830 (fun t168 => ?_)
    refine z_sload_n (x := 0) (pc := 831) dL_law_831 rfl rfl ?_
    refine z_iload_n (x := v7) (pc := 832) dL_law_832 rfl rfl ?_
    refine z_iconst (v := 4) (pc := 833) dL_law_833 (by decide) ?_
    refine z_iadd (pc := 834) dL_law_834 ?_
    refine z_sld (pc := 835) dL_law_835 (fun t169 => ?_)
    refine z_dVI (As := [.int t166, .int t167, .int t168, .int t169]) (rest := []) hG.1 (m_X9_quote hG h8 r1 t166 t167 t168 t169) (fun _ e => z_gdb e) oX9_quote (pc := 836) dL_law_836 rfl w_917 rfl rfl rfl (fun t170 h171 => ?_)
    refine z_aload_n (x := r4) (pc := 839) dL_law_839 rfl rfl ?_
    refine z_sload_n (x := 0) (pc := 840) dL_law_840 rfl rfl ?_
    refine z_iload_n (x := v7) (pc := 841) dL_law_841 rfl rfl ?_
    refine z_iconst (v := 1) (pc := 842) dL_law_842 (by decide) ?_
    refine z_iadd (pc := 843) dL_law_843 ?_
    refine z_sld (pc := 844) dL_law_844 (fun t172 => ?_)
    refine z_sload_n (x := 0) (pc := 845) dL_law_845 rfl rfl ?_
    refine z_iload_n (x := v7) (pc := 846) dL_law_846 rfl rfl ?_
    refine z_iconst (v := 2) (pc := 847) dL_law_847 (by decide) ?_
    refine z_iadd (pc := 848) dL_law_848 ?_
    refine z_sld (pc := 849) dL_law_849 (fun t173 => ?_)
    refine z_sload_n (x := 0) (pc := 850) dL_law_850 rfl rfl ?_
    refine z_iload_n (x := v7) (pc := 851) dL_law_851 rfl rfl ?_
    refine z_iconst (v := 3) (pc := 852) dL_law_852 (by decide) ?_
    refine z_iadd (pc := 853) dL_law_853 ?_
    refine z_sld (pc := 854) dL_law_854 (fun t174 => ?_)
    refine z_sload_n (x := 0) (pc := 855) dL_law_855 rfl rfl ?_
    refine z_iload_n (x := v7) (pc := 856) dL_law_856 rfl rfl ?_
    refine z_iconst (v := 4) (pc := 857) dL_law_857 (by decide) ?_
    refine z_iadd (pc := 858) dL_law_858 ?_
    refine z_sld (pc := 859) dL_law_859 (fun t175 => ?_)
    refine z_dVI (As := [.int t172, .int t173, .int t174, .int t175]) (rest := [.int t170]) hG.1 (m_X10_quote hG h171 r4 t172 t173 t174 t175) (fun _ e => z_gdb e) oX10_quote (pc := 860) dL_law_860 rfl w_1505 rfl rfl rfl (fun t176 h177 => ?_)
    refine z_ic_eq (tgt := 1240) (pc := 863) dL_law_863 (by decide) (fun _ => ?_) (fun _ => ?_)
    · exact hj14 h177
    refine z_iconst (v := 0) (pc := 866) dL_law_866 (by decide) ?_
    exact z_ireturn (pc := 867) dL_law_867 rfl (by decide) (hkr _ _)
  refine z_bz (fun hs20 => ?_) (fun hs20 => ?_)
  · refine z_tsw (tgt := 868) (off := 835) (pc := 33) dL_law_33 (by rw [hs20]; decide) (by rw [hs20]; decide) (by rw [hs20]; rfl) (by decide) ?_
    refine z_aload_n (x := r1) (pc := 868) dL_law_868 rfl rfl ?_
    refine z_sload_n (x := 0) (pc := 869) dL_law_869 rfl rfl ?_
    refine z_iload_n (x := v7) (pc := 870) dL_law_870 rfl rfl ?_
    refine z_iconst (v := 1) (pc := 871) dL_law_871 (by decide) ?_
    refine z_iadd (pc := 872) dL_law_872 ?_
    refine z_sld (pc := 873) dL_law_873 (fun t178 => ?_)
    refine z_sload_n (x := 0) (pc := 874) dL_law_874 rfl rfl ?_
    refine z_iload_n (x := v7) (pc := 875) dL_law_875 rfl rfl ?_
    refine z_iconst (v := 2) (pc := 876) dL_law_876 (by decide) ?_
    refine z_iadd (pc := 877) dL_law_877 ?_
    refine z_sld (pc := 878) dL_law_878 (fun t179 => ?_)
    refine z_sload_n (x := 0) (pc := 879) dL_law_879 rfl rfl ?_
    refine z_iload_n (x := v7) (pc := 880) dL_law_880 rfl rfl ?_
    refine z_iconst (v := 3) (pc := 881) dL_law_881 (by decide) ?_
    refine z_iadd (pc := 882) dL_law_882 ?_
    refine z_sld (pc := 883) dL_law_883 (fun t180 => ?_)
    refine z_dVI (As := [.int t178, .int t179, .int t180]) (rest := []) hG.1 (m_X9_repaid hG h8 r1 t178 t179 t180) (fun _ e => z_gdb e) oX9_repaid (pc := 884) dL_law_884 rfl w_933 rfl rfl rfl (fun t181 h182 => ?_)
    refine z_aload_n (x := r4) (pc := 887) dL_law_887 rfl rfl ?_
    refine z_sload_n (x := 0) (pc := 888) dL_law_888 rfl rfl ?_
    refine z_iload_n (x := v7) (pc := 889) dL_law_889 rfl rfl ?_
    refine z_iconst (v := 1) (pc := 890) dL_law_890 (by decide) ?_
    refine z_iadd (pc := 891) dL_law_891 ?_
    refine z_sld (pc := 892) dL_law_892 (fun t183 => ?_)
    refine z_sload_n (x := 0) (pc := 893) dL_law_893 rfl rfl ?_
    refine z_iload_n (x := v7) (pc := 894) dL_law_894 rfl rfl ?_
    refine z_iconst (v := 2) (pc := 895) dL_law_895 (by decide) ?_
    refine z_iadd (pc := 896) dL_law_896 ?_
    refine z_sld (pc := 897) dL_law_897 (fun t184 => ?_)
    refine z_sload_n (x := 0) (pc := 898) dL_law_898 rfl rfl ?_
    refine z_iload_n (x := v7) (pc := 899) dL_law_899 rfl rfl ?_
    refine z_iconst (v := 3) (pc := 900) dL_law_900 (by decide) ?_
    refine z_iadd (pc := 901) dL_law_901 ?_
    refine z_sld (pc := 902) dL_law_902 (fun t185 => ?_)
    refine z_dVI (As := [.int t183, .int t184, .int t185]) (rest := [.int t181]) hG.1 (m_X10_repaid hG h182 r4 t183 t184 t185) (fun _ e => z_gdb e) oX10_repaid (pc := 903) dL_law_903 rfl w_1513 rfl rfl rfl (fun t186 h187 => ?_)
    refine z_ic_eq (tgt := 1240) (pc := 906) dL_law_906 (by decide) (fun _ => ?_) (fun _ => ?_)
    · exact hj14 h187
    refine z_iconst (v := 0) (pc := 909) dL_law_909 (by decide) ?_
    exact z_ireturn (pc := 910) dL_law_910 rfl (by decide) (hkr _ _)
  refine z_bz (fun hs21 => ?_) (fun hs21 => ?_)
  · refine z_tsw (tgt := 911) (off := 878) (pc := 33) dL_law_33 (by rw [hs21]; decide) (by rw [hs21]; decide) (by rw [hs21]; rfl) (by decide) ?_
    refine z_aload_n (x := r1) (pc := 911) dL_law_911 rfl rfl ?_
    refine z_sload_n (x := 0) (pc := 912) dL_law_912 rfl rfl ?_
    refine z_iload_n (x := v7) (pc := 913) dL_law_913 rfl rfl ?_
    refine z_iconst (v := 1) (pc := 914) dL_law_914 (by decide) ?_
    refine z_iadd (pc := 915) dL_law_915 ?_
    refine z_sld (pc := 916) dL_law_916 (fun t188 => ?_)
    refine z_sload_n (x := 0) (pc := 917) dL_law_917 rfl rfl ?_
    refine z_iload_n (x := v7) (pc := 918) dL_law_918 rfl rfl ?_
    refine z_iconst (v := 2) (pc := 919) dL_law_919 (by decide) ?_
    refine z_iadd (pc := 920) dL_law_920 ?_
    refine z_sld (pc := 921) dL_law_921 (fun t189 => ?_)
    refine z_dVI (As := [.int t188, .int t189]) (rest := []) hG.1 (m_X9_gap hG h8 r1 t188 t189) (fun _ e => z_gdb e) oX9_gap (pc := 922) dL_law_922 rfl w_937 rfl rfl rfl (fun t190 h191 => ?_)
    refine z_aload_n (x := r4) (pc := 925) dL_law_925 rfl rfl ?_
    refine z_sload_n (x := 0) (pc := 926) dL_law_926 rfl rfl ?_
    refine z_iload_n (x := v7) (pc := 927) dL_law_927 rfl rfl ?_
    refine z_iconst (v := 1) (pc := 928) dL_law_928 (by decide) ?_
    refine z_iadd (pc := 929) dL_law_929 ?_
    refine z_sld (pc := 930) dL_law_930 (fun t192 => ?_)
    refine z_sload_n (x := 0) (pc := 931) dL_law_931 rfl rfl ?_
    refine z_iload_n (x := v7) (pc := 932) dL_law_932 rfl rfl ?_
    refine z_iconst (v := 2) (pc := 933) dL_law_933 (by decide) ?_
    refine z_iadd (pc := 934) dL_law_934 ?_
    refine z_sld (pc := 935) dL_law_935 (fun t193 => ?_)
    refine z_dVI (As := [.int t192, .int t193]) (rest := [.int t190]) hG.1 (m_X10_gap hG h191 r4 t192 t193) (fun _ e => z_gdb e) oX10_gap (pc := 936) dL_law_936 rfl w_1517 rfl rfl rfl (fun t194 h195 => ?_)
    refine z_ic_eq (tgt := 1240) (pc := 939) dL_law_939 (by decide) (fun _ => ?_) (fun _ => ?_)
    · exact hj14 h195
    refine z_iconst (v := 0) (pc := 942) dL_law_942 (by decide) ?_
    exact z_ireturn (pc := 943) dL_law_943 rfl (by decide) (hkr _ _)
  refine z_bz (fun hs22 => ?_) (fun hs22 => ?_)
  · refine z_tsw (tgt := 944) (off := 911) (pc := 33) dL_law_33 (by rw [hs22]; decide) (by rw [hs22]; decide) (by rw [hs22]; rfl) (by decide) ?_
    refine z_aload_n (x := r1) (pc := 944) dL_law_944 rfl rfl ?_
    refine z_sload_n (x := 0) (pc := 945) dL_law_945 rfl rfl ?_
    refine z_iload_n (x := v7) (pc := 946) dL_law_946 rfl rfl ?_
    refine z_iconst (v := 1) (pc := 947) dL_law_947 (by decide) ?_
    refine z_iadd (pc := 948) dL_law_948 ?_
    refine z_sld (pc := 949) dL_law_949 (fun t196 => ?_)
    refine z_sload_n (x := 0) (pc := 950) dL_law_950 rfl rfl ?_
    refine z_iload_n (x := v7) (pc := 951) dL_law_951 rfl rfl ?_
    refine z_iconst (v := 2) (pc := 952) dL_law_952 (by decide) ?_
    refine z_iadd (pc := 953) dL_law_953 ?_
    refine z_sld (pc := 954) dL_law_954 (fun t197 => ?_)
    refine z_sload_n (x := 0) (pc := 955) dL_law_955 rfl rfl ?_
    refine z_iload_n (x := v7) (pc := 956) dL_law_956 rfl rfl ?_
    refine z_iconst (v := 3) (pc := 957) dL_law_957 (by decide) ?_
    refine z_iadd (pc := 958) dL_law_958 ?_
    refine z_sld (pc := 959) dL_law_959 (fun t198 => ?_)
    refine z_jn 968 (fun (y199 : Int32) => [some (.retAddr 0), some (.ref r1), some (.ref r4), some (.int v7)]) (fun (y199 : Int32) => [.int y199, .int t197, .int t196, .ref r1]) (fun (y199 : Int32) => h8) ?_ ?_
    · rintro y199
      try dsimp only
      refine z_dVI (As := [.int t196, .int t197, .int y199]) (rest := []) hG.1 (m_X9_lift hG h8 r1 t196 t197 y199) (fun _ e => z_gdb e) oX9_lift (pc := 968) dL_law_968 rfl w_943 rfl rfl rfl (fun t201 h202 => ?_)
      refine z_aload_n (x := r4) (pc := 971) dL_law_971 rfl rfl ?_
      refine z_sload_n (x := 0) (pc := 972) dL_law_972 rfl rfl ?_
      refine z_iload_n (x := v7) (pc := 973) dL_law_973 rfl rfl ?_
      refine z_iconst (v := 1) (pc := 974) dL_law_974 (by decide) ?_
      refine z_iadd (pc := 975) dL_law_975 ?_
      refine z_sld (pc := 976) dL_law_976 (fun t203 => ?_)
      refine z_sload_n (x := 0) (pc := 977) dL_law_977 rfl rfl ?_
      refine z_iload_n (x := v7) (pc := 978) dL_law_978 rfl rfl ?_
      refine z_iconst (v := 2) (pc := 979) dL_law_979 (by decide) ?_
      refine z_iadd (pc := 980) dL_law_980 ?_
      refine z_sld (pc := 981) dL_law_981 (fun t204 => ?_)
      refine z_sload_n (x := 0) (pc := 982) dL_law_982 rfl rfl ?_
      refine z_iload_n (x := v7) (pc := 983) dL_law_983 rfl rfl ?_
      refine z_iconst (v := 3) (pc := 984) dL_law_984 (by decide) ?_
      refine z_iadd (pc := 985) dL_law_985 ?_
      refine z_sld (pc := 986) dL_law_986 (fun t205 => ?_)
      refine z_jn 995 (fun (y206 : Int32) => [some (.retAddr 0), some (.ref r1), some (.ref r4), some (.int v7)]) (fun (y206 : Int32) => [.int y206, .int t204, .int t203, .ref r4, .int t201]) (fun (y206 : Int32) => h202) ?_ ?_
      · rintro y206
        try dsimp only
        refine z_dVI (As := [.int t203, .int t204, .int y206]) (rest := [.int t201]) hG.1 (m_X10_lift hG h202 r4 t203 t204 y206) (fun _ e => z_gdb e) oX10_lift (pc := 995) dL_law_995 rfl w_1521 rfl rfl rfl (fun t208 h209 => ?_)
        refine z_ic_eq (tgt := 1240) (pc := 998) dL_law_998 (by decide) (fun _ => ?_) (fun _ => ?_)
        · exact hj14 h209
        refine z_iconst (v := 0) (pc := 1001) dL_law_1001 (by decide) ?_
        exact z_ireturn (pc := 1002) dL_law_1002 rfl (by decide) (hkr _ _)
      intro j207 hj207
      refine z_if_eq (tgt := 994) (pc := 987) dL_law_987 (by decide) (fun _ => ?_) (fun _ => ?_)
      · refine z_iconst (v := 0) (pc := 994) dL_law_994 (by decide) ?_
        exact hj207 0
      refine z_iconst (v := 1) (pc := 990) dL_law_990 (by decide) ?_
      refine z_goto (tgt := 995) (pc := 991) dL_law_991 (by decide) ?_
      exact hj207 1
    intro j200 hj200
    refine z_if_eq (tgt := 967) (pc := 960) dL_law_960 (by decide) (fun _ => ?_) (fun _ => ?_)
    · refine z_iconst (v := 0) (pc := 967) dL_law_967 (by decide) ?_
      exact hj200 0
    refine z_iconst (v := 1) (pc := 963) dL_law_963 (by decide) ?_
    refine z_goto (tgt := 968) (pc := 964) dL_law_964 (by decide) ?_
    exact hj200 1
  refine z_bz (fun hs23 => ?_) (fun hs23 => ?_)
  · refine z_tsw (tgt := 1003) (off := 970) (pc := 33) dL_law_33 (by rw [hs23]; decide) (by rw [hs23]; decide) (by rw [hs23]; rfl) (by decide) ?_
    refine z_aload_n (x := r1) (pc := 1003) dL_law_1003 rfl rfl ?_
    refine z_sload_n (x := 0) (pc := 1004) dL_law_1004 rfl rfl ?_
    refine z_iload_n (x := v7) (pc := 1005) dL_law_1005 rfl rfl ?_
    refine z_iconst (v := 1) (pc := 1006) dL_law_1006 (by decide) ?_
    refine z_iadd (pc := 1007) dL_law_1007 ?_
    refine z_sld (pc := 1008) dL_law_1008 (fun t210 => ?_)
    refine z_sload_n (x := 0) (pc := 1009) dL_law_1009 rfl rfl ?_
    refine z_iload_n (x := v7) (pc := 1010) dL_law_1010 rfl rfl ?_
    refine z_iconst (v := 2) (pc := 1011) dL_law_1011 (by decide) ?_
    refine z_iadd (pc := 1012) dL_law_1012 ?_
    refine z_sld (pc := 1013) dL_law_1013 (fun t211 => ?_)
    refine z_sload_n (x := 0) (pc := 1014) dL_law_1014 rfl rfl ?_
    refine z_iload_n (x := v7) (pc := 1015) dL_law_1015 rfl rfl ?_
    refine z_iconst (v := 3) (pc := 1016) dL_law_1016 (by decide) ?_
    refine z_iadd (pc := 1017) dL_law_1017 ?_
    refine z_sld (pc := 1018) dL_law_1018 (fun t212 => ?_)
    refine z_jn 1027 (fun (y213 : Int32) => [some (.retAddr 0), some (.ref r1), some (.ref r4), some (.int v7)]) (fun (y213 : Int32) => [.int y213, .int t211, .int t210, .ref r1]) (fun (y213 : Int32) => h8) ?_ ?_
    · rintro y213
      try dsimp only
      refine z_dVI (As := [.int t210, .int t211, .int y213]) (rest := []) hG.1 (m_X9_place hG h8 r1 t210 t211 y213) (fun _ e => z_gdb e) oX9_place (pc := 1027) dL_law_1027 rfl w_957 rfl rfl rfl (fun t215 h216 => ?_)
      refine z_aload_n (x := r4) (pc := 1030) dL_law_1030 rfl rfl ?_
      refine z_sload_n (x := 0) (pc := 1031) dL_law_1031 rfl rfl ?_
      refine z_iload_n (x := v7) (pc := 1032) dL_law_1032 rfl rfl ?_
      refine z_iconst (v := 1) (pc := 1033) dL_law_1033 (by decide) ?_
      refine z_iadd (pc := 1034) dL_law_1034 ?_
      refine z_sld (pc := 1035) dL_law_1035 (fun t217 => ?_)
      refine z_sload_n (x := 0) (pc := 1036) dL_law_1036 rfl rfl ?_
      refine z_iload_n (x := v7) (pc := 1037) dL_law_1037 rfl rfl ?_
      refine z_iconst (v := 2) (pc := 1038) dL_law_1038 (by decide) ?_
      refine z_iadd (pc := 1039) dL_law_1039 ?_
      refine z_sld (pc := 1040) dL_law_1040 (fun t218 => ?_)
      refine z_sload_n (x := 0) (pc := 1041) dL_law_1041 rfl rfl ?_
      refine z_iload_n (x := v7) (pc := 1042) dL_law_1042 rfl rfl ?_
      refine z_iconst (v := 3) (pc := 1043) dL_law_1043 (by decide) ?_
      refine z_iadd (pc := 1044) dL_law_1044 ?_
      refine z_sld (pc := 1045) dL_law_1045 (fun t219 => ?_)
      refine z_jn 1054 (fun (y220 : Int32) => [some (.retAddr 0), some (.ref r1), some (.ref r4), some (.int v7)]) (fun (y220 : Int32) => [.int y220, .int t218, .int t217, .ref r4, .int t215]) (fun (y220 : Int32) => h216) ?_ ?_
      · rintro y220
        try dsimp only
        refine z_dVI (As := [.int t217, .int t218, .int y220]) (rest := [.int t215]) hG.1 (m_X10_place hG h216 r4 t217 t218 y220) (fun _ e => z_gdb e) oX10_place (pc := 1054) dL_law_1054 rfl w_1533 rfl rfl rfl (fun t222 h223 => ?_)
        refine z_ic_eq (tgt := 1240) (pc := 1057) dL_law_1057 (by decide) (fun _ => ?_) (fun _ => ?_)
        · exact hj14 h223
        refine z_iconst (v := 0) (pc := 1060) dL_law_1060 (by decide) ?_
        exact z_ireturn (pc := 1061) dL_law_1061 rfl (by decide) (hkr _ _)
      intro j221 hj221
      refine z_if_eq (tgt := 1053) (pc := 1046) dL_law_1046 (by decide) (fun _ => ?_) (fun _ => ?_)
      · refine z_iconst (v := 0) (pc := 1053) dL_law_1053 (by decide) ?_
        exact hj221 0
      refine z_iconst (v := 1) (pc := 1049) dL_law_1049 (by decide) ?_
      refine z_goto (tgt := 1054) (pc := 1050) dL_law_1050 (by decide) ?_
      exact hj221 1
    intro j214 hj214
    refine z_if_eq (tgt := 1026) (pc := 1019) dL_law_1019 (by decide) (fun _ => ?_) (fun _ => ?_)
    · refine z_iconst (v := 0) (pc := 1026) dL_law_1026 (by decide) ?_
      exact hj214 0
    refine z_iconst (v := 1) (pc := 1022) dL_law_1022 (by decide) ?_
    refine z_goto (tgt := 1027) (pc := 1023) dL_law_1023 (by decide) ?_
    exact hj214 1
  refine z_bz (fun hs24 => ?_) (fun hs24 => ?_)
  · refine z_tsw (tgt := 1062) (off := 1029) (pc := 33) dL_law_33 (by rw [hs24]; decide) (by rw [hs24]; decide) (by rw [hs24]; rfl) (by decide) ?_
    refine z_aload_n (x := r1) (pc := 1062) dL_law_1062 rfl rfl ?_
    refine z_sload_n (x := 0) (pc := 1063) dL_law_1063 rfl rfl ?_
    refine z_iload_n (x := v7) (pc := 1064) dL_law_1064 rfl rfl ?_
    refine z_iconst (v := 1) (pc := 1065) dL_law_1065 (by decide) ?_
    refine z_iadd (pc := 1066) dL_law_1066 ?_
    refine z_sld (pc := 1067) dL_law_1067 (fun t224 => ?_)
    refine z_sload_n (x := 0) (pc := 1068) dL_law_1068 rfl rfl ?_
    refine z_iload_n (x := v7) (pc := 1069) dL_law_1069 rfl rfl ?_
    refine z_iconst (v := 2) (pc := 1070) dL_law_1070 (by decide) ?_
    refine z_iadd (pc := 1071) dL_law_1071 ?_
    refine z_sld (pc := 1072) dL_law_1072 (fun t225 => ?_)
    refine z_cVP (As := [.int t224, .int t225]) (rest := []) hG.1 (m_X9_due hG h8 r1 t224 t225) (fun _ e => z_gdb e) oX9_due (pc := 1073) dL_law_1073 rfl w_969 rfl rfl rfl (fun t226 => ?_)
    refine z_aload_n (x := r4) (pc := 1076) dL_law_1076 rfl rfl ?_
    refine z_sload_n (x := 0) (pc := 1077) dL_law_1077 rfl rfl ?_
    refine z_iload_n (x := v7) (pc := 1078) dL_law_1078 rfl rfl ?_
    refine z_iconst (v := 1) (pc := 1079) dL_law_1079 (by decide) ?_
    refine z_iadd (pc := 1080) dL_law_1080 ?_
    refine z_sld (pc := 1081) dL_law_1081 (fun t227 => ?_)
    refine z_sload_n (x := 0) (pc := 1082) dL_law_1082 rfl rfl ?_
    refine z_iload_n (x := v7) (pc := 1083) dL_law_1083 rfl rfl ?_
    refine z_iconst (v := 2) (pc := 1084) dL_law_1084 (by decide) ?_
    refine z_iadd (pc := 1085) dL_law_1085 ?_
    refine z_sld (pc := 1086) dL_law_1086 (fun t228 => ?_)
    refine z_dVI (As := [.int t227, .int t228]) (rest := [.int t226]) hG.1 (m_X10_due hG h8 r4 t227 t228) (fun _ e => z_gdb e) oX10_due (pc := 1087) dL_law_1087 rfl w_1541 rfl rfl rfl (fun t229 h230 => ?_)
    refine z_ic_eq (tgt := 1240) (pc := 1090) dL_law_1090 (by decide) (fun _ => ?_) (fun _ => ?_)
    · exact hj14 h230
    refine z_iconst (v := 0) (pc := 1093) dL_law_1093 (by decide) ?_
    exact z_ireturn (pc := 1094) dL_law_1094 rfl (by decide) (hkr _ _)
  refine z_bz (fun hs25 => ?_) (fun hs25 => ?_)
  · refine z_tsw (tgt := 1095) (off := 1062) (pc := 33) dL_law_33 (by rw [hs25]; decide) (by rw [hs25]; decide) (by rw [hs25]; rfl) (by decide) ?_
    refine z_aload_n (x := r1) (pc := 1095) dL_law_1095 rfl rfl ?_
    refine z_sload_n (x := 0) (pc := 1096) dL_law_1096 rfl rfl ?_
    refine z_iload_n (x := v7) (pc := 1097) dL_law_1097 rfl rfl ?_
    refine z_iconst (v := 1) (pc := 1098) dL_law_1098 (by decide) ?_
    refine z_iadd (pc := 1099) dL_law_1099 ?_
    refine z_sld (pc := 1100) dL_law_1100 (fun t231 => ?_)
    refine z_sload_n (x := 0) (pc := 1101) dL_law_1101 rfl rfl ?_
    refine z_iload_n (x := v7) (pc := 1102) dL_law_1102 rfl rfl ?_
    refine z_iconst (v := 2) (pc := 1103) dL_law_1103 (by decide) ?_
    refine z_iadd (pc := 1104) dL_law_1104 ?_
    refine z_sld (pc := 1105) dL_law_1105 (fun t232 => ?_)
    refine z_cVP (As := [.int t231, .int t232]) (rest := []) hG.1 (m_X9_ready hG h8 r1 t231 t232) (fun _ e => z_gdb e) oX9_ready (pc := 1106) dL_law_1106 rfl w_973 rfl rfl rfl (fun t233 => ?_)
    refine z_aload_n (x := r4) (pc := 1109) dL_law_1109 rfl rfl ?_
    refine z_sload_n (x := 0) (pc := 1110) dL_law_1110 rfl rfl ?_
    refine z_iload_n (x := v7) (pc := 1111) dL_law_1111 rfl rfl ?_
    refine z_iconst (v := 1) (pc := 1112) dL_law_1112 (by decide) ?_
    refine z_iadd (pc := 1113) dL_law_1113 ?_
    refine z_sld (pc := 1114) dL_law_1114 (fun t234 => ?_)
    refine z_sload_n (x := 0) (pc := 1115) dL_law_1115 rfl rfl ?_
    refine z_iload_n (x := v7) (pc := 1116) dL_law_1116 rfl rfl ?_
    refine z_iconst (v := 2) (pc := 1117) dL_law_1117 (by decide) ?_
    refine z_iadd (pc := 1118) dL_law_1118 ?_
    refine z_sld (pc := 1119) dL_law_1119 (fun t235 => ?_)
    refine z_dVI (As := [.int t234, .int t235]) (rest := [.int t233]) hG.1 (m_X10_ready hG h8 r4 t234 t235) (fun _ e => z_gdb e) oX10_ready (pc := 1120) dL_law_1120 rfl w_1545 rfl rfl rfl (fun t236 h237 => ?_)
    refine z_ic_eq (tgt := 1240) (pc := 1123) dL_law_1123 (by decide) (fun _ => ?_) (fun _ => ?_)
    · exact hj14 h237
    refine z_iconst (v := 0) (pc := 1126) dL_law_1126 (by decide) ?_
    exact z_ireturn (pc := 1127) dL_law_1127 rfl (by decide) (hkr _ _)
  refine z_bz (fun hs26 => ?_) (fun hs26 => ?_)
  · refine z_tsw (tgt := 1128) (off := 1095) (pc := 33) dL_law_33 (by rw [hs26]; decide) (by rw [hs26]; decide) (by rw [hs26]; rfl) (by decide) ?_
    refine z_aload_n (x := r1) (pc := 1128) dL_law_1128 rfl rfl ?_
    refine z_sload_n (x := 0) (pc := 1129) dL_law_1129 rfl rfl ?_
    refine z_iload_n (x := v7) (pc := 1130) dL_law_1130 rfl rfl ?_
    refine z_iconst (v := 1) (pc := 1131) dL_law_1131 (by decide) ?_
    refine z_iadd (pc := 1132) dL_law_1132 ?_
    refine z_sld (pc := 1133) dL_law_1133 (fun t238 => ?_)
    refine z_sload_n (x := 0) (pc := 1134) dL_law_1134 rfl rfl ?_
    refine z_iload_n (x := v7) (pc := 1135) dL_law_1135 rfl rfl ?_
    refine z_iconst (v := 2) (pc := 1136) dL_law_1136 (by decide) ?_
    refine z_iadd (pc := 1137) dL_law_1137 ?_
    refine z_sld (pc := 1138) dL_law_1138 (fun t239 => ?_)
    refine z_sload_n (x := 0) (pc := 1139) dL_law_1139 rfl rfl ?_
    refine z_iload_n (x := v7) (pc := 1140) dL_law_1140 rfl rfl ?_
    refine z_iconst (v := 3) (pc := 1141) dL_law_1141 (by decide) ?_
    refine z_iadd (pc := 1142) dL_law_1142 ?_
    refine z_sld (pc := 1143) dL_law_1143 (fun t240 => ?_)
    refine z_cVP (As := [.int t238, .int t239, .int t240]) (rest := []) hG.1 (m_X9_journal hG h8 r1 t238 t239 t240) (fun _ e => z_gdb e) oX9_journal (pc := 1144) dL_law_1144 rfl w_977 rfl rfl rfl (fun t241 => ?_)
    refine z_aload_n (x := r4) (pc := 1147) dL_law_1147 rfl rfl ?_
    refine z_sload_n (x := 0) (pc := 1148) dL_law_1148 rfl rfl ?_
    refine z_iload_n (x := v7) (pc := 1149) dL_law_1149 rfl rfl ?_
    refine z_iconst (v := 1) (pc := 1150) dL_law_1150 (by decide) ?_
    refine z_iadd (pc := 1151) dL_law_1151 ?_
    refine z_sld (pc := 1152) dL_law_1152 (fun t242 => ?_)
    refine z_sload_n (x := 0) (pc := 1153) dL_law_1153 rfl rfl ?_
    refine z_iload_n (x := v7) (pc := 1154) dL_law_1154 rfl rfl ?_
    refine z_iconst (v := 2) (pc := 1155) dL_law_1155 (by decide) ?_
    refine z_iadd (pc := 1156) dL_law_1156 ?_
    refine z_sld (pc := 1157) dL_law_1157 (fun t243 => ?_)
    refine z_sload_n (x := 0) (pc := 1158) dL_law_1158 rfl rfl ?_
    refine z_iload_n (x := v7) (pc := 1159) dL_law_1159 rfl rfl ?_
    refine z_iconst (v := 3) (pc := 1160) dL_law_1160 (by decide) ?_
    refine z_iadd (pc := 1161) dL_law_1161 ?_
    refine z_sld (pc := 1162) dL_law_1162 (fun t244 => ?_)
    refine z_dVI (As := [.int t242, .int t243, .int t244]) (rest := [.int t241]) hG.1 (m_X10_journal hG h8 r4 t242 t243 t244) (fun _ e => z_gdb e) oX10_journal (pc := 1163) dL_law_1163 rfl w_1549 rfl rfl rfl (fun t245 h246 => ?_)
    refine z_ic_eq (tgt := 1240) (pc := 1166) dL_law_1166 (by decide) (fun _ => ?_) (fun _ => ?_)
    · exact hj14 h246
    refine z_iconst (v := 0) (pc := 1169) dL_law_1169 (by decide) ?_
    exact z_ireturn (pc := 1170) dL_law_1170 rfl (by decide) (hkr _ _)
  refine z_bz (fun hs27 => ?_) (fun hs27 => ?_)
  · refine z_tsw (tgt := 1171) (off := 1138) (pc := 33) dL_law_33 (by rw [hs27]; decide) (by rw [hs27]; decide) (by rw [hs27]; rfl) (by decide) ?_
    refine z_aload_n (x := r1) (pc := 1171) dL_law_1171 rfl rfl ?_
    refine z_sload_n (x := 0) (pc := 1172) dL_law_1172 rfl rfl ?_
    refine z_iload_n (x := v7) (pc := 1173) dL_law_1173 rfl rfl ?_
    refine z_iconst (v := 1) (pc := 1174) dL_law_1174 (by decide) ?_
    refine z_iadd (pc := 1175) dL_law_1175 ?_
    refine z_sld (pc := 1176) dL_law_1176 (fun t247 => ?_)
    refine z_dVI (As := [.int t247]) (rest := []) hG.1 (m_X9_books hG h8 r1 t247) (fun _ e => z_gdb e) oX9_books (pc := 1177) dL_law_1177 rfl w_985 rfl rfl rfl (fun t248 h249 => ?_)
    refine z_aload_n (x := r4) (pc := 1180) dL_law_1180 rfl rfl ?_
    refine z_sload_n (x := 0) (pc := 1181) dL_law_1181 rfl rfl ?_
    refine z_iload_n (x := v7) (pc := 1182) dL_law_1182 rfl rfl ?_
    refine z_iconst (v := 1) (pc := 1183) dL_law_1183 (by decide) ?_
    refine z_iadd (pc := 1184) dL_law_1184 ?_
    refine z_sld (pc := 1185) dL_law_1185 (fun t250 => ?_)
    refine z_dVI (As := [.int t250]) (rest := [.int t248]) hG.1 (m_X10_books hG h249 r4 t250) (fun _ e => z_gdb e) oX10_books (pc := 1186) dL_law_1186 rfl w_1553 rfl rfl rfl (fun t251 h252 => ?_)
    refine z_ic_eq (tgt := 1240) (pc := 1189) dL_law_1189 (by decide) (fun _ => ?_) (fun _ => ?_)
    · exact hj14 h252
    refine z_iconst (v := 0) (pc := 1192) dL_law_1192 (by decide) ?_
    exact z_ireturn (pc := 1193) dL_law_1193 rfl (by decide) (hkr _ _)
  refine z_bz (fun hs28 => ?_) (fun hs28 => ?_)
  · refine z_tsw (tgt := 1194) (off := 1161) (pc := 33) dL_law_33 (by rw [hs28]; decide) (by rw [hs28]; decide) (by rw [hs28]; rfl) (by decide) ?_
    refine z_aload_n (x := r1) (pc := 1194) dL_law_1194 rfl rfl ?_
    refine z_sload_n (x := 0) (pc := 1195) dL_law_1195 rfl rfl ?_
    refine z_iload_n (x := v7) (pc := 1196) dL_law_1196 rfl rfl ?_
    refine z_iconst (v := 1) (pc := 1197) dL_law_1197 (by decide) ?_
    refine z_iadd (pc := 1198) dL_law_1198 ?_
    refine z_sld (pc := 1199) dL_law_1199 (fun t253 => ?_)
    refine z_dVI (As := [.int t253]) (rest := []) hG.1 (m_X9_image hG h8 r1 t253) (fun _ e => z_gdb e) oX9_image (pc := 1200) dL_law_1200 rfl w_1041 rfl rfl rfl (fun t254 h255 => ?_)
    refine z_aload_n (x := r4) (pc := 1203) dL_law_1203 rfl rfl ?_
    refine z_sload_n (x := 0) (pc := 1204) dL_law_1204 rfl rfl ?_
    refine z_iload_n (x := v7) (pc := 1205) dL_law_1205 rfl rfl ?_
    refine z_iconst (v := 1) (pc := 1206) dL_law_1206 (by decide) ?_
    refine z_iadd (pc := 1207) dL_law_1207 ?_
    refine z_sld (pc := 1208) dL_law_1208 (fun t256 => ?_)
    refine z_dVI (As := [.int t256]) (rest := [.int t254]) hG.1 (m_X10_image hG h255 r4 t256) (fun _ e => z_gdb e) oX10_image (pc := 1209) dL_law_1209 rfl w_1573 rfl rfl rfl (fun t257 h258 => ?_)
    refine z_ic_eq (tgt := 1240) (pc := 1212) dL_law_1212 (by decide) (fun _ => ?_) (fun _ => ?_)
    · exact hj14 h258
    refine z_iconst (v := 0) (pc := 1215) dL_law_1215 (by decide) ?_
    exact z_ireturn (pc := 1216) dL_law_1216 rfl (by decide) (hkr _ _)
  refine z_bz (fun hs29 => ?_) (fun hs29 => ?_)
  · refine z_tsw (tgt := 1217) (off := 1184) (pc := 33) dL_law_33 (by rw [hs29]; decide) (by rw [hs29]; decide) (by rw [hs29]; rfl) (by decide) ?_
    refine z_aload_n (x := r1) (pc := 1217) dL_law_1217 rfl rfl ?_
    refine z_sload_n (x := 0) (pc := 1218) dL_law_1218 rfl rfl ?_
    refine z_iload_n (x := v7) (pc := 1219) dL_law_1219 rfl rfl ?_
    refine z_iconst (v := 1) (pc := 1220) dL_law_1220 (by decide) ?_
    refine z_iadd (pc := 1221) dL_law_1221 ?_
    refine z_sld (pc := 1222) dL_law_1222 (fun t259 => ?_)
    refine z_dVI (As := [.int t259]) (rest := []) hG.1 (m_X9_again hG h8 r1 t259) (fun _ e => z_gdb e) oX9_again (pc := 1223) dL_law_1223 rfl w_1065 rfl rfl rfl (fun t260 h261 => ?_)
    refine z_aload_n (x := r4) (pc := 1226) dL_law_1226 rfl rfl ?_
    refine z_sload_n (x := 0) (pc := 1227) dL_law_1227 rfl rfl ?_
    refine z_iload_n (x := v7) (pc := 1228) dL_law_1228 rfl rfl ?_
    refine z_iconst (v := 1) (pc := 1229) dL_law_1229 (by decide) ?_
    refine z_iadd (pc := 1230) dL_law_1230 ?_
    refine z_sld (pc := 1231) dL_law_1231 (fun t262 => ?_)
    refine z_dVI (As := [.int t262]) (rest := [.int t260]) hG.1 (m_X10_again hG h261 r4 t262) (fun _ e => z_gdb e) oX10_again (pc := 1232) dL_law_1232 rfl w_1581 rfl rfl rfl (fun t263 h264 => ?_)
    refine z_ic_eq (tgt := 1240) (pc := 1235) dL_law_1235 (by decide) (fun _ => ?_) (fun _ => ?_)
    · exact hj14 h264
    refine z_iconst (v := 0) (pc := 1238) dL_law_1238 (by decide) ?_
    exact z_ireturn (pc := 1239) dL_law_1239 rfl (by decide) (hkr _ _)
  refine z_tswO (tgt := 1240) (pc := 33) dL_law_33 (z_out (fun v h1 h2 => by
    have hv : v = 0 ∨ v = 1 ∨ v = 2 ∨ v = 3 ∨ v = 4 ∨ v = 5 ∨ v = 6 ∨ v = 7 ∨ v = 8 ∨ v = 9 ∨ v = 10 ∨ v = 11 ∨ v = 12 ∨ v = 13 ∨ v = 14 ∨ v = 15 ∨ v = 16 ∨ v = 17 ∨ v = 18 ∨ v = 19 ∨ v = 20 ∨ v = 21 ∨ v = 22 ∨ v = 23 ∨ v = 24 ∨ v = 25 ∨ v = 26 ∨ v = 27 ∨ v = 28 ∨ v = 29 := by omega
    rcases hv with rfl | rfl | rfl | rfl | rfl | rfl | rfl | rfl | rfl | rfl | rfl | rfl | rfl | rfl | rfl | rfl | rfl | rfl | rfl | rfl | rfl | rfl | rfl | rfl | rfl | rfl | rfl | rfl | rfl | rfl
    · exact hs0
    · exact hs1
    · exact hs2
    · exact hs3
    · exact hs4
    · exact hs5
    · exact hs6
    · exact hs7
    · exact hs8
    · exact hs9
    · exact hs10
    · exact hs11
    · exact hs12
    · exact hs13
    · exact hs14
    · exact hs15
    · exact hs16
    · exact hs17
    · exact hs18
    · exact hs19
    · exact hs20
    · exact hs21
    · exact hs22
    · exact hs23
    · exact hs24
    · exact hs25
    · exact hs26
    · exact hs27
    · exact hs28
    · exact hs29)) (by decide) ?_
  exact hj14 h8
