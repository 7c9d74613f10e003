set_option maxHeartbeats 4000000 in
set_option maxRecDepth 100000 in
theorem cs_0 {g : GX} {N i : Nat} {xs : Nat → Int32} {e : AH} {σ : GS} (hN : N ≤ 3072) (hi : i + 6 ≤ N) (G : CG e σ) (H : RH e 159 σ) (kk : ∀ (e' : AH) (σ' : GS), CG e' σ' → RH e' 159 σ' → V g mL_law (thL g N xs) e' (171 + (i + 6)) (3174 + 10 * (i + 6)) [(0, .float 0), (1, .ref 0), (2, .ref 159), (3, .int (nI i))] 971 []) : V g mL_law (thL g N xs) e (171 + i) (3174 + 10 * i) [(0, .float 0), (1, .ref 0), (2, .ref 159), (3, .int (nI i))] 164 [] := by
  obtain ⟨U, X⟩ := id G.1
  have hC := X.1
  refine V_aload_n (j := 1) (q := 165) dL_law_164 rfl rfl ?_
  refine V_sload_n (j := 0) (q := 166) dL_law_165 rfl rfl ?_
  refine V_iload_n (j := 3) (q := 167) dL_law_166 rfl rfl ?_
  refine V_iconst (q := 168) (v := nI 1) dL_law_167 rfl rfl ?_
  refine V_iaddN (q := 169) dL_law_168 rfl ?_
  refine V_sld (q := 170) (by omega) (by omega) dL_law_169 rfl ?_
  refine V_callV (q := 173) (S := []) kL_13 (d_declareRecord (x := xs (i + 1)) G) (hC.1 0 _ s_0) rfl (fitR_of (show _ ≤ 12 by omega) (show _ ≤ 452 by omega) (show _ ≤ 600000 by omega) (show _ ≤ 7302250 by omega) (Nat.le_of_ble_eq_true rfl)) rfl dL_law_170 rfl (fun r1 h2 p3 => ?_)
  obtain ⟨rfl, F1, G1⟩ := p3
  have H1 := F1.rh H
  refine V_aload_n (j := 2) (q := 174) dL_law_173 rfl rfl ?_
  refine V_sload_n (j := 0) (q := 175) dL_law_174 rfl rfl ?_
  refine V_iload_n (j := 3) (q := 176) dL_law_175 rfl rfl ?_
  refine V_iconst (q := 177) (v := nI 1) dL_law_176 rfl rfl ?_
  refine V_iaddN (q := 178) dL_law_177 rfl ?_
  refine V_sld (q := 179) (by omega) (by omega) dL_law_178 rfl ?_
  refine V_callV (q := 182) (S := [.int ((deR σ (xs (i + 1))).1)]) kL_17 (c_declareRecord (x := xs (i + 1)) H1) (H1.1.1.1.1 0 _ rfl) rfl (fitR_of (show _ ≤ 12 by omega) (show _ ≤ 452 by omega) (show _ ≤ 600000 by omega) (show _ ≤ 7302250 by omega) (Nat.le_of_ble_eq_true rfl)) rfl dL_law_179 rfl (fun r4 h5 p6 => ?_)
  obtain ⟨rfl, F2, H2⟩ := p6
  have G2 := F2.cg G1
  refine V_icmp_eq (tgt := 971) (q := 185) dL_law_182 rfl rfl (fun c7 => ?_) (fun c7 => ?_)
  · skip
    refine V_wd (k' := 171 + (i + 6)) (n' := 3174 + 10 * (i + 6)) (by omega) (by omega) ?_
    exact kk _ _ G2 H2
  · skip
    exact absurd rfl c7

set_option maxHeartbeats 4000000 in
set_option maxRecDepth 100000 in
theorem cs_1 {g : GX} {N i : Nat} {xs : Nat → Int32} {e : AH} {σ : GS} (hN : N ≤ 3072) (hi : i + 6 ≤ N) (G : CG e σ) (H : RH e 159 σ) (kk : ∀ (e' : AH) (σ' : GS), CG e' σ' → RH e' 159 σ' → V g mL_law (thL g N xs) e' (171 + (i + 6)) (3174 + 10 * (i + 6)) [(0, .float 0), (1, .ref 0), (2, .ref 159), (3, .int (nI i))] 971 []) : V g mL_law (thL g N xs) e (171 + i) (3174 + 10 * i) [(0, .float 0), (1, .ref 0), (2, .ref 159), (3, .int (nI i))] 187 [] := by
  obtain ⟨U, X⟩ := id G.1
  have hC := X.1
  refine V_aload_n (j := 1) (q := 188) dL_law_187 rfl rfl ?_
  refine V_sload_n (j := 0) (q := 189) dL_law_188 rfl rfl ?_
  refine V_iload_n (j := 3) (q := 190) dL_law_189 rfl rfl ?_
  refine V_iconst (q := 191) (v := nI 1) dL_law_190 rfl rfl ?_
  refine V_iaddN (q := 192) dL_law_191 rfl ?_
  refine V_sld (q := 193) (by omega) (by omega) dL_law_192 rfl ?_
  refine V_sload_n (j := 0) (q := 194) dL_law_193 rfl rfl ?_
  refine V_iload_n (j := 3) (q := 195) dL_law_194 rfl rfl ?_
  refine V_iconst (q := 196) (v := nI 2) dL_law_195 rfl rfl ?_
  refine V_iaddN (q := 197) dL_law_196 rfl ?_
  refine V_sld (q := 198) (by omega) (by omega) dL_law_197 rfl ?_
  refine V_sload_n (j := 0) (q := 199) dL_law_198 rfl rfl ?_
  refine V_iload_n (j := 3) (q := 200) dL_law_199 rfl rfl ?_
  refine V_iconst (q := 201) (v := nI 3) dL_law_200 rfl rfl ?_
  refine V_iaddN (q := 202) dL_law_201 rfl ?_
  refine V_sld (q := 203) (by omega) (by omega) dL_law_202 rfl ?_
  refine V_sload_n (j := 0) (q := 204) dL_law_203 rfl rfl ?_
  refine V_iload_n (j := 3) (q := 205) dL_law_204 rfl rfl ?_
  refine V_iconst (q := 206) (v := nI 4) dL_law_205 rfl rfl ?_
  refine V_iaddN (q := 207) dL_law_206 rfl ?_
  refine V_sld (q := 208) (by omega) (by omega) dL_law_207 rfl ?_
  refine V_callV (q := 211) (S := []) kL_18 (d_appendStore (x0 := xs (i + 1)) (x1 := xs (i + 2)) (x2 := xs (i + 3)) (x3 := xs (i + 4)) G) (hC.1 0 _ s_0) rfl (fitR_of (show _ ≤ 12 by omega) (show _ ≤ 452 by omega) (show _ ≤ 600000 by omega) (show _ ≤ 7302250 by omega) (Nat.le_of_ble_eq_true rfl)) rfl dL_law_208 rfl (fun r1 h2 p3 => ?_)
  obtain ⟨rfl, F1, G1⟩ := p3
  have H1 := F1.rh H
  refine V_aload_n (j := 2) (q := 212) dL_law_211 rfl rfl ?_
  refine V_sload_n (j := 0) (q := 213) dL_law_212 rfl rfl ?_
  refine V_iload_n (j := 3) (q := 214) dL_law_213 rfl rfl ?_
  refine V_iconst (q := 215) (v := nI 1) dL_law_214 rfl rfl ?_
  refine V_iaddN (q := 216) dL_law_215 rfl ?_
  refine V_sld (q := 217) (by omega) (by omega) dL_law_216 rfl ?_
  refine V_sload_n (j := 0) (q := 218) dL_law_217 rfl rfl ?_
  refine V_iload_n (j := 3) (q := 219) dL_law_218 rfl rfl ?_
  refine V_iconst (q := 220) (v := nI 2) dL_law_219 rfl rfl ?_
  refine V_iaddN (q := 221) dL_law_220 rfl ?_
  refine V_sld (q := 222) (by omega) (by omega) dL_law_221 rfl ?_
  refine V_sload_n (j := 0) (q := 223) dL_law_222 rfl rfl ?_
  refine V_iload_n (j := 3) (q := 224) dL_law_223 rfl rfl ?_
  refine V_iconst (q := 225) (v := nI 3) dL_law_224 rfl rfl ?_
  refine V_iaddN (q := 226) dL_law_225 rfl ?_
  refine V_sld (q := 227) (by omega) (by omega) dL_law_226 rfl ?_
  refine V_sload_n (j := 0) (q := 228) dL_law_227 rfl rfl ?_
  refine V_iload_n (j := 3) (q := 229) dL_law_228 rfl rfl ?_
  refine V_iconst (q := 230) (v := nI 4) dL_law_229 rfl rfl ?_
  refine V_iaddN (q := 231) dL_law_230 rfl ?_
  refine V_sld (q := 232) (by omega) (by omega) dL_law_231 rfl ?_
  refine V_callV (q := 235) (S := [.int ((apR σ (vSt σ.1 (xs (i + 1)) (xs (i + 2)) (xs (i + 3)) (xs (i + 4))) (f6 1 (nt (xs (i + 1))) (nt (xs (i + 2))) (nt (xs (i + 3))) (nt (xs (i + 4))) 0)).1)]) kL_22 (c_appendStore (x0 := xs (i + 1)) (x1 := xs (i + 2)) (x2 := xs (i + 3)) (x3 := xs (i + 4)) H1) (H1.1.1.1.1 0 _ rfl) rfl (fitR_of (show _ ≤ 12 by omega) (show _ ≤ 452 by omega) (show _ ≤ 600000 by omega) (show _ ≤ 7302250 by omega) (Nat.le_of_ble_eq_true rfl)) rfl dL_law_232 rfl (fun r4 h5 p6 => ?_)
  obtain ⟨rfl, F2, H2⟩ := p6
  have G2 := F2.cg G1
  refine V_icmp_eq (tgt := 971) (q := 238) dL_law_235 rfl rfl (fun c7 => ?_) (fun c7 => ?_)
  · skip
    refine V_wd (k' := 171 + (i + 6)) (n' := 3174 + 10 * (i + 6)) (by omega) (by omega) ?_
    exact kk _ _ G2 H2
  · skip
    exact absurd rfl c7

set_option maxHeartbeats 4000000 in
set_option maxRecDepth 100000 in
theorem cs_2 {g : GX} {N i : Nat} {xs : Nat → Int32} {e : AH} {σ : GS} (hN : N ≤ 3072) (hi : i + 6 ≤ N) (G : CG e σ) (H : RH e 159 σ) (kk : ∀ (e' : AH) (σ' : GS), CG e' σ' → RH e' 159 σ' → V g mL_law (thL g N xs) e' (171 + (i + 6)) (3174 + 10 * (i + 6)) [(0, .float 0), (1, .ref 0), (2, .ref 159), (3, .int (nI i))] 971 []) : V g mL_law (thL g N xs) e (171 + i) (3174 + 10 * i) [(0, .float 0), (1, .ref 0), (2, .ref 159), (3, .int (nI i))] 240 [] := by
  obtain ⟨U, X⟩ := id G.1
  have hC := X.1
  refine V_aload_n (j := 1) (q := 241) dL_law_240 rfl rfl ?_
  refine V_sload_n (j := 0) (q := 242) dL_law_241 rfl rfl ?_
  refine V_iload_n (j := 3) (q := 243) dL_law_242 rfl rfl ?_
  refine V_iconst (q := 244) (v := nI 1) dL_law_243 rfl rfl ?_
  refine V_iaddN (q := 245) dL_law_244 rfl ?_
  refine V_sld (q := 246) (by omega) (by omega) dL_law_245 rfl ?_
  refine V_sload_n (j := 0) (q := 247) dL_law_246 rfl rfl ?_
  refine V_iload_n (j := 3) (q := 248) dL_law_247 rfl rfl ?_
  refine V_iconst (q := 249) (v := nI 2) dL_law_248 rfl rfl ?_
  refine V_iaddN (q := 250) dL_law_249 rfl ?_
  refine V_sld (q := 251) (by omega) (by omega) dL_law_250 rfl ?_
  refine V_sload_n (j := 0) (q := 252) dL_law_251 rfl rfl ?_
  refine V_iload_n (j := 3) (q := 253) dL_law_252 rfl rfl ?_
  refine V_iconst (q := 254) (v := nI 3) dL_law_253 rfl rfl ?_
  refine V_iaddN (q := 255) dL_law_254 rfl ?_
  refine V_sld (q := 256) (by omega) (by omega) dL_law_255 rfl ?_
  refine V_sload_n (j := 0) (q := 257) dL_law_256 rfl rfl ?_
  refine V_iload_n (j := 3) (q := 258) dL_law_257 rfl rfl ?_
  refine V_iconst (q := 259) (v := nI 4) dL_law_258 rfl rfl ?_
  refine V_iaddN (q := 260) dL_law_259 rfl ?_
  refine V_sld (q := 261) (by omega) (by omega) dL_law_260 rfl ?_
  refine V_callV (q := 264) (S := []) kL_23 (d_appendLoad (x0 := xs (i + 1)) (x1 := xs (i + 2)) (x2 := xs (i + 3)) (x3 := xs (i + 4)) G) (hC.1 0 _ s_0) rfl (fitR_of (show _ ≤ 12 by omega) (show _ ≤ 452 by omega) (show _ ≤ 600000 by omega) (show _ ≤ 7302250 by omega) (Nat.le_of_ble_eq_true rfl)) rfl dL_law_261 rfl (fun r1 h2 p3 => ?_)
  obtain ⟨rfl, F1, G1⟩ := p3
  have H1 := F1.rh H
  refine V_aload_n (j := 2) (q := 265) dL_law_264 rfl rfl ?_
  refine V_sload_n (j := 0) (q := 266) dL_law_265 rfl rfl ?_
  refine V_iload_n (j := 3) (q := 267) dL_law_266 rfl rfl ?_
  refine V_iconst (q := 268) (v := nI 1) dL_law_267 rfl rfl ?_
  refine V_iaddN (q := 269) dL_law_268 rfl ?_
  refine V_sld (q := 270) (by omega) (by omega) dL_law_269 rfl ?_
  refine V_sload_n (j := 0) (q := 271) dL_law_270 rfl rfl ?_
  refine V_iload_n (j := 3) (q := 272) dL_law_271 rfl rfl ?_
  refine V_iconst (q := 273) (v := nI 2) dL_law_272 rfl rfl ?_
  refine V_iaddN (q := 274) dL_law_273 rfl ?_
  refine V_sld (q := 275) (by omega) (by omega) dL_law_274 rfl ?_
  refine V_sload_n (j := 0) (q := 276) dL_law_275 rfl rfl ?_
  refine V_iload_n (j := 3) (q := 277) dL_law_276 rfl rfl ?_
  refine V_iconst (q := 278) (v := nI 3) dL_law_277 rfl rfl ?_
  refine V_iaddN (q := 279) dL_law_278 rfl ?_
  refine V_sld (q := 280) (by omega) (by omega) dL_law_279 rfl ?_
  refine V_sload_n (j := 0) (q := 281) dL_law_280 rfl rfl ?_
  refine V_iload_n (j := 3) (q := 282) dL_law_281 rfl rfl ?_
  refine V_iconst (q := 283) (v := nI 4) dL_law_282 rfl rfl ?_
  refine V_iaddN (q := 284) dL_law_283 rfl ?_
  refine V_sld (q := 285) (by omega) (by omega) dL_law_284 rfl ?_
  refine V_callV (q := 288) (S := [.int ((apR σ (vSt σ.1 (xs (i + 2)) (xs (i + 3)) (xs (i + 4)) (xs (i + 1))) (f6 2 (nt (xs (i + 2))) (nt (xs (i + 3))) (nt (xs (i + 4))) (nt (xs (i + 1))) 0)).1)]) kL_26 (c_appendLoad (x0 := xs (i + 1)) (x1 := xs (i + 2)) (x2 := xs (i + 3)) (x3 := xs (i + 4)) H1) (H1.1.1.1.1 0 _ rfl) rfl (fitR_of (show _ ≤ 12 by omega) (show _ ≤ 452 by omega) (show _ ≤ 600000 by omega) (show _ ≤ 7302250 by omega) (Nat.le_of_ble_eq_true rfl)) rfl dL_law_285 rfl (fun r4 h5 p6 => ?_)
  obtain ⟨rfl, F2, H2⟩ := p6
  have G2 := F2.cg G1
  refine V_icmp_eq (tgt := 971) (q := 291) dL_law_288 rfl rfl (fun c7 => ?_) (fun c7 => ?_)
  · skip
    refine V_wd (k' := 171 + (i + 6)) (n' := 3174 + 10 * (i + 6)) (by omega) (by omega) ?_
    exact kk _ _ G2 H2
  · skip
    exact absurd rfl c7

set_option maxHeartbeats 4000000 in
set_option maxRecDepth 100000 in
theorem cs_3 {g : GX} {N i : Nat} {xs : Nat → Int32} {e : AH} {σ : GS} (hN : N ≤ 3072) (hi : i + 6 ≤ N) (G : CG e σ) (H : RH e 159 σ) (kk : ∀ (e' : AH) (σ' : GS), CG e' σ' → RH e' 159 σ' → V g mL_law (thL g N xs) e' (171 + (i + 6)) (3174 + 10 * (i + 6)) [(0, .float 0), (1, .ref 0), (2, .ref 159), (3, .int (nI i))] 971 []) : V g mL_law (thL g N xs) e (171 + i) (3174 + 10 * i) [(0, .float 0), (1, .ref 0), (2, .ref 159), (3, .int (nI i))] 293 [] := by
  obtain ⟨U, X⟩ := id G.1
  have hC := X.1
  refine V_aload_n (j := 1) (q := 294) dL_law_293 rfl rfl ?_
  refine V_sload_n (j := 0) (q := 295) dL_law_294 rfl rfl ?_
  refine V_iload_n (j := 3) (q := 296) dL_law_295 rfl rfl ?_
  refine V_iconst (q := 297) (v := nI 1) dL_law_296 rfl rfl ?_
  refine V_iaddN (q := 298) dL_law_297 rfl ?_
  refine V_sld (q := 299) (by omega) (by omega) dL_law_298 rfl ?_
  refine V_sload_n (j := 0) (q := 300) dL_law_299 rfl rfl ?_
  refine V_iload_n (j := 3) (q := 301) dL_law_300 rfl rfl ?_
  refine V_iconst (q := 302) (v := nI 2) dL_law_301 rfl rfl ?_
  refine V_iaddN (q := 303) dL_law_302 rfl ?_
  refine V_sld (q := 304) (by omega) (by omega) dL_law_303 rfl ?_
  refine V_sload_n (j := 0) (q := 305) dL_law_304 rfl rfl ?_
  refine V_iload_n (j := 3) (q := 306) dL_law_305 rfl rfl ?_
  refine V_iconst (q := 307) (v := nI 3) dL_law_306 rfl rfl ?_
  refine V_iaddN (q := 308) dL_law_307 rfl ?_
  refine V_sld (q := 309) (by omega) (by omega) dL_law_308 rfl ?_
  refine V_sload_n (j := 0) (q := 310) dL_law_309 rfl rfl ?_
  refine V_iload_n (j := 3) (q := 311) dL_law_310 rfl rfl ?_
  refine V_iconst (q := 312) (v := nI 4) dL_law_311 rfl rfl ?_
  refine V_iaddN (q := 313) dL_law_312 rfl ?_
  refine V_sld (q := 314) (by omega) (by omega) dL_law_313 rfl ?_
  refine V_sload_n (j := 0) (q := 315) dL_law_314 rfl rfl ?_
  refine V_iload_n (j := 3) (q := 316) dL_law_315 rfl rfl ?_
  refine V_iconst (q := 317) (v := nI 5) dL_law_316 rfl rfl ?_
  refine V_iaddN (q := 318) dL_law_317 rfl ?_
  refine V_sld (q := 319) (by omega) (by omega) dL_law_318 rfl ?_
  refine V_callV (q := 322) (S := []) kL_27 (d_appendCopy (x0 := xs (i + 1)) (x1 := xs (i + 2)) (x2 := xs (i + 3)) (x3 := xs (i + 4)) (x4 := xs (i + 5)) G) (hC.1 0 _ s_0) rfl (fitR_of (show _ ≤ 12 by omega) (show _ ≤ 452 by omega) (show _ ≤ 600000 by omega) (show _ ≤ 7302250 by omega) (Nat.le_of_ble_eq_true rfl)) rfl dL_law_319 rfl (fun r1 h2 p3 => ?_)
  obtain ⟨rfl, F1, G1⟩ := p3
  have H1 := F1.rh H
  refine V_aload_n (j := 2) (q := 323) dL_law_322 rfl rfl ?_
  refine V_sload_n (j := 0) (q := 324) dL_law_323 rfl rfl ?_
  refine V_iload_n (j := 3) (q := 325) dL_law_324 rfl rfl ?_
  refine V_iconst (q := 326) (v := nI 1) dL_law_325 rfl rfl ?_
  refine V_iaddN (q := 327) dL_law_326 rfl ?_
  refine V_sld (q := 328) (by omega) (by omega) dL_law_327 rfl ?_
  refine V_sload_n (j := 0) (q := 329) dL_law_328 rfl rfl ?_
  refine V_iload_n (j := 3) (q := 330) dL_law_329 rfl rfl ?_
  refine V_iconst (q := 331) (v := nI 2) dL_law_330 rfl rfl ?_
  refine V_iaddN (q := 332) dL_law_331 rfl ?_
  refine V_sld (q := 333) (by omega) (by omega) dL_law_332 rfl ?_
  refine V_sload_n (j := 0) (q := 334) dL_law_333 rfl rfl ?_
  refine V_iload_n (j := 3) (q := 335) dL_law_334 rfl rfl ?_
  refine V_iconst (q := 336) (v := nI 3) dL_law_335 rfl rfl ?_
  refine V_iaddN (q := 337) dL_law_336 rfl ?_
  refine V_sld (q := 338) (by omega) (by omega) dL_law_337 rfl ?_
  refine V_sload_n (j := 0) (q := 339) dL_law_338 rfl rfl ?_
  refine V_iload_n (j := 3) (q := 340) dL_law_339 rfl rfl ?_
  refine V_iconst (q := 341) (v := nI 4) dL_law_340 rfl rfl ?_
  refine V_iaddN (q := 342) dL_law_341 rfl ?_
  refine V_sld (q := 343) (by omega) (by omega) dL_law_342 rfl ?_
  refine V_sload_n (j := 0) (q := 344) dL_law_343 rfl rfl ?_
  refine V_iload_n (j := 3) (q := 345) dL_law_344 rfl rfl ?_
  refine V_iconst (q := 346) (v := nI 5) dL_law_345 rfl rfl ?_
  refine V_iaddN (q := 347) dL_law_346 rfl ?_
  refine V_sld (q := 348) (by omega) (by omega) dL_law_347 rfl ?_
  refine V_callV (q := 351) (S := [.int ((apR σ (vCp σ.1 (xs (i + 1)) (xs (i + 2)) (xs (i + 3)) (xs (i + 4)) (xs (i + 5))) (f6 3 (nt (xs (i + 1))) (nt (xs (i + 2))) (nt (xs (i + 3))) (nt (xs (i + 4))) (nt (xs (i + 5))))).1)]) kL_31 (c_appendCopy (x0 := xs (i + 1)) (x1 := xs (i + 2)) (x2 := xs (i + 3)) (x3 := xs (i + 4)) (x4 := xs (i + 5)) H1) (H1.1.1.1.1 0 _ rfl) rfl (fitR_of (show _ ≤ 12 by omega) (show _ ≤ 452 by omega) (show _ ≤ 600000 by omega) (show _ ≤ 7302250 by omega) (Nat.le_of_ble_eq_true rfl)) rfl dL_law_348 rfl (fun r4 h5 p6 => ?_)
  obtain ⟨rfl, F2, H2⟩ := p6
  have G2 := F2.cg G1
  refine V_icmp_eq (tgt := 971) (q := 354) dL_law_351 rfl rfl (fun c7 => ?_) (fun c7 => ?_)
  · skip
    refine V_wd (k' := 171 + (i + 6)) (n' := 3174 + 10 * (i + 6)) (by omega) (by omega) ?_
    exact kk _ _ G2 H2
  · skip
    exact absurd rfl c7

set_option maxHeartbeats 4000000 in
set_option maxRecDepth 100000 in
theorem cs_4 {g : GX} {N i : Nat} {xs : Nat → Int32} {e : AH} {σ : GS} (hN : N ≤ 3072) (hi : i + 6 ≤ N) (G : CG e σ) (H : RH e 159 σ) (kk : ∀ (e' : AH) (σ' : GS), CG e' σ' → RH e' 159 σ' → V g mL_law (thL g N xs) e' (171 + (i + 6)) (3174 + 10 * (i + 6)) [(0, .float 0), (1, .ref 0), (2, .ref 159), (3, .int (nI i))] 971 []) : V g mL_law (thL g N xs) e (171 + i) (3174 + 10 * i) [(0, .float 0), (1, .ref 0), (2, .ref 159), (3, .int (nI i))] 356 [] := by
  obtain ⟨U, X⟩ := id G.1
  have hC := X.1
  refine V_aload_n (j := 1) (q := 357) dL_law_356 rfl rfl ?_
  refine V_sload_n (j := 0) (q := 358) dL_law_357 rfl rfl ?_
  refine V_iload_n (j := 3) (q := 359) dL_law_358 rfl rfl ?_
  refine V_iconst (q := 360) (v := nI 1) dL_law_359 rfl rfl ?_
  refine V_iaddN (q := 361) dL_law_360 rfl ?_
  refine V_sld (q := 362) (by omega) (by omega) dL_law_361 rfl ?_
  refine V_callV (q := 365) (S := []) kL_32 (d_appendEscape (x0 := xs (i + 1)) G) (hC.1 0 _ s_0) rfl (fitR_of (show _ ≤ 12 by omega) (show _ ≤ 452 by omega) (show _ ≤ 600000 by omega) (show _ ≤ 7302250 by omega) (Nat.le_of_ble_eq_true rfl)) rfl dL_law_362 rfl (fun r1 h2 p3 => ?_)
  obtain ⟨rfl, F1, G1⟩ := p3
  have H1 := F1.rh H
  refine V_aload_n (j := 2) (q := 366) dL_law_365 rfl rfl ?_
  refine V_sload_n (j := 0) (q := 367) dL_law_366 rfl rfl ?_
  refine V_iload_n (j := 3) (q := 368) dL_law_367 rfl rfl ?_
  refine V_iconst (q := 369) (v := nI 1) dL_law_368 rfl rfl ?_
  refine V_iaddN (q := 370) dL_law_369 rfl ?_
  refine V_sld (q := 371) (by omega) (by omega) dL_law_370 rfl ?_
  refine V_callV (q := 374) (S := [.int ((apR σ (isR σ.1 (xs (i + 1))) (f6 4 (nt (xs (i + 1))) 0 0 0 0)).1)]) kL_35 (c_appendEscape (x0 := xs (i + 1)) H1) (H1.1.1.1.1 0 _ rfl) rfl (fitR_of (show _ ≤ 12 by omega) (show _ ≤ 452 by omega) (show _ ≤ 600000 by omega) (show _ ≤ 7302250 by omega) (Nat.le_of_ble_eq_true rfl)) rfl dL_law_371 rfl (fun r4 h5 p6 => ?_)
  obtain ⟨rfl, F2, H2⟩ := p6
  have G2 := F2.cg G1
  refine V_icmp_eq (tgt := 971) (q := 377) dL_law_374 rfl rfl (fun c7 => ?_) (fun c7 => ?_)
  · skip
    refine V_wd (k' := 171 + (i + 6)) (n' := 3174 + 10 * (i + 6)) (by omega) (by omega) ?_
    exact kk _ _ G2 H2
  · skip
    exact absurd rfl c7

set_option maxHeartbeats 4000000 in
set_option maxRecDepth 100000 in
theorem cs_5 {g : GX} {N i : Nat} {xs : Nat → Int32} {e : AH} {σ : GS} (hN : N ≤ 3072) (hi : i + 6 ≤ N) (G : CG e σ) (H : RH e 159 σ) (kk : ∀ (e' : AH) (σ' : GS), CG e' σ' → RH e' 159 σ' → V g mL_law (thL g N xs) e' (171 + (i + 6)) (3174 + 10 * (i + 6)) [(0, .float 0), (1, .ref 0), (2, .ref 159), (3, .int (nI i))] 971 []) : V g mL_law (thL g N xs) e (171 + i) (3174 + 10 * i) [(0, .float 0), (1, .ref 0), (2, .ref 159), (3, .int (nI i))] 379 [] := by
  obtain ⟨U, X⟩ := id G.1
  have hC := X.1
  refine V_aload_n (j := 1) (q := 380) dL_law_379 rfl rfl ?_
  refine V_sload_n (j := 0) (q := 381) dL_law_380 rfl rfl ?_
  refine V_iload_n (j := 3) (q := 382) dL_law_381 rfl rfl ?_
  refine V_iconst (q := 383) (v := nI 1) dL_law_382 rfl rfl ?_
  refine V_iaddN (q := 384) dL_law_383 rfl ?_
  refine V_sld (q := 385) (by omega) (by omega) dL_law_384 rfl ?_
  refine V_sload_n (j := 0) (q := 386) dL_law_385 rfl rfl ?_
  refine V_iload_n (j := 3) (q := 387) dL_law_386 rfl rfl ?_
  refine V_iconst (q := 388) (v := nI 2) dL_law_387 rfl rfl ?_
  refine V_iaddN (q := 389) dL_law_388 rfl ?_
  refine V_sld (q := 390) (by omega) (by omega) dL_law_389 rfl ?_
  refine V_callV (q := 393) (S := []) kL_36 (d_appendConstant (x0 := xs (i + 1)) (x1 := xs (i + 2)) G) (hC.1 0 _ s_0) rfl (fitR_of (show _ ≤ 12 by omega) (show _ ≤ 452 by omega) (show _ ≤ 600000 by omega) (show _ ≤ 7302250 by omega) (Nat.le_of_ble_eq_true rfl)) rfl dL_law_390 rfl (fun r1 h2 p3 => ?_)
  obtain ⟨rfl, F1, G1⟩ := p3
  have H1 := F1.rh H
  refine V_aload_n (j := 2) (q := 394) dL_law_393 rfl rfl ?_
  refine V_sload_n (j := 0) (q := 395) dL_law_394 rfl rfl ?_
  refine V_iload_n (j := 3) (q := 396) dL_law_395 rfl rfl ?_
  refine V_iconst (q := 397) (v := nI 1) dL_law_396 rfl rfl ?_
  refine V_iaddN (q := 398) dL_law_397 rfl ?_
  refine V_sld (q := 399) (by omega) (by omega) dL_law_398 rfl ?_
  refine V_sload_n (j := 0) (q := 400) dL_law_399 rfl rfl ?_
  refine V_iload_n (j := 3) (q := 401) dL_law_400 rfl rfl ?_
  refine V_iconst (q := 402) (v := nI 2) dL_law_401 rfl rfl ?_
  refine V_iaddN (q := 403) dL_law_402 rfl ?_
  refine V_sld (q := 404) (by omega) (by omega) dL_law_403 rfl ?_
  refine V_callV (q := 407) (S := [.int ((apR σ (isG (xs (i + 1))) (f6 5 (nt (xs (i + 1))) (vN (xs (i + 2))) 0 0 0)).1)]) kL_40 (c_appendConstant (x0 := xs (i + 1)) (x1 := xs (i + 2)) H1) (H1.1.1.1.1 0 _ rfl) rfl (fitR_of (show _ ≤ 12 by omega) (show _ ≤ 452 by omega) (show _ ≤ 600000 by omega) (show _ ≤ 7302250 by omega) (Nat.le_of_ble_eq_true rfl)) rfl dL_law_404 rfl (fun r4 h5 p6 => ?_)
  obtain ⟨rfl, F2, H2⟩ := p6
  have G2 := F2.cg G1
  refine V_icmp_eq (tgt := 971) (q := 410) dL_law_407 rfl rfl (fun c7 => ?_) (fun c7 => ?_)
  · skip
    refine V_wd (k' := 171 + (i + 6)) (n' := 3174 + 10 * (i + 6)) (by omega) (by omega) ?_
    exact kk _ _ G2 H2
  · skip
    exact absurd rfl c7

set_option maxHeartbeats 4000000 in
set_option maxRecDepth 100000 in
theorem cs_6 {g : GX} {N i : Nat} {xs : Nat → Int32} {e : AH} {σ : GS} (hN : N ≤ 3072) (hi : i + 6 ≤ N) (G : CG e σ) (H : RH e 159 σ) (kk : ∀ (e' : AH) (σ' : GS), CG e' σ' → RH e' 159 σ' → V g mL_law (thL g N xs) e' (171 + (i + 6)) (3174 + 10 * (i + 6)) [(0, .float 0), (1, .ref 0), (2, .ref 159), (3, .int (nI i))] 971 []) : V g mL_law (thL g N xs) e (171 + i) (3174 + 10 * i) [(0, .float 0), (1, .ref 0), (2, .ref 159), (3, .int (nI i))] 412 [] := by
  obtain ⟨U, X⟩ := id G.1
  have hC := X.1
  refine V_aload_n (j := 1) (q := 413) dL_law_412 rfl rfl ?_
  refine V_sload_n (j := 0) (q := 414) dL_law_413 rfl rfl ?_
  refine V_iload_n (j := 3) (q := 415) dL_law_414 rfl rfl ?_
  refine V_iconst (q := 416) (v := nI 1) dL_law_415 rfl rfl ?_
  refine V_iaddN (q := 417) dL_law_416 rfl ?_
  refine V_sld (q := 418) (by omega) (by omega) dL_law_417 rfl ?_
  refine V_sload_n (j := 0) (q := 419) dL_law_418 rfl rfl ?_
  refine V_iload_n (j := 3) (q := 420) dL_law_419 rfl rfl ?_
  refine V_iconst (q := 421) (v := nI 2) dL_law_420 rfl rfl ?_
  refine V_iaddN (q := 422) dL_law_421 rfl ?_
  refine V_sld (q := 423) (by omega) (by omega) dL_law_422 rfl ?_
  refine V_sload_n (j := 0) (q := 424) dL_law_423 rfl rfl ?_
  refine V_iload_n (j := 3) (q := 425) dL_law_424 rfl rfl ?_
  refine V_iconst (q := 426) (v := nI 3) dL_law_425 rfl rfl ?_
  refine V_iaddN (q := 427) dL_law_426 rfl ?_
  refine V_sld (q := 428) (by omega) (by omega) dL_law_427 rfl ?_
  refine V_callV (q := 431) (S := []) kL_41 (d_appendAdd (x0 := xs (i + 1)) (x1 := xs (i + 2)) (x2 := xs (i + 3)) G) (hC.1 0 _ s_0) rfl (fitR_of (show _ ≤ 12 by omega) (show _ ≤ 452 by omega) (show _ ≤ 600000 by omega) (show _ ≤ 7302250 by omega) (Nat.le_of_ble_eq_true rfl)) rfl dL_law_428 rfl (fun r1 h2 p3 => ?_)
  obtain ⟨rfl, F1, G1⟩ := p3
  have H1 := F1.rh H
  refine V_aload_n (j := 2) (q := 432) dL_law_431 rfl rfl ?_
  refine V_sload_n (j := 0) (q := 433) dL_law_432 rfl rfl ?_
  refine V_iload_n (j := 3) (q := 434) dL_law_433 rfl rfl ?_
  refine V_iconst (q := 435) (v := nI 1) dL_law_434 rfl rfl ?_
  refine V_iaddN (q := 436) dL_law_435 rfl ?_
  refine V_sld (q := 437) (by omega) (by omega) dL_law_436 rfl ?_
  refine V_sload_n (j := 0) (q := 438) dL_law_437 rfl rfl ?_
  refine V_iload_n (j := 3) (q := 439) dL_law_438 rfl rfl ?_
  refine V_iconst (q := 440) (v := nI 2) dL_law_439 rfl rfl ?_
  refine V_iaddN (q := 441) dL_law_440 rfl ?_
  refine V_sld (q := 442) (by omega) (by omega) dL_law_441 rfl ?_
  refine V_sload_n (j := 0) (q := 443) dL_law_442 rfl rfl ?_
  refine V_iload_n (j := 3) (q := 444) dL_law_443 rfl rfl ?_
  refine V_iconst (q := 445) (v := nI 3) dL_law_444 rfl rfl ?_
  refine V_iaddN (q := 446) dL_law_445 rfl ?_
  refine V_sld (q := 447) (by omega) (by omega) dL_law_446 rfl ?_
  refine V_callV (q := 450) (S := [.int ((apR σ (vAd (xs (i + 1)) (xs (i + 2)) (xs (i + 3))) (f6 6 (nt (xs (i + 1))) (nt (xs (i + 2))) (nt (xs (i + 3))) 0 0)).1)]) kL_45 (c_appendAdd (x0 := xs (i + 1)) (x1 := xs (i + 2)) (x2 := xs (i + 3)) H1) (H1.1.1.1.1 0 _ rfl) rfl (fitR_of (show _ ≤ 12 by omega) (show _ ≤ 452 by omega) (show _ ≤ 600000 by omega) (show _ ≤ 7302250 by omega) (Nat.le_of_ble_eq_true rfl)) rfl dL_law_447 rfl (fun r4 h5 p6 => ?_)
  obtain ⟨rfl, F2, H2⟩ := p6
  have G2 := F2.cg G1
  refine V_icmp_eq (tgt := 971) (q := 453) dL_law_450 rfl rfl (fun c7 => ?_) (fun c7 => ?_)
  · skip
    refine V_wd (k' := 171 + (i + 6)) (n' := 3174 + 10 * (i + 6)) (by omega) (by omega) ?_
    exact kk _ _ G2 H2
  · skip
    exact absurd rfl c7

set_option maxHeartbeats 4000000 in
set_option maxRecDepth 100000 in
theorem cs_7 {g : GX} {N i : Nat} {xs : Nat → Int32} {e : AH} {σ : GS} (hN : N ≤ 3072) (hi : i + 6 ≤ N) (G : CG e σ) (H : RH e 159 σ) (kk : ∀ (e' : AH) (σ' : GS), CG e' σ' → RH e' 159 σ' → V g mL_law (thL g N xs) e' (171 + (i + 6)) (3174 + 10 * (i + 6)) [(0, .float 0), (1, .ref 0), (2, .ref 159), (3, .int (nI i))] 971 []) : V g mL_law (thL g N xs) e (171 + i) (3174 + 10 * i) [(0, .float 0), (1, .ref 0), (2, .ref 159), (3, .int (nI i))] 455 [] := by
  obtain ⟨U, X⟩ := id G.1
  have hC := X.1
  refine V_aload_n (j := 1) (q := 456) dL_law_455 rfl rfl ?_
  refine V_sload_n (j := 0) (q := 457) dL_law_456 rfl rfl ?_
  refine V_iload_n (j := 3) (q := 458) dL_law_457 rfl rfl ?_
  refine V_iconst (q := 459) (v := nI 1) dL_law_458 rfl rfl ?_
  refine V_iaddN (q := 460) dL_law_459 rfl ?_
  refine V_sld (q := 461) (by omega) (by omega) dL_law_460 rfl ?_
  refine V_sload_n (j := 0) (q := 462) dL_law_461 rfl rfl ?_
  refine V_iload_n (j := 3) (q := 463) dL_law_462 rfl rfl ?_
  refine V_iconst (q := 464) (v := nI 2) dL_law_463 rfl rfl ?_
  refine V_iaddN (q := 465) dL_law_464 rfl ?_
  refine V_sld (q := 466) (by omega) (by omega) dL_law_465 rfl ?_
  refine V_callV (q := 469) (S := []) kL_46 (d_appendSkip (x0 := xs (i + 1)) (x1 := xs (i + 2)) G) (hC.1 0 _ s_0) rfl (fitR_of (show _ ≤ 12 by omega) (show _ ≤ 452 by omega) (show _ ≤ 600000 by omega) (show _ ≤ 7302250 by omega) (Nat.le_of_ble_eq_true rfl)) rfl dL_law_466 rfl (fun r1 h2 p3 => ?_)
  obtain ⟨rfl, F1, G1⟩ := p3
  have H1 := F1.rh H
  refine V_aload_n (j := 2) (q := 470) dL_law_469 rfl rfl ?_
  refine V_sload_n (j := 0) (q := 471) dL_law_470 rfl rfl ?_
  refine V_iload_n (j := 3) (q := 472) dL_law_471 rfl rfl ?_
  refine V_iconst (q := 473) (v := nI 1) dL_law_472 rfl rfl ?_
  refine V_iaddN (q := 474) dL_law_473 rfl ?_
  refine V_sld (q := 475) (by omega) (by omega) dL_law_474 rfl ?_
  refine V_sload_n (j := 0) (q := 476) dL_law_475 rfl rfl ?_
  refine V_iload_n (j := 3) (q := 477) dL_law_476 rfl rfl ?_
  refine V_iconst (q := 478) (v := nI 2) dL_law_477 rfl rfl ?_
  refine V_iaddN (q := 479) dL_law_478 rfl ?_
  refine V_sld (q := 480) (by omega) (by omega) dL_law_479 rfl ?_
  refine V_callV (q := 483) (S := [.int ((apR σ (vSk (xs (i + 1)) (xs (i + 2))) (f6 7 (nt (xs (i + 1))) (nt (xs (i + 2))) 0 0 0)).1)]) kL_49 (c_appendSkip (x0 := xs (i + 1)) (x1 := xs (i + 2)) H1) (H1.1.1.1.1 0 _ rfl) rfl (fitR_of (show _ ≤ 12 by omega) (show _ ≤ 452 by omega) (show _ ≤ 600000 by omega) (show _ ≤ 7302250 by omega) (Nat.le_of_ble_eq_true rfl)) rfl dL_law_480 rfl (fun r4 h5 p6 => ?_)
  obtain ⟨rfl, F2, H2⟩ := p6
  have G2 := F2.cg G1
  refine V_icmp_eq (tgt := 971) (q := 486) dL_law_483 rfl rfl (fun c7 => ?_) (fun c7 => ?_)
  · skip
    refine V_wd (k' := 171 + (i + 6)) (n' := 3174 + 10 * (i + 6)) (by omega) (by omega) ?_
    exact kk _ _ G2 H2
  · skip
    exact absurd rfl c7

