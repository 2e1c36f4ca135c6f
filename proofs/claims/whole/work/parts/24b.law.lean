set_option maxRecDepth 20000 in
set_option maxHeartbeats 4000000 in
theorem w_huts {X : RX} {r : Nat → Nat} {b N i : Nat} {sc : Nat → Int32} {G : GS} {h : Hp} (C : Ok X cL_law RL 4 1000 600000 7302250) (S : Sc X b N sc) (hi : i + 7 ≤ N) (K : ∀ (G : GS) (h : Hp), Gd G h → Rn X 100 78294 1132 [some (.ref b), some (.ref (r 0)), some (.ref (r 73)), some (.int (nI i))] [] (LY r) h) (g : Gd G h) : Rn X 100 78294 180 [some (.ref b), some (.ref (r 0)), some (.ref (r 73)), some (.int (nI i))] [] (LY r) h := by
  refine R_al1 (n := 181) C dL_law_180 rfl ?_
  refine R_al0 (n := 182) C dL_law_181 rfl ?_
  refine R_il3 (n := 183) C dL_law_182 rfl ?_
  refine R_ic (n := 184) C dL_law_183 ci_1 rfl ?_
  refine R_iaddN (n := 185) C dL_law_184 rfl ?_
  refine S_ald (n := 186) C S (by omega) dL_law_185 rfl ?_
  refine M_callV (n := 189) C (p_huts _ _ _ r g.1 g.2.2 (sc (i + 1))) mw_X10_huts ml_L_13 iv_X10_huts dL_law_186 rfl rfl rfl rfl (Nat.le_of_ble_eq_true rfl) ⟨(Nat.le_of_ble_eq_true rfl), (Nat.le_of_ble_eq_true rfl)⟩ ⟨(Nat.le_of_ble_eq_true rfl), (Nat.le_of_ble_eq_true rfl)⟩ rfl (pGs (fun h1 q1 => ?_))
  refine R_al2 (n := 190) C dL_law_189 rfl ?_
  refine R_al0 (n := 191) C dL_law_190 rfl ?_
  refine R_il3 (n := 192) C dL_law_191 rfl ?_
  refine R_ic (n := 193) C dL_law_192 ci_1 rfl ?_
  refine R_iaddN (n := 194) C dL_law_193 rfl ?_
  refine S_ald (n := 195) C S (by omega) dL_law_194 rfl ?_
  refine M_callV (n := 198) C (m_huts _ _ _ r (RMo.c q1.2 g.2.1) g.2.2 (sc (i + 1))) mw_X11_huts ml_L_17 iv_X11_huts dL_law_195 rfl rfl rfl rfl (Nat.le_of_ble_eq_true rfl) ⟨(Nat.le_of_ble_eq_true rfl), (Nat.le_of_ble_eq_true rfl)⟩ ⟨(Nat.le_of_ble_eq_true rfl), (Nat.le_of_ble_eq_true rfl)⟩ rfl (pGs (fun h2 q2 => ?_))
  refine R_icmp_eq (n := 201) (tgt := 1132) C dL_law_198 rfl rfl (fun _ => ?_) (fun c => absurd rfl c)
  exact K _ _ ⟨RCl.m q2.2 q1.1, q2.1, nHuts_inv g.2.2 (sc (i + 1))⟩
set_option maxRecDepth 20000 in
set_option maxHeartbeats 4000000 in
theorem w_hut {X : RX} {r : Nat → Nat} {b N i : Nat} {sc : Nat → Int32} {G : GS} {h : Hp} (C : Ok X cL_law RL 4 1000 600000 7302250) (S : Sc X b N sc) (hi : i + 7 ≤ N) (K : ∀ (G : GS) (h : Hp), Gd G h → Rn X 100 78294 1132 [some (.ref b), some (.ref (r 0)), some (.ref (r 73)), some (.int (nI i))] [] (LY r) h) (g : Gd G h) : Rn X 100 78294 203 [some (.ref b), some (.ref (r 0)), some (.ref (r 73)), some (.int (nI i))] [] (LY r) h := by
  refine R_al1 (n := 204) C dL_law_203 rfl ?_
  refine R_al0 (n := 205) C dL_law_204 rfl ?_
  refine R_il3 (n := 206) C dL_law_205 rfl ?_
  refine R_ic (n := 207) C dL_law_206 ci_1 rfl ?_
  refine R_iaddN (n := 208) C dL_law_207 rfl ?_
  refine S_ald (n := 209) C S (by omega) dL_law_208 rfl ?_
  refine R_al0 (n := 210) C dL_law_209 rfl ?_
  refine R_il3 (n := 211) C dL_law_210 rfl ?_
  refine R_ic (n := 212) C dL_law_211 ci_2 rfl ?_
  refine R_iaddN (n := 213) C dL_law_212 rfl ?_
  refine S_ald (n := 214) C S (by omega) dL_law_213 rfl ?_
  refine R_al0 (n := 215) C dL_law_214 rfl ?_
  refine R_il3 (n := 216) C dL_law_215 rfl ?_
  refine R_ic (n := 217) C dL_law_216 ci_3 rfl ?_
  refine R_iaddN (n := 218) C dL_law_217 rfl ?_
  refine S_ald (n := 219) C S (by omega) dL_law_218 rfl ?_
  refine M_callV (n := 222) C (p_hut _ _ _ r g.1 g.2.2 (sc (i + 1)) (sc (i + 2)) (sc (i + 3))) mw_X10_hut ml_L_18 iv_X10_hut dL_law_219 rfl rfl rfl rfl (Nat.le_of_ble_eq_true rfl) ⟨(Nat.le_of_ble_eq_true rfl), (Nat.le_of_ble_eq_true rfl)⟩ ⟨(Nat.le_of_ble_eq_true rfl), (Nat.le_of_ble_eq_true rfl)⟩ rfl (pGs (fun h1 q1 => ?_))
  refine R_al2 (n := 223) C dL_law_222 rfl ?_
  refine R_al0 (n := 224) C dL_law_223 rfl ?_
  refine R_il3 (n := 225) C dL_law_224 rfl ?_
  refine R_ic (n := 226) C dL_law_225 ci_1 rfl ?_
  refine R_iaddN (n := 227) C dL_law_226 rfl ?_
  refine S_ald (n := 228) C S (by omega) dL_law_227 rfl ?_
  refine R_al0 (n := 229) C dL_law_228 rfl ?_
  refine R_il3 (n := 230) C dL_law_229 rfl ?_
  refine R_ic (n := 231) C dL_law_230 ci_2 rfl ?_
  refine R_iaddN (n := 232) C dL_law_231 rfl ?_
  refine S_ald (n := 233) C S (by omega) dL_law_232 rfl ?_
  refine R_al0 (n := 234) C dL_law_233 rfl ?_
  refine R_il3 (n := 235) C dL_law_234 rfl ?_
  refine R_ic (n := 236) C dL_law_235 ci_3 rfl ?_
  refine R_iaddN (n := 237) C dL_law_236 rfl ?_
  refine S_ald (n := 238) C S (by omega) dL_law_237 rfl ?_
  refine M_callV (n := 241) C (m_hut _ _ _ r (RMo.c q1.2 g.2.1) g.2.2 (sc (i + 1)) (sc (i + 2)) (sc (i + 3))) mw_X11_hut ml_L_22 iv_X11_hut dL_law_238 rfl rfl rfl rfl (Nat.le_of_ble_eq_true rfl) ⟨(Nat.le_of_ble_eq_true rfl), (Nat.le_of_ble_eq_true rfl)⟩ ⟨(Nat.le_of_ble_eq_true rfl), (Nat.le_of_ble_eq_true rfl)⟩ rfl (pGs (fun h2 q2 => ?_))
  refine R_icmp_eq (n := 244) (tgt := 1132) C dL_law_241 rfl rfl (fun _ => ?_) (fun c => absurd rfl c)
  exact K _ _ ⟨RCl.m q2.2 q1.1, q2.1, nHut_inv g.2.2 (sc (i + 1)) (sc (i + 2)) (sc (i + 3))⟩
set_option maxRecDepth 20000 in
set_option maxHeartbeats 4000000 in
theorem w_say {X : RX} {r : Nat → Nat} {b N i : Nat} {sc : Nat → Int32} {G : GS} {h : Hp} (C : Ok X cL_law RL 4 1000 600000 7302250) (S : Sc X b N sc) (hi : i + 7 ≤ N) (K : ∀ (G : GS) (h : Hp), Gd G h → Rn X 100 78294 1132 [some (.ref b), some (.ref (r 0)), some (.ref (r 73)), some (.int (nI i))] [] (LY r) h) (g : Gd G h) : Rn X 100 78294 246 [some (.ref b), some (.ref (r 0)), some (.ref (r 73)), some (.int (nI i))] [] (LY r) h := by
  refine R_al1 (n := 247) C dL_law_246 rfl ?_
  refine R_al0 (n := 248) C dL_law_247 rfl ?_
  refine R_il3 (n := 249) C dL_law_248 rfl ?_
  refine R_ic (n := 250) C dL_law_249 ci_1 rfl ?_
  refine R_iaddN (n := 251) C dL_law_250 rfl ?_
  refine S_ald (n := 252) C S (by omega) dL_law_251 rfl ?_
  refine M_callV (n := 255) C (p_say _ _ _ r g.1 g.2.2 (sc (i + 1))) mw_X10_say ml_L_23 iv_X10_say dL_law_252 rfl rfl rfl rfl (Nat.le_of_ble_eq_true rfl) ⟨(Nat.le_of_ble_eq_true rfl), (Nat.le_of_ble_eq_true rfl)⟩ ⟨(Nat.le_of_ble_eq_true rfl), (Nat.le_of_ble_eq_true rfl)⟩ rfl (pGs (fun h1 q1 => ?_))
  refine R_al2 (n := 256) C dL_law_255 rfl ?_
  refine R_al0 (n := 257) C dL_law_256 rfl ?_
  refine R_il3 (n := 258) C dL_law_257 rfl ?_
  refine R_ic (n := 259) C dL_law_258 ci_1 rfl ?_
  refine R_iaddN (n := 260) C dL_law_259 rfl ?_
  refine S_ald (n := 261) C S (by omega) dL_law_260 rfl ?_
  refine M_callV (n := 264) C (m_say _ _ _ r (RMo.c q1.2 g.2.1) g.2.2 (sc (i + 1))) mw_X11_say ml_L_26 iv_X11_say dL_law_261 rfl rfl rfl rfl (Nat.le_of_ble_eq_true rfl) ⟨(Nat.le_of_ble_eq_true rfl), (Nat.le_of_ble_eq_true rfl)⟩ ⟨(Nat.le_of_ble_eq_true rfl), (Nat.le_of_ble_eq_true rfl)⟩ rfl (pGs (fun h2 q2 => ?_))
  refine R_icmp_eq (n := 267) (tgt := 1132) C dL_law_264 rfl rfl (fun _ => ?_) (fun c => absurd rfl c)
  exact K _ _ ⟨RCl.m q2.2 q1.1, q2.1, nSay_inv g.2.2 (sc (i + 1))⟩
set_option maxRecDepth 20000 in
set_option maxHeartbeats 4000000 in
theorem w_wipe {X : RX} {r : Nat → Nat} {b N i : Nat} {sc : Nat → Int32} {G : GS} {h : Hp} (C : Ok X cL_law RL 4 1000 600000 7302250) (S : Sc X b N sc) (hi : i + 7 ≤ N) (K : ∀ (G : GS) (h : Hp), Gd G h → Rn X 100 78294 1132 [some (.ref b), some (.ref (r 0)), some (.ref (r 73)), some (.int (nI i))] [] (LY r) h) (g : Gd G h) : Rn X 100 78294 269 [some (.ref b), some (.ref (r 0)), some (.ref (r 73)), some (.int (nI i))] [] (LY r) h := by
  refine R_al1 (n := 270) C dL_law_269 rfl ?_
  refine M_callV (n := 273) C (p_wipe _ _ _ r g.1 g.2.2 ) mw_X10_wipe ml_L_27 iv_X10_wipe dL_law_270 rfl rfl rfl rfl (Nat.le_of_ble_eq_true rfl) ⟨(Nat.le_of_ble_eq_true rfl), (Nat.le_of_ble_eq_true rfl)⟩ ⟨(Nat.le_of_ble_eq_true rfl), (Nat.le_of_ble_eq_true rfl)⟩ rfl (pGs (fun h1 q1 => ?_))
  refine R_al2 (n := 274) C dL_law_273 rfl ?_
  refine M_callV (n := 277) C (m_wipe _ _ _ r (RMo.c q1.2 g.2.1) ) mw_X11_wipe ml_L_31 iv_X11_wipe dL_law_274 rfl rfl rfl rfl (Nat.le_of_ble_eq_true rfl) ⟨(Nat.le_of_ble_eq_true rfl), (Nat.le_of_ble_eq_true rfl)⟩ ⟨(Nat.le_of_ble_eq_true rfl), (Nat.le_of_ble_eq_true rfl)⟩ rfl (pGs (fun h2 q2 => ?_))
  refine R_icmp_eq (n := 280) (tgt := 1132) C dL_law_277 rfl rfl (fun _ => ?_) (fun c => absurd rfl c)
  exact K _ _ ⟨RCl.m q2.2 q1.1, q2.1, nWipe_inv g.2.2 ⟩
set_option maxRecDepth 20000 in
set_option maxHeartbeats 4000000 in
theorem w_fault {X : RX} {r : Nat → Nat} {b N i : Nat} {sc : Nat → Int32} {G : GS} {h : Hp} (C : Ok X cL_law RL 4 1000 600000 7302250) (S : Sc X b N sc) (hi : i + 7 ≤ N) (K : ∀ (G : GS) (h : Hp), Gd G h → Rn X 100 78294 1132 [some (.ref b), some (.ref (r 0)), some (.ref (r 73)), some (.int (nI i))] [] (LY r) h) (g : Gd G h) : Rn X 100 78294 282 [some (.ref b), some (.ref (r 0)), some (.ref (r 73)), some (.int (nI i))] [] (LY r) h := by
  refine R_al1 (n := 283) C dL_law_282 rfl ?_
  refine R_al0 (n := 284) C dL_law_283 rfl ?_
  refine R_il3 (n := 285) C dL_law_284 rfl ?_
  refine R_ic (n := 286) C dL_law_285 ci_1 rfl ?_
  refine R_iaddN (n := 287) C dL_law_286 rfl ?_
  refine S_ald (n := 288) C S (by omega) dL_law_287 rfl ?_
  refine M_callV (n := 291) C (p_fault _ _ _ r g.1 g.2.2 (sc (i + 1))) mw_X10_fault ml_L_32 iv_X10_fault dL_law_288 rfl rfl rfl rfl (Nat.le_of_ble_eq_true rfl) ⟨(Nat.le_of_ble_eq_true rfl), (Nat.le_of_ble_eq_true rfl)⟩ ⟨(Nat.le_of_ble_eq_true rfl), (Nat.le_of_ble_eq_true rfl)⟩ rfl (pGs (fun h1 q1 => ?_))
  refine R_al2 (n := 292) C dL_law_291 rfl ?_
  refine R_al0 (n := 293) C dL_law_292 rfl ?_
  refine R_il3 (n := 294) C dL_law_293 rfl ?_
  refine R_ic (n := 295) C dL_law_294 ci_1 rfl ?_
  refine R_iaddN (n := 296) C dL_law_295 rfl ?_
  refine S_ald (n := 297) C S (by omega) dL_law_296 rfl ?_
  refine M_callV (n := 300) C (m_fault _ _ _ r (RMo.c q1.2 g.2.1) g.2.2 (sc (i + 1))) mw_X11_fault ml_L_35 iv_X11_fault dL_law_297 rfl rfl rfl rfl (Nat.le_of_ble_eq_true rfl) ⟨(Nat.le_of_ble_eq_true rfl), (Nat.le_of_ble_eq_true rfl)⟩ ⟨(Nat.le_of_ble_eq_true rfl), (Nat.le_of_ble_eq_true rfl)⟩ rfl (pGs (fun h2 q2 => ?_))
  refine R_icmp_eq (n := 303) (tgt := 1132) C dL_law_300 rfl rfl (fun _ => ?_) (fun c => absurd rfl c)
  exact K _ _ ⟨RCl.m q2.2 q1.1, q2.1, g.2.2⟩
set_option maxRecDepth 20000 in
set_option maxHeartbeats 4000000 in
theorem w_word {X : RX} {r : Nat → Nat} {b N i : Nat} {sc : Nat → Int32} {G : GS} {h : Hp} (C : Ok X cL_law RL 4 1000 600000 7302250) (S : Sc X b N sc) (hi : i + 7 ≤ N) (K : ∀ (G : GS) (h : Hp), Gd G h → Rn X 100 78294 1132 [some (.ref b), some (.ref (r 0)), some (.ref (r 73)), some (.int (nI i))] [] (LY r) h) (g : Gd G h) : Rn X 100 78294 305 [some (.ref b), some (.ref (r 0)), some (.ref (r 73)), some (.int (nI i))] [] (LY r) h := by
  refine R_al1 (n := 306) C dL_law_305 rfl ?_
  refine R_al0 (n := 307) C dL_law_306 rfl ?_
  refine R_il3 (n := 308) C dL_law_307 rfl ?_
  refine R_ic (n := 309) C dL_law_308 ci_1 rfl ?_
  refine R_iaddN (n := 310) C dL_law_309 rfl ?_
  refine S_ald (n := 311) C S (by omega) dL_law_310 rfl ?_
  refine M_callV (n := 314) C (p_word _ _ _ r g.1 g.2.2 (sc (i + 1))) mw_X10_word ml_L_36 iv_X10_word dL_law_311 rfl rfl rfl rfl (Nat.le_of_ble_eq_true rfl) ⟨(Nat.le_of_ble_eq_true rfl), (Nat.le_of_ble_eq_true rfl)⟩ ⟨(Nat.le_of_ble_eq_true rfl), (Nat.le_of_ble_eq_true rfl)⟩ rfl (pGs (fun h1 q1 => ?_))
  refine R_al2 (n := 315) C dL_law_314 rfl ?_
  refine R_al0 (n := 316) C dL_law_315 rfl ?_
  refine R_il3 (n := 317) C dL_law_316 rfl ?_
  refine R_ic (n := 318) C dL_law_317 ci_1 rfl ?_
  refine R_iaddN (n := 319) C dL_law_318 rfl ?_
  refine S_ald (n := 320) C S (by omega) dL_law_319 rfl ?_
  refine M_callV (n := 323) C (m_word _ _ _ r (RMo.c q1.2 g.2.1) g.2.2 (sc (i + 1))) mw_X11_word ml_L_39 iv_X11_word dL_law_320 rfl rfl rfl rfl (Nat.le_of_ble_eq_true rfl) ⟨(Nat.le_of_ble_eq_true rfl), (Nat.le_of_ble_eq_true rfl)⟩ ⟨(Nat.le_of_ble_eq_true rfl), (Nat.le_of_ble_eq_true rfl)⟩ rfl (pGs (fun h2 q2 => ?_))
  refine R_icmp_eq (n := 326) (tgt := 1132) C dL_law_323 rfl rfl (fun _ => ?_) (fun c => absurd rfl c)
  exact K _ _ ⟨RCl.m q2.2 q1.1, q2.1, nWord_inv g.2.2 (sc (i + 1))⟩
set_option maxRecDepth 20000 in
set_option maxHeartbeats 4000000 in
theorem w_unword {X : RX} {r : Nat → Nat} {b N i : Nat} {sc : Nat → Int32} {G : GS} {h : Hp} (C : Ok X cL_law RL 4 1000 600000 7302250) (S : Sc X b N sc) (hi : i + 7 ≤ N) (K : ∀ (G : GS) (h : Hp), Gd G h → Rn X 100 78294 1132 [some (.ref b), some (.ref (r 0)), some (.ref (r 73)), some (.int (nI i))] [] (LY r) h) (g : Gd G h) : Rn X 100 78294 328 [some (.ref b), some (.ref (r 0)), some (.ref (r 73)), some (.int (nI i))] [] (LY r) h := by
  refine R_al1 (n := 329) C dL_law_328 rfl ?_
  refine R_al0 (n := 330) C dL_law_329 rfl ?_
  refine R_il3 (n := 331) C dL_law_330 rfl ?_
  refine R_ic (n := 332) C dL_law_331 ci_1 rfl ?_
  refine R_iaddN (n := 333) C dL_law_332 rfl ?_
  refine S_ald (n := 334) C S (by omega) dL_law_333 rfl ?_
  refine M_callV (n := 337) C (p_unword _ _ _ r g.1 g.2.2 (sc (i + 1))) mw_X10_unword ml_L_40 iv_X10_unword dL_law_334 rfl rfl rfl rfl (Nat.le_of_ble_eq_true rfl) ⟨(Nat.le_of_ble_eq_true rfl), (Nat.le_of_ble_eq_true rfl)⟩ ⟨(Nat.le_of_ble_eq_true rfl), (Nat.le_of_ble_eq_true rfl)⟩ rfl (pGs (fun h1 q1 => ?_))
  refine R_al2 (n := 338) C dL_law_337 rfl ?_
  refine R_al0 (n := 339) C dL_law_338 rfl ?_
  refine R_il3 (n := 340) C dL_law_339 rfl ?_
  refine R_ic (n := 341) C dL_law_340 ci_1 rfl ?_
  refine R_iaddN (n := 342) C dL_law_341 rfl ?_
  refine S_ald (n := 343) C S (by omega) dL_law_342 rfl ?_
  refine M_callV (n := 346) C (m_unword _ _ _ r (RMo.c q1.2 g.2.1) g.2.2 (sc (i + 1))) mw_X11_unword ml_L_43 iv_X11_unword dL_law_343 rfl rfl rfl rfl (Nat.le_of_ble_eq_true rfl) ⟨(Nat.le_of_ble_eq_true rfl), (Nat.le_of_ble_eq_true rfl)⟩ ⟨(Nat.le_of_ble_eq_true rfl), (Nat.le_of_ble_eq_true rfl)⟩ rfl (pGs (fun h2 q2 => ?_))
  refine R_icmp_eq (n := 349) (tgt := 1132) C dL_law_346 rfl rfl (fun _ => ?_) (fun c => absurd rfl c)
  exact K _ _ ⟨RCl.m q2.2 q1.1, q2.1, nUnword_inv g.2.2 (sc (i + 1))⟩
set_option maxRecDepth 20000 in
set_option maxHeartbeats 4000000 in
theorem w_judge {X : RX} {r : Nat → Nat} {b N i : Nat} {sc : Nat → Int32} {G : GS} {h : Hp} (C : Ok X cL_law RL 4 1000 600000 7302250) (S : Sc X b N sc) (hi : i + 7 ≤ N) (K : ∀ (G : GS) (h : Hp), Gd G h → Rn X 100 78294 1132 [some (.ref b), some (.ref (r 0)), some (.ref (r 73)), some (.int (nI i))] [] (LY r) h) (g : Gd G h) : Rn X 100 78294 351 [some (.ref b), some (.ref (r 0)), some (.ref (r 73)), some (.int (nI i))] [] (LY r) h := by
  refine R_al1 (n := 352) C dL_law_351 rfl ?_
  refine R_al0 (n := 353) C dL_law_352 rfl ?_
  refine R_il3 (n := 354) C dL_law_353 rfl ?_
  refine R_ic (n := 355) C dL_law_354 ci_1 rfl ?_
  refine R_iaddN (n := 356) C dL_law_355 rfl ?_
  refine S_ald (n := 357) C S (by omega) dL_law_356 rfl ?_
  refine M_callV (n := 360) C (p_judge _ _ _ r g.1 g.2.2 (sc (i + 1))) mw_X10_judge ml_L_44 iv_X10_judge dL_law_357 rfl rfl rfl rfl (Nat.le_of_ble_eq_true rfl) ⟨(Nat.le_of_ble_eq_true rfl), (Nat.le_of_ble_eq_true rfl)⟩ ⟨(Nat.le_of_ble_eq_true rfl), (Nat.le_of_ble_eq_true rfl)⟩ rfl (pGs (fun h1 q1 => ?_))
  refine R_al2 (n := 361) C dL_law_360 rfl ?_
  refine R_al0 (n := 362) C dL_law_361 rfl ?_
  refine R_il3 (n := 363) C dL_law_362 rfl ?_
  refine R_ic (n := 364) C dL_law_363 ci_1 rfl ?_
  refine R_iaddN (n := 365) C dL_law_364 rfl ?_
  refine S_ald (n := 366) C S (by omega) dL_law_365 rfl ?_
  refine M_callV (n := 369) C (m_judge _ _ _ r (RMo.c q1.2 g.2.1) g.2.2 (sc (i + 1))) mw_X11_judge ml_L_47 iv_X11_judge dL_law_366 rfl rfl rfl rfl (Nat.le_of_ble_eq_true rfl) ⟨(Nat.le_of_ble_eq_true rfl), (Nat.le_of_ble_eq_true rfl)⟩ ⟨(Nat.le_of_ble_eq_true rfl), (Nat.le_of_ble_eq_true rfl)⟩ rfl (pGs (fun h2 q2 => ?_))
  refine R_icmp_eq (n := 372) (tgt := 1132) C dL_law_369 rfl rfl (fun _ => ?_) (fun c => absurd rfl c)
  exact K _ _ ⟨RCl.m q2.2 q1.1, q2.1, g.2.2⟩
set_option maxRecDepth 20000 in
set_option maxHeartbeats 4000000 in
theorem w_behind {X : RX} {r : Nat → Nat} {b N i : Nat} {sc : Nat → Int32} {G : GS} {h : Hp} (C : Ok X cL_law RL 4 1000 600000 7302250) (S : Sc X b N sc) (hi : i + 7 ≤ N) (K : ∀ (G : GS) (h : Hp), Gd G h → Rn X 100 78294 1132 [some (.ref b), some (.ref (r 0)), some (.ref (r 73)), some (.int (nI i))] [] (LY r) h) (g : Gd G h) : Rn X 100 78294 374 [some (.ref b), some (.ref (r 0)), some (.ref (r 73)), some (.int (nI i))] [] (LY r) h := by
  refine R_al1 (n := 375) C dL_law_374 rfl ?_
  refine R_al0 (n := 376) C dL_law_375 rfl ?_
  refine R_il3 (n := 377) C dL_law_376 rfl ?_
  refine R_ic (n := 378) C dL_law_377 ci_1 rfl ?_
  refine R_iaddN (n := 379) C dL_law_378 rfl ?_
  refine S_ald (n := 380) C S (by omega) dL_law_379 rfl ?_
  refine R_al0 (n := 381) C dL_law_380 rfl ?_
  refine R_il3 (n := 382) C dL_law_381 rfl ?_
  refine R_ic (n := 383) C dL_law_382 ci_2 rfl ?_
  refine R_iaddN (n := 384) C dL_law_383 rfl ?_
  refine S_ald (n := 385) C S (by omega) dL_law_384 rfl ?_
  refine M_callV (n := 388) C (p_behind _ _ _ r g.1 g.2.2 (sc (i + 1)) (sc (i + 2))) mw_X10_behind ml_L_48 iv_X10_behind dL_law_385 rfl rfl rfl rfl (Nat.le_of_ble_eq_true rfl) ⟨(Nat.le_of_ble_eq_true rfl), (Nat.le_of_ble_eq_true rfl)⟩ ⟨(Nat.le_of_ble_eq_true rfl), (Nat.le_of_ble_eq_true rfl)⟩ rfl (pGs (fun h1 q1 => ?_))
  refine R_al2 (n := 389) C dL_law_388 rfl ?_
  refine R_al0 (n := 390) C dL_law_389 rfl ?_
  refine R_il3 (n := 391) C dL_law_390 rfl ?_
  refine R_ic (n := 392) C dL_law_391 ci_1 rfl ?_
  refine R_iaddN (n := 393) C dL_law_392 rfl ?_
  refine S_ald (n := 394) C S (by omega) dL_law_393 rfl ?_
  refine R_al0 (n := 395) C dL_law_394 rfl ?_
  refine R_il3 (n := 396) C dL_law_395 rfl ?_
  refine R_ic (n := 397) C dL_law_396 ci_2 rfl ?_
  refine R_iaddN (n := 398) C dL_law_397 rfl ?_
  refine S_ald (n := 399) C S (by omega) dL_law_398 rfl ?_
  refine M_callV (n := 402) C (m_behind _ _ _ r (RMo.c q1.2 g.2.1) g.2.2 (sc (i + 1)) (sc (i + 2))) mw_X11_behind ml_L_52 iv_X11_behind dL_law_399 rfl rfl rfl rfl (Nat.le_of_ble_eq_true rfl) ⟨(Nat.le_of_ble_eq_true rfl), (Nat.le_of_ble_eq_true rfl)⟩ ⟨(Nat.le_of_ble_eq_true rfl), (Nat.le_of_ble_eq_true rfl)⟩ rfl (pGs (fun h2 q2 => ?_))
  refine R_icmp_eq (n := 405) (tgt := 1132) C dL_law_402 rfl rfl (fun _ => ?_) (fun c => absurd rfl c)
  exact K _ _ ⟨RCl.m q2.2 q1.1, q2.1, g.2.2⟩
set_option maxRecDepth 20000 in
set_option maxHeartbeats 4000000 in
theorem w_done {X : RX} {r : Nat → Nat} {b N i : Nat} {sc : Nat → Int32} {G : GS} {h : Hp} (C : Ok X cL_law RL 4 1000 600000 7302250) (S : Sc X b N sc) (hi : i + 7 ≤ N) (K : ∀ (G : GS) (h : Hp), Gd G h → Rn X 100 78294 1132 [some (.ref b), some (.ref (r 0)), some (.ref (r 73)), some (.int (nI i))] [] (LY r) h) (g : Gd G h) : Rn X 100 78294 407 [some (.ref b), some (.ref (r 0)), some (.ref (r 73)), some (.int (nI i))] [] (LY r) h := by
  refine R_al1 (n := 408) C dL_law_407 rfl ?_
  refine M_callV (n := 411) C (p_done _ _ _ r g.1 g.2.2 ) mw_X10_done ml_L_53 iv_X10_done dL_law_408 rfl rfl rfl rfl (Nat.le_of_ble_eq_true rfl) ⟨(Nat.le_of_ble_eq_true rfl), (Nat.le_of_ble_eq_true rfl)⟩ ⟨(Nat.le_of_ble_eq_true rfl), (Nat.le_of_ble_eq_true rfl)⟩ rfl (pGs (fun h1 q1 => ?_))
  refine R_al2 (n := 412) C dL_law_411 rfl ?_
  refine M_callV (n := 415) C (m_done _ _ _ r (RMo.c q1.2 g.2.1) g.2.2 ) mw_X11_done ml_L_56 iv_X11_done dL_law_412 rfl rfl rfl rfl (Nat.le_of_ble_eq_true rfl) ⟨(Nat.le_of_ble_eq_true rfl), (Nat.le_of_ble_eq_true rfl)⟩ ⟨(Nat.le_of_ble_eq_true rfl), (Nat.le_of_ble_eq_true rfl)⟩ rfl (pGs (fun h2 q2 => ?_))
  refine R_icmp_eq (n := 418) (tgt := 1132) C dL_law_415 rfl rfl (fun _ => ?_) (fun c => absurd rfl c)
  exact K _ _ ⟨RCl.m q2.2 q1.1, q2.1, nDone_inv g.2.2 ⟩
set_option maxRecDepth 20000 in
set_option maxHeartbeats 4000000 in
theorem w_state {X : RX} {r : Nat → Nat} {b N i : Nat} {sc : Nat → Int32} {G : GS} {h : Hp} (C : Ok X cL_law RL 4 1000 600000 7302250) (S : Sc X b N sc) (hi : i + 7 ≤ N) (K : ∀ (G : GS) (h : Hp), Gd G h → Rn X 100 78294 1132 [some (.ref b), some (.ref (r 0)), some (.ref (r 73)), some (.int (nI i))] [] (LY r) h) (g : Gd G h) : Rn X 100 78294 420 [some (.ref b), some (.ref (r 0)), some (.ref (r 73)), some (.int (nI i))] [] (LY r) h := by
  refine R_al1 (n := 421) C dL_law_420 rfl ?_
  refine R_al0 (n := 422) C dL_law_421 rfl ?_
  refine R_il3 (n := 423) C dL_law_422 rfl ?_
  refine R_ic (n := 424) C dL_law_423 ci_1 rfl ?_
  refine R_iaddN (n := 425) C dL_law_424 rfl ?_
  refine S_ald (n := 426) C S (by omega) dL_law_425 rfl ?_
  refine R_al0 (n := 427) C dL_law_426 rfl ?_
  refine R_il3 (n := 428) C dL_law_427 rfl ?_
  refine R_ic (n := 429) C dL_law_428 ci_2 rfl ?_
  refine R_iaddN (n := 430) C dL_law_429 rfl ?_
  refine S_ald (n := 431) C S (by omega) dL_law_430 rfl ?_
  refine M_callV (n := 434) C (p_state _ _ _ r g.1 g.2.2 (sc (i + 1)) (sc (i + 2))) mw_X10_state ml_L_57 iv_X10_state dL_law_431 rfl rfl rfl rfl (Nat.le_of_ble_eq_true rfl) ⟨(Nat.le_of_ble_eq_true rfl), (Nat.le_of_ble_eq_true rfl)⟩ ⟨(Nat.le_of_ble_eq_true rfl), (Nat.le_of_ble_eq_true rfl)⟩ rfl (pGs (fun h1 q1 => ?_))
  refine R_al2 (n := 435) C dL_law_434 rfl ?_
  refine R_al0 (n := 436) C dL_law_435 rfl ?_
  refine R_il3 (n := 437) C dL_law_436 rfl ?_
  refine R_ic (n := 438) C dL_law_437 ci_1 rfl ?_
  refine R_iaddN (n := 439) C dL_law_438 rfl ?_
  refine S_ald (n := 440) C S (by omega) dL_law_439 rfl ?_
  refine R_al0 (n := 441) C dL_law_440 rfl ?_
  refine R_il3 (n := 442) C dL_law_441 rfl ?_
  refine R_ic (n := 443) C dL_law_442 ci_2 rfl ?_
  refine R_iaddN (n := 444) C dL_law_443 rfl ?_
  refine S_ald (n := 445) C S (by omega) dL_law_444 rfl ?_
  refine M_callV (n := 448) C (m_state _ _ _ r (RMo.c q1.2 g.2.1).1 g.2.2 (sc (i + 1)) (sc (i + 2))) mw_X11_state ml_L_60 iv_X11_state dL_law_445 rfl rfl rfl rfl (Nat.le_of_ble_eq_true rfl) ⟨(Nat.le_of_ble_eq_true rfl), (Nat.le_of_ble_eq_true rfl)⟩ ⟨(Nat.le_of_ble_eq_true rfl), (Nat.le_of_ble_eq_true rfl)⟩ rfl (pEs ?_)
  refine R_icmp_eq (n := 451) (tgt := 1132) C dL_law_448 rfl rfl (fun _ => ?_) (fun c => absurd rfl c)
  exact K _ _ ⟨q1.1, RMo.c q1.2 g.2.1, g.2.2⟩
set_option maxRecDepth 20000 in
set_option maxHeartbeats 4000000 in
theorem w_bare {X : RX} {r : Nat → Nat} {b N i : Nat} {sc : Nat → Int32} {G : GS} {h : Hp} (C : Ok X cL_law RL 4 1000 600000 7302250) (S : Sc X b N sc) (hi : i + 7 ≤ N) (K : ∀ (G : GS) (h : Hp), Gd G h → Rn X 100 78294 1132 [some (.ref b), some (.ref (r 0)), some (.ref (r 73)), some (.int (nI i))] [] (LY r) h) (g : Gd G h) : Rn X 100 78294 453 [some (.ref b), some (.ref (r 0)), some (.ref (r 73)), some (.int (nI i))] [] (LY r) h := by
  refine R_al1 (n := 454) C dL_law_453 rfl ?_
  refine R_al0 (n := 455) C dL_law_454 rfl ?_
  refine R_il3 (n := 456) C dL_law_455 rfl ?_
  refine R_ic (n := 457) C dL_law_456 ci_1 rfl ?_
  refine R_iaddN (n := 458) C dL_law_457 rfl ?_
  refine S_ald (n := 459) C S (by omega) dL_law_458 rfl ?_
  refine R_al0 (n := 460) C dL_law_459 rfl ?_
  refine R_il3 (n := 461) C dL_law_460 rfl ?_
  refine R_ic (n := 462) C dL_law_461 ci_2 rfl ?_
  refine R_iaddN (n := 463) C dL_law_462 rfl ?_
  refine S_ald (n := 464) C S (by omega) dL_law_463 rfl ?_
  refine M_callV (n := 467) C (p_bare _ _ _ r g.1 g.2.2 (sc (i + 1)) (sc (i + 2))) mw_X10_bare ml_L_61 iv_X10_bare dL_law_464 rfl rfl rfl rfl (Nat.le_of_ble_eq_true rfl) ⟨(Nat.le_of_ble_eq_true rfl), (Nat.le_of_ble_eq_true rfl)⟩ ⟨(Nat.le_of_ble_eq_true rfl), (Nat.le_of_ble_eq_true rfl)⟩ rfl (pGs (fun h1 q1 => ?_))
  refine R_al2 (n := 468) C dL_law_467 rfl ?_
  refine R_al0 (n := 469) C dL_law_468 rfl ?_
  refine R_il3 (n := 470) C dL_law_469 rfl ?_
  refine R_ic (n := 471) C dL_law_470 ci_1 rfl ?_
  refine R_iaddN (n := 472) C dL_law_471 rfl ?_
  refine S_ald (n := 473) C S (by omega) dL_law_472 rfl ?_
  refine R_al0 (n := 474) C dL_law_473 rfl ?_
  refine R_il3 (n := 475) C dL_law_474 rfl ?_
  refine R_ic (n := 476) C dL_law_475 ci_2 rfl ?_
  refine R_iaddN (n := 477) C dL_law_476 rfl ?_
  refine S_ald (n := 478) C S (by omega) dL_law_477 rfl ?_
  refine M_callV (n := 481) C (m_bare _ _ _ r (RMo.c q1.2 g.2.1).1 g.2.2 (sc (i + 1)) (sc (i + 2))) mw_X11_bare ml_L_64 iv_X11_bare dL_law_478 rfl rfl rfl rfl (Nat.le_of_ble_eq_true rfl) ⟨(Nat.le_of_ble_eq_true rfl), (Nat.le_of_ble_eq_true rfl)⟩ ⟨(Nat.le_of_ble_eq_true rfl), (Nat.le_of_ble_eq_true rfl)⟩ rfl (pEs ?_)
  refine R_icmp_eq (n := 484) (tgt := 1132) C dL_law_481 rfl rfl (fun _ => ?_) (fun c => absurd rfl c)
  exact K _ _ ⟨q1.1, RMo.c q1.2 g.2.1, g.2.2⟩
set_option maxRecDepth 20000 in
set_option maxHeartbeats 4000000 in
theorem w_reached {X : RX} {r : Nat → Nat} {b N i : Nat} {sc : Nat → Int32} {G : GS} {h : Hp} (C : Ok X cL_law RL 4 1000 600000 7302250) (S : Sc X b N sc) (hi : i + 7 ≤ N) (K : ∀ (G : GS) (h : Hp), Gd G h → Rn X 100 78294 1132 [some (.ref b), some (.ref (r 0)), some (.ref (r 73)), some (.int (nI i))] [] (LY r) h) (g : Gd G h) : Rn X 100 78294 486 [some (.ref b), some (.ref (r 0)), some (.ref (r 73)), some (.int (nI i))] [] (LY r) h := by
  refine R_al1 (n := 487) C dL_law_486 rfl ?_
  refine M_callV (n := 490) C (p_reached _ _ _ r g.1 g.2.2 ) mw_X10_reached ml_L_65 iv_X10_reached dL_law_487 rfl rfl rfl rfl (Nat.le_of_ble_eq_true rfl) ⟨(Nat.le_of_ble_eq_true rfl), (Nat.le_of_ble_eq_true rfl)⟩ ⟨(Nat.le_of_ble_eq_true rfl), (Nat.le_of_ble_eq_true rfl)⟩ rfl (pGs (fun h1 q1 => ?_))
  refine R_al2 (n := 491) C dL_law_490 rfl ?_
  refine M_callV (n := 494) C (m_reached _ _ _ r (RMo.c q1.2 g.2.1).1 g.2.2 ) mw_X11_reached ml_L_68 iv_X11_reached dL_law_491 rfl rfl rfl rfl (Nat.le_of_ble_eq_true rfl) ⟨(Nat.le_of_ble_eq_true rfl), (Nat.le_of_ble_eq_true rfl)⟩ ⟨(Nat.le_of_ble_eq_true rfl), (Nat.le_of_ble_eq_true rfl)⟩ rfl (pGs (fun h2 q2 => ?_))
  refine R_icmp_eq (n := 497) (tgt := 1132) C dL_law_494 rfl rfl (fun _ => ?_) (fun c => absurd rfl c)
  have t := RMo.t (RMo.c q1.2 g.2.1) (FrQ.t q2)
  exact K _ _ ⟨RCl.m t.2 q1.1, t.1, g.2.2⟩
set_option maxRecDepth 20000 in
set_option maxHeartbeats 4000000 in
theorem w_can {X : RX} {r : Nat → Nat} {b N i : Nat} {sc : Nat → Int32} {G : GS} {h : Hp} (C : Ok X cL_law RL 4 1000 600000 7302250) (S : Sc X b N sc) (hi : i + 7 ≤ N) (K : ∀ (G : GS) (h : Hp), Gd G h → Rn X 100 78294 1132 [some (.ref b), some (.ref (r 0)), some (.ref (r 73)), some (.int (nI i))] [] (LY r) h) (g : Gd G h) : Rn X 100 78294 499 [some (.ref b), some (.ref (r 0)), some (.ref (r 73)), some (.int (nI i))] [] (LY r) h := by
  refine R_al1 (n := 500) C dL_law_499 rfl ?_
  refine R_al0 (n := 501) C dL_law_500 rfl ?_
  refine R_il3 (n := 502) C dL_law_501 rfl ?_
  refine R_ic (n := 503) C dL_law_502 ci_1 rfl ?_
  refine R_iaddN (n := 504) C dL_law_503 rfl ?_
  refine S_ald (n := 505) C S (by omega) dL_law_504 rfl ?_
  refine M_callV (n := 508) C (p_can _ _ _ r g.1 g.2.2 (sc (i + 1))) mw_X10_can ml_L_69 iv_X10_can dL_law_505 rfl rfl rfl rfl (Nat.le_of_ble_eq_true rfl) ⟨(Nat.le_of_ble_eq_true rfl), (Nat.le_of_ble_eq_true rfl)⟩ ⟨(Nat.le_of_ble_eq_true rfl), (Nat.le_of_ble_eq_true rfl)⟩ rfl (pGs (fun h1 q1 => ?_))
  refine R_al2 (n := 509) C dL_law_508 rfl ?_
  refine R_al0 (n := 510) C dL_law_509 rfl ?_
  refine R_il3 (n := 511) C dL_law_510 rfl ?_
  refine R_ic (n := 512) C dL_law_511 ci_1 rfl ?_
  refine R_iaddN (n := 513) C dL_law_512 rfl ?_
  refine S_ald (n := 514) C S (by omega) dL_law_513 rfl ?_
  refine M_callV (n := 517) C (m_can _ _ _ r (RMo.c q1.2 g.2.1).1 g.2.2 (sc (i + 1))) mw_X11_can ml_L_72 iv_X11_can dL_law_514 rfl rfl rfl rfl (Nat.le_of_ble_eq_true rfl) ⟨(Nat.le_of_ble_eq_true rfl), (Nat.le_of_ble_eq_true rfl)⟩ ⟨(Nat.le_of_ble_eq_true rfl), (Nat.le_of_ble_eq_true rfl)⟩ rfl (pGs (fun h2 q2 => ?_))
  refine R_icmp_eq (n := 520) (tgt := 1132) C dL_law_517 rfl rfl (fun _ => ?_) (fun c => absurd rfl c)
  have t := RMo.t (RMo.c q1.2 g.2.1) (FrQ.t q2)
  exact K _ _ ⟨RCl.m t.2 q1.1, t.1, g.2.2⟩
set_option maxRecDepth 20000 in
set_option maxHeartbeats 4000000 in
theorem w_spelled {X : RX} {r : Nat → Nat} {b N i : Nat} {sc : Nat → Int32} {G : GS} {h : Hp} (C : Ok X cL_law RL 4 1000 600000 7302250) (S : Sc X b N sc) (hi : i + 7 ≤ N) (K : ∀ (G : GS) (h : Hp), Gd G h → Rn X 100 78294 1132 [some (.ref b), some (.ref (r 0)), some (.ref (r 73)), some (.int (nI i))] [] (LY r) h) (g : Gd G h) : Rn X 100 78294 522 [some (.ref b), some (.ref (r 0)), some (.ref (r 73)), some (.int (nI i))] [] (LY r) h := by
  refine R_al1 (n := 523) C dL_law_522 rfl ?_
  refine R_al0 (n := 524) C dL_law_523 rfl ?_
  refine R_il3 (n := 525) C dL_law_524 rfl ?_
  refine R_ic (n := 526) C dL_law_525 ci_1 rfl ?_
  refine R_iaddN (n := 527) C dL_law_526 rfl ?_
  refine S_ald (n := 528) C S (by omega) dL_law_527 rfl ?_
  refine R_al0 (n := 529) C dL_law_528 rfl ?_
  refine R_il3 (n := 530) C dL_law_529 rfl ?_
  refine R_ic (n := 531) C dL_law_530 ci_2 rfl ?_
  refine R_iaddN (n := 532) C dL_law_531 rfl ?_
  refine S_ald (n := 533) C S (by omega) dL_law_532 rfl ?_
  refine R_al0 (n := 534) C dL_law_533 rfl ?_
  refine R_il3 (n := 535) C dL_law_534 rfl ?_
  refine R_ic (n := 536) C dL_law_535 ci_3 rfl ?_
  refine R_iaddN (n := 537) C dL_law_536 rfl ?_
  refine S_ald (n := 538) C S (by omega) dL_law_537 rfl ?_
  refine M_callV (n := 541) C (p_spelled _ _ _ r g.1 g.2.2 (sc (i + 1)) (sc (i + 2)) (sc (i + 3))) mw_X10_spelled ml_L_73 iv_X10_spelled dL_law_538 rfl rfl rfl rfl (Nat.le_of_ble_eq_true rfl) ⟨(Nat.le_of_ble_eq_true rfl), (Nat.le_of_ble_eq_true rfl)⟩ ⟨(Nat.le_of_ble_eq_true rfl), (Nat.le_of_ble_eq_true rfl)⟩ rfl (pGs (fun h1 q1 => ?_))
  refine R_al2 (n := 542) C dL_law_541 rfl ?_
  refine R_al0 (n := 543) C dL_law_542 rfl ?_
  refine R_il3 (n := 544) C dL_law_543 rfl ?_
  refine R_ic (n := 545) C dL_law_544 ci_1 rfl ?_
  refine R_iaddN (n := 546) C dL_law_545 rfl ?_
  refine S_ald (n := 547) C S (by omega) dL_law_546 rfl ?_
  refine R_al0 (n := 548) C dL_law_547 rfl ?_
  refine R_il3 (n := 549) C dL_law_548 rfl ?_
  refine R_ic (n := 550) C dL_law_549 ci_2 rfl ?_
  refine R_iaddN (n := 551) C dL_law_550 rfl ?_
  refine S_ald (n := 552) C S (by omega) dL_law_551 rfl ?_
  refine R_al0 (n := 553) C dL_law_552 rfl ?_
  refine R_il3 (n := 554) C dL_law_553 rfl ?_
  refine R_ic (n := 555) C dL_law_554 ci_3 rfl ?_
  refine R_iaddN (n := 556) C dL_law_555 rfl ?_
  refine S_ald (n := 557) C S (by omega) dL_law_556 rfl ?_
  refine M_callV (n := 560) C (m_spelled _ _ _ r (RMo.c q1.2 g.2.1).1 g.2.2 (sc (i + 1)) (sc (i + 2)) (sc (i + 3))) mw_X11_spelled ml_L_76 iv_X11_spelled dL_law_557 rfl rfl rfl rfl (Nat.le_of_ble_eq_true rfl) ⟨(Nat.le_of_ble_eq_true rfl), (Nat.le_of_ble_eq_true rfl)⟩ ⟨(Nat.le_of_ble_eq_true rfl), (Nat.le_of_ble_eq_true rfl)⟩ rfl (pGs (fun h2 q2 => ?_))
  refine R_icmp_eq (n := 563) (tgt := 1132) C dL_law_560 rfl rfl (fun _ => ?_) (fun c => absurd rfl c)
  have t := RMo.t (RMo.c q1.2 g.2.1) (FrQ.t q2)
  exact K _ _ ⟨RCl.m t.2 q1.1, t.1, g.2.2⟩
set_option maxRecDepth 20000 in
set_option maxHeartbeats 4000000 in
theorem w_tired {X : RX} {r : Nat → Nat} {b N i : Nat} {sc : Nat → Int32} {G : GS} {h : Hp} (C : Ok X cL_law RL 4 1000 600000 7302250) (S : Sc X b N sc) (hi : i + 7 ≤ N) (K : ∀ (G : GS) (h : Hp), Gd G h → Rn X 100 78294 1132 [some (.ref b), some (.ref (r 0)), some (.ref (r 73)), some (.int (nI i))] [] (LY r) h) (g : Gd G h) : Rn X 100 78294 565 [some (.ref b), some (.ref (r 0)), some (.ref (r 73)), some (.int (nI i))] [] (LY r) h := by
  refine R_al1 (n := 566) C dL_law_565 rfl ?_
  refine R_al0 (n := 567) C dL_law_566 rfl ?_
  refine R_il3 (n := 568) C dL_law_567 rfl ?_
  refine R_ic (n := 569) C dL_law_568 ci_1 rfl ?_
  refine R_iaddN (n := 570) C dL_law_569 rfl ?_
  refine S_ald (n := 571) C S (by omega) dL_law_570 rfl ?_
  refine R_al0 (n := 572) C dL_law_571 rfl ?_
  refine R_il3 (n := 573) C dL_law_572 rfl ?_
  refine R_ic (n := 574) C dL_law_573 ci_2 rfl ?_
  refine R_iaddN (n := 575) C dL_law_574 rfl ?_
  refine S_ald (n := 576) C S (by omega) dL_law_575 rfl ?_
  refine M_callV (n := 579) C (p_tired _ _ _ r g.1 g.2.2 (sc (i + 1)) (sc (i + 2))) mw_X10_tired ml_L_77 iv_X10_tired dL_law_576 rfl rfl rfl rfl (Nat.le_of_ble_eq_true rfl) ⟨(Nat.le_of_ble_eq_true rfl), (Nat.le_of_ble_eq_true rfl)⟩ ⟨(Nat.le_of_ble_eq_true rfl), (Nat.le_of_ble_eq_true rfl)⟩ rfl (pGs (fun h1 q1 => ?_))
  refine R_al2 (n := 580) C dL_law_579 rfl ?_
  refine R_al0 (n := 581) C dL_law_580 rfl ?_
  refine R_il3 (n := 582) C dL_law_581 rfl ?_
  refine R_ic (n := 583) C dL_law_582 ci_1 rfl ?_
  refine R_iaddN (n := 584) C dL_law_583 rfl ?_
  refine S_ald (n := 585) C S (by omega) dL_law_584 rfl ?_
  refine R_al0 (n := 586) C dL_law_585 rfl ?_
  refine R_il3 (n := 587) C dL_law_586 rfl ?_
  refine R_ic (n := 588) C dL_law_587 ci_2 rfl ?_
  refine R_iaddN (n := 589) C dL_law_588 rfl ?_
  refine S_ald (n := 590) C S (by omega) dL_law_589 rfl ?_
  refine M_callV (n := 593) C (m_tired _ _ _ r (RMo.c q1.2 g.2.1) g.2.2 (sc (i + 1)) (sc (i + 2))) mw_X11_tired ml_L_80 iv_X11_tired dL_law_590 rfl rfl rfl rfl (Nat.le_of_ble_eq_true rfl) ⟨(Nat.le_of_ble_eq_true rfl), (Nat.le_of_ble_eq_true rfl)⟩ ⟨(Nat.le_of_ble_eq_true rfl), (Nat.le_of_ble_eq_true rfl)⟩ rfl (pGs (fun h2 q2 => ?_))
  refine R_icmp_eq (n := 596) (tgt := 1132) C dL_law_593 rfl rfl (fun _ => ?_) (fun c => absurd rfl c)
  exact K _ _ ⟨RCl.m q2.2 q1.1, q2.1, g.2.2⟩
set_option maxRecDepth 20000 in
set_option maxHeartbeats 4000000 in
theorem w_able {X : RX} {r : Nat → Nat} {b N i : Nat} {sc : Nat → Int32} {G : GS} {h : Hp} (C : Ok X cL_law RL 4 1000 600000 7302250) (S : Sc X b N sc) (hi : i + 7 ≤ N) (K : ∀ (G : GS) (h : Hp), Gd G h → Rn X 100 78294 1132 [some (.ref b), some (.ref (r 0)), some (.ref (r 73)), some (.int (nI i))] [] (LY r) h) (g : Gd G h) : Rn X 100 78294 598 [some (.ref b), some (.ref (r 0)), some (.ref (r 73)), some (.int (nI i))] [] (LY r) h := by
  refine R_al1 (n := 599) C dL_law_598 rfl ?_
  refine R_al0 (n := 600) C dL_law_599 rfl ?_
  refine R_il3 (n := 601) C dL_law_600 rfl ?_
  refine R_ic (n := 602) C dL_law_601 ci_1 rfl ?_
  refine R_iaddN (n := 603) C dL_law_602 rfl ?_
  refine S_ald (n := 604) C S (by omega) dL_law_603 rfl ?_
  refine R_al0 (n := 605) C dL_law_604 rfl ?_
  refine R_il3 (n := 606) C dL_law_605 rfl ?_
  refine R_ic (n := 607) C dL_law_606 ci_2 rfl ?_
  refine R_iaddN (n := 608) C dL_law_607 rfl ?_
  refine S_ald (n := 609) C S (by omega) dL_law_608 rfl ?_
  refine M_callV (n := 612) C (p_able _ _ _ r g.1 g.2.2 (sc (i + 1)) (sc (i + 2))) mw_X10_able ml_L_81 iv_X10_able dL_law_609 rfl rfl rfl rfl (Nat.le_of_ble_eq_true rfl) ⟨(Nat.le_of_ble_eq_true rfl), (Nat.le_of_ble_eq_true rfl)⟩ ⟨(Nat.le_of_ble_eq_true rfl), (Nat.le_of_ble_eq_true rfl)⟩ rfl (pGs (fun h1 q1 => ?_))
  refine R_al2 (n := 613) C dL_law_612 rfl ?_
  refine R_al0 (n := 614) C dL_law_613 rfl ?_
  refine R_il3 (n := 615) C dL_law_614 rfl ?_
  refine R_ic (n := 616) C dL_law_615 ci_1 rfl ?_
  refine R_iaddN (n := 617) C dL_law_616 rfl ?_
  refine S_ald (n := 618) C S (by omega) dL_law_617 rfl ?_
  refine R_al0 (n := 619) C dL_law_618 rfl ?_
  refine R_il3 (n := 620) C dL_law_619 rfl ?_
  refine R_ic (n := 621) C dL_law_620 ci_2 rfl ?_
  refine R_iaddN (n := 622) C dL_law_621 rfl ?_
  refine S_ald (n := 623) C S (by omega) dL_law_622 rfl ?_
  refine M_callV (n := 626) C (m_able _ _ _ r (RMo.c q1.2 g.2.1) g.2.2 (sc (i + 1)) (sc (i + 2))) mw_X11_able ml_L_84 iv_X11_able dL_law_623 rfl rfl rfl rfl (Nat.le_of_ble_eq_true rfl) ⟨(Nat.le_of_ble_eq_true rfl), (Nat.le_of_ble_eq_true rfl)⟩ ⟨(Nat.le_of_ble_eq_true rfl), (Nat.le_of_ble_eq_true rfl)⟩ rfl (pGs (fun h2 q2 => ?_))
  refine R_icmp_eq (n := 629) (tgt := 1132) C dL_law_626 rfl rfl (fun _ => ?_) (fun c => absurd rfl c)
  exact K _ _ ⟨RCl.m q2.2 q1.1, q2.1, g.2.2⟩
set_option maxRecDepth 20000 in
set_option maxHeartbeats 4000000 in
theorem w_without {X : RX} {r : Nat → Nat} {b N i : Nat} {sc : Nat → Int32} {G : GS} {h : Hp} (C : Ok X cL_law RL 4 1000 600000 7302250) (S : Sc X b N sc) (hi : i + 7 ≤ N) (K : ∀ (G : GS) (h : Hp), Gd G h → Rn X 100 78294 1132 [some (.ref b), some (.ref (r 0)), some (.ref (r 73)), some (.int (nI i))] [] (LY r) h) (g : Gd G h) : Rn X 100 78294 631 [some (.ref b), some (.ref (r 0)), some (.ref (r 73)), some (.int (nI i))] [] (LY r) h := by
  refine R_al1 (n := 632) C dL_law_631 rfl ?_
  refine R_al0 (n := 633) C dL_law_632 rfl ?_
  refine R_il3 (n := 634) C dL_law_633 rfl ?_
  refine R_ic (n := 635) C dL_law_634 ci_1 rfl ?_
  refine R_iaddN (n := 636) C dL_law_635 rfl ?_
  refine S_ald (n := 637) C S (by omega) dL_law_636 rfl ?_
  refine R_al0 (n := 638) C dL_law_637 rfl ?_
  refine R_il3 (n := 639) C dL_law_638 rfl ?_
  refine R_ic (n := 640) C dL_law_639 ci_2 rfl ?_
  refine R_iaddN (n := 641) C dL_law_640 rfl ?_
  refine S_ald (n := 642) C S (by omega) dL_law_641 rfl ?_
  refine R_al0 (n := 643) C dL_law_642 rfl ?_
  refine R_il3 (n := 644) C dL_law_643 rfl ?_
  refine R_ic (n := 645) C dL_law_644 ci_3 rfl ?_
  refine R_iaddN (n := 646) C dL_law_645 rfl ?_
  refine S_ald (n := 647) C S (by omega) dL_law_646 rfl ?_
  refine M_callV (n := 650) C (p_without _ _ _ r g.1 g.2.2 (sc (i + 1)) (sc (i + 2)) (sc (i + 3))) mw_X10_without ml_L_85 iv_X10_without dL_law_647 rfl rfl rfl rfl (Nat.le_of_ble_eq_true rfl) ⟨(Nat.le_of_ble_eq_true rfl), (Nat.le_of_ble_eq_true rfl)⟩ ⟨(Nat.le_of_ble_eq_true rfl), (Nat.le_of_ble_eq_true rfl)⟩ rfl (pGs (fun h1 q1 => ?_))
  refine R_al2 (n := 651) C dL_law_650 rfl ?_
  refine R_al0 (n := 652) C dL_law_651 rfl ?_
  refine R_il3 (n := 653) C dL_law_652 rfl ?_
  refine R_ic (n := 654) C dL_law_653 ci_1 rfl ?_
  refine R_iaddN (n := 655) C dL_law_654 rfl ?_
  refine S_ald (n := 656) C S (by omega) dL_law_655 rfl ?_
  refine R_al0 (n := 657) C dL_law_656 rfl ?_
  refine R_il3 (n := 658) C dL_law_657 rfl ?_
  refine R_ic (n := 659) C dL_law_658 ci_2 rfl ?_
  refine R_iaddN (n := 660) C dL_law_659 rfl ?_
  refine S_ald (n := 661) C S (by omega) dL_law_660 rfl ?_
  refine R_al0 (n := 662) C dL_law_661 rfl ?_
  refine R_il3 (n := 663) C dL_law_662 rfl ?_
  refine R_ic (n := 664) C dL_law_663 ci_3 rfl ?_
  refine R_iaddN (n := 665) C dL_law_664 rfl ?_
  refine S_ald (n := 666) C S (by omega) dL_law_665 rfl ?_
  refine M_callV (n := 669) C (m_without _ _ _ r (RMo.c q1.2 g.2.1).1 g.2.2 (sc (i + 1)) (sc (i + 2)) (sc (i + 3))) mw_X11_without ml_L_88 iv_X11_without dL_law_666 rfl rfl rfl rfl (Nat.le_of_ble_eq_true rfl) ⟨(Nat.le_of_ble_eq_true rfl), (Nat.le_of_ble_eq_true rfl)⟩ ⟨(Nat.le_of_ble_eq_true rfl), (Nat.le_of_ble_eq_true rfl)⟩ rfl (pGs (fun h2 q2 => ?_))
  refine R_icmp_eq (n := 672) (tgt := 1132) C dL_law_669 rfl rfl (fun _ => ?_) (fun c => absurd rfl c)
  have t := RMo.t (RMo.c q1.2 g.2.1) (FrQ.t q2)
  exact K _ _ ⟨RCl.m t.2 q1.1, t.1, g.2.2⟩
set_option maxRecDepth 20000 in
set_option maxHeartbeats 4000000 in
theorem w_round {X : RX} {r : Nat → Nat} {b N i : Nat} {sc : Nat → Int32} {G : GS} {h : Hp} (C : Ok X cL_law RL 4 1000 600000 7302250) (S : Sc X b N sc) (hi : i + 7 ≤ N) (K : ∀ (G : GS) (h : Hp), Gd G h → Rn X 100 78294 1132 [some (.ref b), some (.ref (r 0)), some (.ref (r 73)), some (.int (nI i))] [] (LY r) h) (g : Gd G h) : Rn X 100 78294 674 [some (.ref b), some (.ref (r 0)), some (.ref (r 73)), some (.int (nI i))] [] (LY r) h := by
  refine R_al1 (n := 675) C dL_law_674 rfl ?_
  refine R_al0 (n := 676) C dL_law_675 rfl ?_
  refine R_il3 (n := 677) C dL_law_676 rfl ?_
  refine R_ic (n := 678) C dL_law_677 ci_1 rfl ?_
  refine R_iaddN (n := 679) C dL_law_678 rfl ?_
  refine S_ald (n := 680) C S (by omega) dL_law_679 rfl ?_
  refine R_al0 (n := 681) C dL_law_680 rfl ?_
  refine R_il3 (n := 682) C dL_law_681 rfl ?_
  refine R_ic (n := 683) C dL_law_682 ci_2 rfl ?_
  refine R_iaddN (n := 684) C dL_law_683 rfl ?_
  refine S_ald (n := 685) C S (by omega) dL_law_684 rfl ?_
  refine M_callV (n := 688) C (p_round _ _ _ r g.1 g.2.2 (sc (i + 1)) (sc (i + 2))) mw_X10_round ml_L_89 iv_X10_round dL_law_685 rfl rfl rfl rfl (Nat.le_of_ble_eq_true rfl) ⟨(Nat.le_of_ble_eq_true rfl), (Nat.le_of_ble_eq_true rfl)⟩ ⟨(Nat.le_of_ble_eq_true rfl), (Nat.le_of_ble_eq_true rfl)⟩ rfl (pGs (fun h1 q1 => ?_))
  refine R_al2 (n := 689) C dL_law_688 rfl ?_
  refine R_al0 (n := 690) C dL_law_689 rfl ?_
  refine R_il3 (n := 691) C dL_law_690 rfl ?_
  refine R_ic (n := 692) C dL_law_691 ci_1 rfl ?_
  refine R_iaddN (n := 693) C dL_law_692 rfl ?_
  refine S_ald (n := 694) C S (by omega) dL_law_693 rfl ?_
  refine R_al0 (n := 695) C dL_law_694 rfl ?_
  refine R_il3 (n := 696) C dL_law_695 rfl ?_
  refine R_ic (n := 697) C dL_law_696 ci_2 rfl ?_
  refine R_iaddN (n := 698) C dL_law_697 rfl ?_
  refine S_ald (n := 699) C S (by omega) dL_law_698 rfl ?_
  refine M_callV (n := 702) C (m_round _ _ _ r (RMo.c q1.2 g.2.1) g.2.2 (sc (i + 1)) (sc (i + 2))) mw_X11_round ml_L_92 iv_X11_round dL_law_699 rfl rfl rfl rfl (Nat.le_of_ble_eq_true rfl) ⟨(Nat.le_of_ble_eq_true rfl), (Nat.le_of_ble_eq_true rfl)⟩ ⟨(Nat.le_of_ble_eq_true rfl), (Nat.le_of_ble_eq_true rfl)⟩ rfl (pGs (fun h2 q2 => ?_))
  refine R_icmp_eq (n := 705) (tgt := 1132) C dL_law_702 rfl rfl (fun _ => ?_) (fun c => absurd rfl c)
  exact K _ _ ⟨RCl.m q2.2 q1.1, q2.1, g.2.2⟩
set_option maxRecDepth 20000 in
set_option maxHeartbeats 4000000 in
theorem w_two {X : RX} {r : Nat → Nat} {b N i : Nat} {sc : Nat → Int32} {G : GS} {h : Hp} (C : Ok X cL_law RL 4 1000 600000 7302250) (S : Sc X b N sc) (hi : i + 7 ≤ N) (K : ∀ (G : GS) (h : Hp), Gd G h → Rn X 100 78294 1132 [some (.ref b), some (.ref (r 0)), some (.ref (r 73)), some (.int (nI i))] [] (LY r) h) (g : Gd G h) : Rn X 100 78294 707 [some (.ref b), some (.ref (r 0)), some (.ref (r 73)), some (.int (nI i))] [] (LY r) h := by
  refine R_al1 (n := 708) C dL_law_707 rfl ?_
  refine R_al0 (n := 709) C dL_law_708 rfl ?_
  refine R_il3 (n := 710) C dL_law_709 rfl ?_
  refine R_ic (n := 711) C dL_law_710 ci_1 rfl ?_
  refine R_iaddN (n := 712) C dL_law_711 rfl ?_
  refine S_ald (n := 713) C S (by omega) dL_law_712 rfl ?_
  refine R_al0 (n := 714) C dL_law_713 rfl ?_
  refine R_il3 (n := 715) C dL_law_714 rfl ?_
  refine R_ic (n := 716) C dL_law_715 ci_2 rfl ?_
  refine R_iaddN (n := 717) C dL_law_716 rfl ?_
  refine S_ald (n := 718) C S (by omega) dL_law_717 rfl ?_
  refine R_al0 (n := 719) C dL_law_718 rfl ?_
  refine R_il3 (n := 720) C dL_law_719 rfl ?_
  refine R_ic (n := 721) C dL_law_720 ci_3 rfl ?_
  refine R_iaddN (n := 722) C dL_law_721 rfl ?_
  refine S_ald (n := 723) C S (by omega) dL_law_722 rfl ?_
  refine R_al0 (n := 724) C dL_law_723 rfl ?_
  refine R_il3 (n := 725) C dL_law_724 rfl ?_
  refine R_ic (n := 726) C dL_law_725 ci_4 rfl ?_
  refine R_iaddN (n := 727) C dL_law_726 rfl ?_
  refine S_ald (n := 728) C S (by omega) dL_law_727 rfl ?_
  refine R_al0 (n := 729) C dL_law_728 rfl ?_
  refine R_il3 (n := 730) C dL_law_729 rfl ?_
  refine R_ic (n := 731) C dL_law_730 ci_5 rfl ?_
  refine R_iaddN (n := 732) C dL_law_731 rfl ?_
  refine S_ald (n := 733) C S (by omega) dL_law_732 rfl ?_
  refine R_al0 (n := 734) C dL_law_733 rfl ?_
  refine R_il3 (n := 735) C dL_law_734 rfl ?_
  refine R_bp (n := 737) C dL_law_735 cb_6 rfl ?_
  refine R_iaddN (n := 738) C dL_law_737 rfl ?_
  refine S_ald (n := 739) C S (by omega) dL_law_738 rfl ?_
  refine M_callV (n := 742) C (p_two _ _ _ r g.1 g.2.2 (sc (i + 1)) (sc (i + 2)) (sc (i + 3)) (sc (i + 4)) (sc (i + 5)) (sc (i + 6))) mw_X10_two ml_L_93 iv_X10_two dL_law_739 rfl rfl rfl rfl (Nat.le_of_ble_eq_true rfl) ⟨(Nat.le_of_ble_eq_true rfl), (Nat.le_of_ble_eq_true rfl)⟩ ⟨(Nat.le_of_ble_eq_true rfl), (Nat.le_of_ble_eq_true rfl)⟩ rfl (pGs (fun h1 q1 => ?_))
  refine R_al2 (n := 743) C dL_law_742 rfl ?_
  refine R_al0 (n := 744) C dL_law_743 rfl ?_
  refine R_il3 (n := 745) C dL_law_744 rfl ?_
  refine R_ic (n := 746) C dL_law_745 ci_1 rfl ?_
  refine R_iaddN (n := 747) C dL_law_746 rfl ?_
  refine S_ald (n := 748) C S (by omega) dL_law_747 rfl ?_
  refine R_al0 (n := 749) C dL_law_748 rfl ?_
  refine R_il3 (n := 750) C dL_law_749 rfl ?_
  refine R_ic (n := 751) C dL_law_750 ci_2 rfl ?_
  refine R_iaddN (n := 752) C dL_law_751 rfl ?_
  refine S_ald (n := 753) C S (by omega) dL_law_752 rfl ?_
  refine R_al0 (n := 754) C dL_law_753 rfl ?_
  refine R_il3 (n := 755) C dL_law_754 rfl ?_
  refine R_ic (n := 756) C dL_law_755 ci_3 rfl ?_
  refine R_iaddN (n := 757) C dL_law_756 rfl ?_
  refine S_ald (n := 758) C S (by omega) dL_law_757 rfl ?_
  refine R_al0 (n := 759) C dL_law_758 rfl ?_
  refine R_il3 (n := 760) C dL_law_759 rfl ?_
  refine R_ic (n := 761) C dL_law_760 ci_4 rfl ?_
  refine R_iaddN (n := 762) C dL_law_761 rfl ?_
  refine S_ald (n := 763) C S (by omega) dL_law_762 rfl ?_
  refine R_al0 (n := 764) C dL_law_763 rfl ?_
  refine R_il3 (n := 765) C dL_law_764 rfl ?_
  refine R_ic (n := 766) C dL_law_765 ci_5 rfl ?_
  refine R_iaddN (n := 767) C dL_law_766 rfl ?_
  refine S_ald (n := 768) C S (by omega) dL_law_767 rfl ?_
  refine R_al0 (n := 769) C dL_law_768 rfl ?_
  refine R_il3 (n := 770) C dL_law_769 rfl ?_
  refine R_bp (n := 772) C dL_law_770 cb_6 rfl ?_
  refine R_iaddN (n := 773) C dL_law_772 rfl ?_
  refine S_ald (n := 774) C S (by omega) dL_law_773 rfl ?_
  refine M_callV (n := 777) C (m_two _ _ _ r (RMo.c q1.2 g.2.1) g.2.2 (sc (i + 1)) (sc (i + 2)) (sc (i + 3)) (sc (i + 4)) (sc (i + 5)) (sc (i + 6))) mw_X11_two ml_L_97 iv_X11_two dL_law_774 rfl rfl rfl rfl (Nat.le_of_ble_eq_true rfl) ⟨(Nat.le_of_ble_eq_true rfl), (Nat.le_of_ble_eq_true rfl)⟩ ⟨(Nat.le_of_ble_eq_true rfl), (Nat.le_of_ble_eq_true rfl)⟩ rfl (pGs (fun h2 q2 => ?_))
  refine R_icmp_eq (n := 780) (tgt := 1132) C dL_law_777 rfl rfl (fun _ => ?_) (fun c => absurd rfl c)
  exact K _ _ ⟨RCl.m q2.2 q1.1, q2.1, g.2.2⟩
set_option maxRecDepth 20000 in
set_option maxHeartbeats 4000000 in
theorem w_pairs {X : RX} {r : Nat → Nat} {b N i : Nat} {sc : Nat → Int32} {G : GS} {h : Hp} (C : Ok X cL_law RL 4 1000 600000 7302250) (S : Sc X b N sc) (hi : i + 7 ≤ N) (K : ∀ (G : GS) (h : Hp), Gd G h → Rn X 100 78294 1132 [some (.ref b), some (.ref (r 0)), some (.ref (r 73)), some (.int (nI i))] [] (LY r) h) (g : Gd G h) : Rn X 100 78294 782 [some (.ref b), some (.ref (r 0)), some (.ref (r 73)), some (.int (nI i))] [] (LY r) h := by
  refine R_al1 (n := 783) C dL_law_782 rfl ?_
  refine M_callV (n := 786) C (p_pairs _ _ _ r g.1 g.2.2 ) mw_X10_pairs ml_L_98 iv_X10_pairs dL_law_783 rfl rfl rfl rfl (Nat.le_of_ble_eq_true rfl) ⟨(Nat.le_of_ble_eq_true rfl), (Nat.le_of_ble_eq_true rfl)⟩ ⟨(Nat.le_of_ble_eq_true rfl), (Nat.le_of_ble_eq_true rfl)⟩ rfl (pGs (fun h1 q1 => ?_))
  refine R_al2 (n := 787) C dL_law_786 rfl ?_
  refine M_callV (n := 790) C (m_pairs _ _ _ r (RMo.c q1.2 g.2.1) g.2.2 ) mw_X11_pairs ml_L_101 iv_X11_pairs dL_law_787 rfl rfl rfl rfl (Nat.le_of_ble_eq_true rfl) ⟨(Nat.le_of_ble_eq_true rfl), (Nat.le_of_ble_eq_true rfl)⟩ ⟨(Nat.le_of_ble_eq_true rfl), (Nat.le_of_ble_eq_true rfl)⟩ rfl (pGs (fun h2 q2 => ?_))
  refine R_icmp_eq (n := 793) (tgt := 1132) C dL_law_790 rfl rfl (fun _ => ?_) (fun c => absurd rfl c)
  exact K _ _ ⟨RCl.m q2.2 q1.1, q2.1, g.2.2⟩
set_option maxRecDepth 20000 in
set_option maxHeartbeats 4000000 in
theorem w_danced {X : RX} {r : Nat → Nat} {b N i : Nat} {sc : Nat → Int32} {G : GS} {h : Hp} (C : Ok X cL_law RL 4 1000 600000 7302250) (S : Sc X b N sc) (hi : i + 7 ≤ N) (K : ∀ (G : GS) (h : Hp), Gd G h → Rn X 100 78294 1132 [some (.ref b), some (.ref (r 0)), some (.ref (r 73)), some (.int (nI i))] [] (LY r) h) (g : Gd G h) : Rn X 100 78294 795 [some (.ref b), some (.ref (r 0)), some (.ref (r 73)), some (.int (nI i))] [] (LY r) h := by
  refine R_al1 (n := 796) C dL_law_795 rfl ?_
  refine R_al0 (n := 797) C dL_law_796 rfl ?_
  refine R_il3 (n := 798) C dL_law_797 rfl ?_
  refine R_ic (n := 799) C dL_law_798 ci_1 rfl ?_
  refine R_iaddN (n := 800) C dL_law_799 rfl ?_
  refine S_ald (n := 801) C S (by omega) dL_law_800 rfl ?_
  refine M_callV (n := 804) C (p_danced _ _ _ r g.1 g.2.2 (sc (i + 1))) mw_X10_danced ml_L_102 iv_X10_danced dL_law_801 rfl rfl rfl rfl (Nat.le_of_ble_eq_true rfl) ⟨(Nat.le_of_ble_eq_true rfl), (Nat.le_of_ble_eq_true rfl)⟩ ⟨(Nat.le_of_ble_eq_true rfl), (Nat.le_of_ble_eq_true rfl)⟩ rfl (pGs (fun h1 q1 => ?_))
  refine R_al2 (n := 805) C dL_law_804 rfl ?_
  refine R_al0 (n := 806) C dL_law_805 rfl ?_
  refine R_il3 (n := 807) C dL_law_806 rfl ?_
  refine R_ic (n := 808) C dL_law_807 ci_1 rfl ?_
  refine R_iaddN (n := 809) C dL_law_808 rfl ?_
  refine S_ald (n := 810) C S (by omega) dL_law_809 rfl ?_
  refine M_callV (n := 813) C (m_danced _ _ _ r (RMo.c q1.2 g.2.1) g.2.2 (sc (i + 1))) mw_X11_danced ml_L_105 iv_X11_danced dL_law_810 rfl rfl rfl rfl (Nat.le_of_ble_eq_true rfl) ⟨(Nat.le_of_ble_eq_true rfl), (Nat.le_of_ble_eq_true rfl)⟩ ⟨(Nat.le_of_ble_eq_true rfl), (Nat.le_of_ble_eq_true rfl)⟩ rfl (pGs (fun h2 q2 => ?_))
  refine R_icmp_eq (n := 816) (tgt := 1132) C dL_law_813 rfl rfl (fun _ => ?_) (fun c => absurd rfl c)
  exact K _ _ ⟨RCl.m q2.2 q1.1, q2.1, g.2.2⟩
set_option maxRecDepth 20000 in
set_option maxHeartbeats 4000000 in
theorem w_elected {X : RX} {r : Nat → Nat} {b N i : Nat} {sc : Nat → Int32} {G : GS} {h : Hp} (C : Ok X cL_law RL 4 1000 600000 7302250) (S : Sc X b N sc) (hi : i + 7 ≤ N) (K : ∀ (G : GS) (h : Hp), Gd G h → Rn X 100 78294 1132 [some (.ref b), some (.ref (r 0)), some (.ref (r 73)), some (.int (nI i))] [] (LY r) h) (g : Gd G h) : Rn X 100 78294 818 [some (.ref b), some (.ref (r 0)), some (.ref (r 73)), some (.int (nI i))] [] (LY r) h := by
  refine R_al1 (n := 819) C dL_law_818 rfl ?_
  refine M_callV (n := 822) C (p_elected _ _ _ r g.1 g.2.2 ) mw_X10_elected ml_L_106 iv_X10_elected dL_law_819 rfl rfl rfl rfl (Nat.le_of_ble_eq_true rfl) ⟨(Nat.le_of_ble_eq_true rfl), (Nat.le_of_ble_eq_true rfl)⟩ ⟨(Nat.le_of_ble_eq_true rfl), (Nat.le_of_ble_eq_true rfl)⟩ rfl (pGs (fun h1 q1 => ?_))
  refine R_al2 (n := 823) C dL_law_822 rfl ?_
  refine M_callV (n := 826) C (m_elected _ _ _ r (RMo.c q1.2 g.2.1).1 g.2.2 ) mw_X11_elected ml_L_109 iv_X11_elected dL_law_823 rfl rfl rfl rfl (Nat.le_of_ble_eq_true rfl) ⟨(Nat.le_of_ble_eq_true rfl), (Nat.le_of_ble_eq_true rfl)⟩ ⟨(Nat.le_of_ble_eq_true rfl), (Nat.le_of_ble_eq_true rfl)⟩ rfl (pEs ?_)
  refine R_icmp_eq (n := 829) (tgt := 1132) C dL_law_826 rfl rfl (fun _ => ?_) (fun c => absurd rfl c)
  exact K _ _ ⟨q1.1, RMo.c q1.2 g.2.1, g.2.2⟩
set_option maxRecDepth 20000 in
set_option maxHeartbeats 4000000 in
theorem w_majority {X : RX} {r : Nat → Nat} {b N i : Nat} {sc : Nat → Int32} {G : GS} {h : Hp} (C : Ok X cL_law RL 4 1000 600000 7302250) (S : Sc X b N sc) (hi : i + 7 ≤ N) (K : ∀ (G : GS) (h : Hp), Gd G h → Rn X 100 78294 1132 [some (.ref b), some (.ref (r 0)), some (.ref (r 73)), some (.int (nI i))] [] (LY r) h) (g : Gd G h) : Rn X 100 78294 831 [some (.ref b), some (.ref (r 0)), some (.ref (r 73)), some (.int (nI i))] [] (LY r) h := by
  refine R_al1 (n := 832) C dL_law_831 rfl ?_
  refine R_al0 (n := 833) C dL_law_832 rfl ?_
  refine R_il3 (n := 834) C dL_law_833 rfl ?_
  refine R_ic (n := 835) C dL_law_834 ci_1 rfl ?_
  refine R_iaddN (n := 836) C dL_law_835 rfl ?_
  refine S_ald (n := 837) C S (by omega) dL_law_836 rfl ?_
  refine M_callV (n := 840) C (p_majority _ _ _ r g.1 g.2.2 (sc (i + 1))) mw_X10_majority ml_L_110 iv_X10_majority dL_law_837 rfl rfl rfl rfl (Nat.le_of_ble_eq_true rfl) ⟨(Nat.le_of_ble_eq_true rfl), (Nat.le_of_ble_eq_true rfl)⟩ ⟨(Nat.le_of_ble_eq_true rfl), (Nat.le_of_ble_eq_true rfl)⟩ rfl (pGs (fun h1 q1 => ?_))
  refine R_al2 (n := 841) C dL_law_840 rfl ?_
  refine R_al0 (n := 842) C dL_law_841 rfl ?_
  refine R_il3 (n := 843) C dL_law_842 rfl ?_
  refine R_ic (n := 844) C dL_law_843 ci_1 rfl ?_
  refine R_iaddN (n := 845) C dL_law_844 rfl ?_
  refine S_ald (n := 846) C S (by omega) dL_law_845 rfl ?_
  refine M_callV (n := 849) C (m_majority _ _ _ r (RMo.c q1.2 g.2.1).1 g.2.2 (sc (i + 1))) mw_X11_majority ml_L_113 iv_X11_majority dL_law_846 rfl rfl rfl rfl (Nat.le_of_ble_eq_true rfl) ⟨(Nat.le_of_ble_eq_true rfl), (Nat.le_of_ble_eq_true rfl)⟩ ⟨(Nat.le_of_ble_eq_true rfl), (Nat.le_of_ble_eq_true rfl)⟩ rfl (pGs (fun h2 q2 => ?_))
  refine R_icmp_eq (n := 852) (tgt := 1132) C dL_law_849 rfl rfl (fun _ => ?_) (fun c => absurd rfl c)
  have t := RMo.t (RMo.c q1.2 g.2.1) (FrQ.t q2)
  exact K _ _ ⟨RCl.m t.2 q1.1, t.1, g.2.2⟩
set_option maxRecDepth 20000 in
set_option maxHeartbeats 4000000 in
theorem w_seen {X : RX} {r : Nat → Nat} {b N i : Nat} {sc : Nat → Int32} {G : GS} {h : Hp} (C : Ok X cL_law RL 4 1000 600000 7302250) (S : Sc X b N sc) (hi : i + 7 ≤ N) (K : ∀ (G : GS) (h : Hp), Gd G h → Rn X 100 78294 1132 [some (.ref b), some (.ref (r 0)), some (.ref (r 73)), some (.int (nI i))] [] (LY r) h) (g : Gd G h) : Rn X 100 78294 854 [some (.ref b), some (.ref (r 0)), some (.ref (r 73)), some (.int (nI i))] [] (LY r) h := by
  refine R_al1 (n := 855) C dL_law_854 rfl ?_
  refine R_al0 (n := 856) C dL_law_855 rfl ?_
  refine R_il3 (n := 857) C dL_law_856 rfl ?_
  refine R_ic (n := 858) C dL_law_857 ci_1 rfl ?_
  refine R_iaddN (n := 859) C dL_law_858 rfl ?_
  refine S_ald (n := 860) C S (by omega) dL_law_859 rfl ?_
  refine R_al0 (n := 861) C dL_law_860 rfl ?_
  refine R_il3 (n := 862) C dL_law_861 rfl ?_
  refine R_ic (n := 863) C dL_law_862 ci_2 rfl ?_
  refine R_iaddN (n := 864) C dL_law_863 rfl ?_
  refine S_ald (n := 865) C S (by omega) dL_law_864 rfl ?_
  refine R_al0 (n := 866) C dL_law_865 rfl ?_
  refine R_il3 (n := 867) C dL_law_866 rfl ?_
  refine R_ic (n := 868) C dL_law_867 ci_3 rfl ?_
  refine R_iaddN (n := 869) C dL_law_868 rfl ?_
  refine S_ald (n := 870) C S (by omega) dL_law_869 rfl ?_
  refine M_callV (n := 873) C (p_seen _ _ _ r g.1 g.2.2 (sc (i + 1)) (sc (i + 2)) (sc (i + 3))) mw_X10_seen ml_L_114 iv_X10_seen dL_law_870 rfl rfl rfl rfl (Nat.le_of_ble_eq_true rfl) ⟨(Nat.le_of_ble_eq_true rfl), (Nat.le_of_ble_eq_true rfl)⟩ ⟨(Nat.le_of_ble_eq_true rfl), (Nat.le_of_ble_eq_true rfl)⟩ rfl (pGs (fun h1 q1 => ?_))
  refine R_al2 (n := 874) C dL_law_873 rfl ?_
  refine R_al0 (n := 875) C dL_law_874 rfl ?_
  refine R_il3 (n := 876) C dL_law_875 rfl ?_
  refine R_ic (n := 877) C dL_law_876 ci_1 rfl ?_
  refine R_iaddN (n := 878) C dL_law_877 rfl ?_
  refine S_ald (n := 879) C S (by omega) dL_law_878 rfl ?_
  refine R_al0 (n := 880) C dL_law_879 rfl ?_
  refine R_il3 (n := 881) C dL_law_880 rfl ?_
  refine R_ic (n := 882) C dL_law_881 ci_2 rfl ?_
  refine R_iaddN (n := 883) C dL_law_882 rfl ?_
  refine S_ald (n := 884) C S (by omega) dL_law_883 rfl ?_
  refine R_al0 (n := 885) C dL_law_884 rfl ?_
  refine R_il3 (n := 886) C dL_law_885 rfl ?_
  refine R_ic (n := 887) C dL_law_886 ci_3 rfl ?_
  refine R_iaddN (n := 888) C dL_law_887 rfl ?_
  refine S_ald (n := 889) C S (by omega) dL_law_888 rfl ?_
  refine M_callV (n := 892) C (m_seen _ _ _ r (RMo.c q1.2 g.2.1) g.2.2 (sc (i + 1)) (sc (i + 2)) (sc (i + 3))) mw_X11_seen ml_L_117 iv_X11_seen dL_law_889 rfl rfl rfl rfl (Nat.le_of_ble_eq_true rfl) ⟨(Nat.le_of_ble_eq_true rfl), (Nat.le_of_ble_eq_true rfl)⟩ ⟨(Nat.le_of_ble_eq_true rfl), (Nat.le_of_ble_eq_true rfl)⟩ rfl (pGs (fun h2 q2 => ?_))
  refine R_icmp_eq (n := 895) (tgt := 1132) C dL_law_892 rfl rfl (fun _ => ?_) (fun c => absurd rfl c)
  exact K _ _ ⟨RCl.m q2.2 q1.1, q2.1, nSeen_inv g.2.2 (sc (i + 1)) (sc (i + 2)) (sc (i + 3))⟩
set_option maxRecDepth 20000 in
set_option maxHeartbeats 4000000 in
theorem w_forget {X : RX} {r : Nat → Nat} {b N i : Nat} {sc : Nat → Int32} {G : GS} {h : Hp} (C : Ok X cL_law RL 4 1000 600000 7302250) (S : Sc X b N sc) (hi : i + 7 ≤ N) (K : ∀ (G : GS) (h : Hp), Gd G h → Rn X 100 78294 1132 [some (.ref b), some (.ref (r 0)), some (.ref (r 73)), some (.int (nI i))] [] (LY r) h) (g : Gd G h) : Rn X 100 78294 897 [some (.ref b), some (.ref (r 0)), some (.ref (r 73)), some (.int (nI i))] [] (LY r) h := by
  refine R_al1 (n := 898) C dL_law_897 rfl ?_
  refine M_callV (n := 901) C (p_forget _ _ _ r g.1 g.2.2 ) mw_X10_forget ml_L_118 iv_X10_forget dL_law_898 rfl rfl rfl rfl (Nat.le_of_ble_eq_true rfl) ⟨(Nat.le_of_ble_eq_true rfl), (Nat.le_of_ble_eq_true rfl)⟩ ⟨(Nat.le_of_ble_eq_true rfl), (Nat.le_of_ble_eq_true rfl)⟩ rfl (pGs (fun h1 q1 => ?_))
  refine R_al2 (n := 902) C dL_law_901 rfl ?_
  refine M_callV (n := 905) C (m_forget _ _ _ r (RMo.c q1.2 g.2.1) ) mw_X11_forget ml_L_121 iv_X11_forget dL_law_902 rfl rfl rfl rfl (Nat.le_of_ble_eq_true rfl) ⟨(Nat.le_of_ble_eq_true rfl), (Nat.le_of_ble_eq_true rfl)⟩ ⟨(Nat.le_of_ble_eq_true rfl), (Nat.le_of_ble_eq_true rfl)⟩ rfl (pGs (fun h2 q2 => ?_))
  refine R_icmp_eq (n := 908) (tgt := 1132) C dL_law_905 rfl rfl (fun _ => ?_) (fun c => absurd rfl c)
  exact K _ _ ⟨RCl.m q2.2 q1.1, q2.1, nForget_inv g.2.2 ⟩
set_option maxRecDepth 20000 in
set_option maxHeartbeats 4000000 in
theorem w_tracks {X : RX} {r : Nat → Nat} {b N i : Nat} {sc : Nat → Int32} {G : GS} {h : Hp} (C : Ok X cL_law RL 4 1000 600000 7302250) (S : Sc X b N sc) (hi : i + 7 ≤ N) (K : ∀ (G : GS) (h : Hp), Gd G h → Rn X 100 78294 1132 [some (.ref b), some (.ref (r 0)), some (.ref (r 73)), some (.int (nI i))] [] (LY r) h) (g : Gd G h) : Rn X 100 78294 910 [some (.ref b), some (.ref (r 0)), some (.ref (r 73)), some (.int (nI i))] [] (LY r) h := by
  refine R_al1 (n := 911) C dL_law_910 rfl ?_
  refine R_al0 (n := 912) C dL_law_911 rfl ?_
  refine R_il3 (n := 913) C dL_law_912 rfl ?_
  refine R_ic (n := 914) C dL_law_913 ci_1 rfl ?_
  refine R_iaddN (n := 915) C dL_law_914 rfl ?_
  refine S_ald (n := 916) C S (by omega) dL_law_915 rfl ?_
  refine M_callV (n := 919) C (p_tracks _ _ _ r g.1 g.2.2 (sc (i + 1))) mw_X10_tracks ml_L_122 iv_X10_tracks dL_law_916 rfl rfl rfl rfl (Nat.le_of_ble_eq_true rfl) ⟨(Nat.le_of_ble_eq_true rfl), (Nat.le_of_ble_eq_true rfl)⟩ ⟨(Nat.le_of_ble_eq_true rfl), (Nat.le_of_ble_eq_true rfl)⟩ rfl (pGs (fun h1 q1 => ?_))
  refine R_al2 (n := 920) C dL_law_919 rfl ?_
  refine R_al0 (n := 921) C dL_law_920 rfl ?_
  refine R_il3 (n := 922) C dL_law_921 rfl ?_
  refine R_ic (n := 923) C dL_law_922 ci_1 rfl ?_
  refine R_iaddN (n := 924) C dL_law_923 rfl ?_
  refine S_ald (n := 925) C S (by omega) dL_law_924 rfl ?_
  refine M_callV (n := 928) C (m_tracks _ _ _ r (RMo.c q1.2 g.2.1) g.2.2 (sc (i + 1))) mw_X11_tracks ml_L_125 iv_X11_tracks dL_law_925 rfl rfl rfl rfl (Nat.le_of_ble_eq_true rfl) ⟨(Nat.le_of_ble_eq_true rfl), (Nat.le_of_ble_eq_true rfl)⟩ ⟨(Nat.le_of_ble_eq_true rfl), (Nat.le_of_ble_eq_true rfl)⟩ rfl (pGs (fun h2 q2 => ?_))
  refine R_icmp_eq (n := 931) (tgt := 1132) C dL_law_928 rfl rfl (fun _ => ?_) (fun c => absurd rfl c)
  exact K _ _ ⟨RCl.m q2.2 q1.1, q2.1, g.2.2⟩
set_option maxRecDepth 20000 in
set_option maxHeartbeats 4000000 in
theorem w_looked {X : RX} {r : Nat → Nat} {b N i : Nat} {sc : Nat → Int32} {G : GS} {h : Hp} (C : Ok X cL_law RL 4 1000 600000 7302250) (S : Sc X b N sc) (hi : i + 7 ≤ N) (K : ∀ (G : GS) (h : Hp), Gd G h → Rn X 100 78294 1132 [some (.ref b), some (.ref (r 0)), some (.ref (r 73)), some (.int (nI i))] [] (LY r) h) (g : Gd G h) : Rn X 100 78294 933 [some (.ref b), some (.ref (r 0)), some (.ref (r 73)), some (.int (nI i))] [] (LY r) h := by
  refine R_al1 (n := 934) C dL_law_933 rfl ?_
  refine R_al0 (n := 935) C dL_law_934 rfl ?_
  refine R_il3 (n := 936) C dL_law_935 rfl ?_
  refine R_ic (n := 937) C dL_law_936 ci_1 rfl ?_
  refine R_iaddN (n := 938) C dL_law_937 rfl ?_
  refine S_ald (n := 939) C S (by omega) dL_law_938 rfl ?_
  refine M_callV (n := 942) C (p_looked _ _ _ r g.1 g.2.2 (sc (i + 1))) mw_X10_looked ml_L_126 iv_X10_looked dL_law_939 rfl rfl rfl rfl (Nat.le_of_ble_eq_true rfl) ⟨(Nat.le_of_ble_eq_true rfl), (Nat.le_of_ble_eq_true rfl)⟩ ⟨(Nat.le_of_ble_eq_true rfl), (Nat.le_of_ble_eq_true rfl)⟩ rfl (pGs (fun h1 q1 => ?_))
  refine R_al2 (n := 943) C dL_law_942 rfl ?_
  refine R_al0 (n := 944) C dL_law_943 rfl ?_
  refine R_il3 (n := 945) C dL_law_944 rfl ?_
  refine R_ic (n := 946) C dL_law_945 ci_1 rfl ?_
  refine R_iaddN (n := 947) C dL_law_946 rfl ?_
  refine S_ald (n := 948) C S (by omega) dL_law_947 rfl ?_
  refine M_callV (n := 951) C (m_looked _ _ _ r (RMo.c q1.2 g.2.1) g.2.2 (sc (i + 1))) mw_X11_looked ml_L_129 iv_X11_looked dL_law_948 rfl rfl rfl rfl (Nat.le_of_ble_eq_true rfl) ⟨(Nat.le_of_ble_eq_true rfl), (Nat.le_of_ble_eq_true rfl)⟩ ⟨(Nat.le_of_ble_eq_true rfl), (Nat.le_of_ble_eq_true rfl)⟩ rfl (pGs (fun h2 q2 => ?_))
  refine R_icmp_eq (n := 954) (tgt := 1132) C dL_law_951 rfl rfl (fun _ => ?_) (fun c => absurd rfl c)
  exact K _ _ ⟨RCl.m q2.2 q1.1, q2.1, g.2.2⟩
set_option maxRecDepth 20000 in
set_option maxHeartbeats 4000000 in
theorem w_storm {X : RX} {r : Nat → Nat} {b N i : Nat} {sc : Nat → Int32} {G : GS} {h : Hp} (C : Ok X cL_law RL 4 1000 600000 7302250) (S : Sc X b N sc) (hi : i + 7 ≤ N) (K : ∀ (G : GS) (h : Hp), Gd G h → Rn X 100 78294 1132 [some (.ref b), some (.ref (r 0)), some (.ref (r 73)), some (.int (nI i))] [] (LY r) h) (g : Gd G h) : Rn X 100 78294 956 [some (.ref b), some (.ref (r 0)), some (.ref (r 73)), some (.int (nI i))] [] (LY r) h := by
  refine R_al1 (n := 957) C dL_law_956 rfl ?_
  refine R_al0 (n := 958) C dL_law_957 rfl ?_
  refine R_il3 (n := 959) C dL_law_958 rfl ?_
  refine R_ic (n := 960) C dL_law_959 ci_1 rfl ?_
  refine R_iaddN (n := 961) C dL_law_960 rfl ?_
  refine S_ald (n := 962) C S (by omega) dL_law_961 rfl ?_
  refine R_al0 (n := 963) C dL_law_962 rfl ?_
  refine R_il3 (n := 964) C dL_law_963 rfl ?_
  refine R_ic (n := 965) C dL_law_964 ci_2 rfl ?_
  refine R_iaddN (n := 966) C dL_law_965 rfl ?_
  refine S_ald (n := 967) C S (by omega) dL_law_966 rfl ?_
  refine R_al0 (n := 968) C dL_law_967 rfl ?_
  refine R_il3 (n := 969) C dL_law_968 rfl ?_
  refine R_ic (n := 970) C dL_law_969 ci_3 rfl ?_
  refine R_iaddN (n := 971) C dL_law_970 rfl ?_
  refine S_ald (n := 972) C S (by omega) dL_law_971 rfl ?_
  refine R_al0 (n := 973) C dL_law_972 rfl ?_
  refine R_il3 (n := 974) C dL_law_973 rfl ?_
  refine R_ic (n := 975) C dL_law_974 ci_4 rfl ?_
  refine R_iaddN (n := 976) C dL_law_975 rfl ?_
  refine S_ald (n := 977) C S (by omega) dL_law_976 rfl ?_
  refine R_al0 (n := 978) C dL_law_977 rfl ?_
  refine R_il3 (n := 979) C dL_law_978 rfl ?_
  refine R_ic (n := 980) C dL_law_979 ci_5 rfl ?_
  refine R_iaddN (n := 981) C dL_law_980 rfl ?_
  refine S_ald (n := 982) C S (by omega) dL_law_981 rfl ?_
  refine M_callV (n := 985) C (p_storm _ _ _ r g.1 g.2.2 (sc (i + 1)) (sc (i + 2)) (sc (i + 3)) (sc (i + 4)) (sc (i + 5))) mw_X10_storm ml_L_130 iv_X10_storm dL_law_982 rfl rfl rfl rfl (Nat.le_of_ble_eq_true rfl) ⟨(Nat.le_of_ble_eq_true rfl), (Nat.le_of_ble_eq_true rfl)⟩ ⟨(Nat.le_of_ble_eq_true rfl), (Nat.le_of_ble_eq_true rfl)⟩ rfl (pGs (fun h1 q1 => ?_))
  refine R_al2 (n := 986) C dL_law_985 rfl ?_
  refine R_al0 (n := 987) C dL_law_986 rfl ?_
  refine R_il3 (n := 988) C dL_law_987 rfl ?_
  refine R_ic (n := 989) C dL_law_988 ci_1 rfl ?_
  refine R_iaddN (n := 990) C dL_law_989 rfl ?_
  refine S_ald (n := 991) C S (by omega) dL_law_990 rfl ?_
  refine R_al0 (n := 992) C dL_law_991 rfl ?_
  refine R_il3 (n := 993) C dL_law_992 rfl ?_
  refine R_ic (n := 994) C dL_law_993 ci_2 rfl ?_
  refine R_iaddN (n := 995) C dL_law_994 rfl ?_
  refine S_ald (n := 996) C S (by omega) dL_law_995 rfl ?_
  refine R_al0 (n := 997) C dL_law_996 rfl ?_
  refine R_il3 (n := 998) C dL_law_997 rfl ?_
  refine R_ic (n := 999) C dL_law_998 ci_3 rfl ?_
  refine R_iaddN (n := 1000) C dL_law_999 rfl ?_
  refine S_ald (n := 1001) C S (by omega) dL_law_1000 rfl ?_
  refine R_al0 (n := 1002) C dL_law_1001 rfl ?_
  refine R_il3 (n := 1003) C dL_law_1002 rfl ?_
  refine R_ic (n := 1004) C dL_law_1003 ci_4 rfl ?_
  refine R_iaddN (n := 1005) C dL_law_1004 rfl ?_
  refine S_ald (n := 1006) C S (by omega) dL_law_1005 rfl ?_
  refine R_al0 (n := 1007) C dL_law_1006 rfl ?_
  refine R_il3 (n := 1008) C dL_law_1007 rfl ?_
  refine R_ic (n := 1009) C dL_law_1008 ci_5 rfl ?_
  refine R_iaddN (n := 1010) C dL_law_1009 rfl ?_
  refine S_ald (n := 1011) C S (by omega) dL_law_1010 rfl ?_
  refine M_callV (n := 1014) C (m_storm _ _ _ r (RMo.c q1.2 g.2.1) g.2.2 (sc (i + 1)) (sc (i + 2)) (sc (i + 3)) (sc (i + 4)) (sc (i + 5))) mw_X11_storm ml_L_134 iv_X11_storm dL_law_1011 rfl rfl rfl rfl (Nat.le_of_ble_eq_true rfl) ⟨(Nat.le_of_ble_eq_true rfl), (Nat.le_of_ble_eq_true rfl)⟩ ⟨(Nat.le_of_ble_eq_true rfl), (Nat.le_of_ble_eq_true rfl)⟩ rfl (pGs (fun h2 q2 => ?_))
  refine R_lcmp (n := 1015) C dL_law_1014 rfl ?_
  refine R_if_eq (n := 1018) (tgt := 1132) C dL_law_1015 rfl rfl (fun _ => ?_) (fun c => absurd (lcmp_self _) c)
  exact K _ _ ⟨RCl.m q2.2 q1.1, q2.1, g.2.2⟩
set_option maxRecDepth 20000 in
set_option maxHeartbeats 4000000 in
theorem w_ninety {X : RX} {r : Nat → Nat} {b N i : Nat} {sc : Nat → Int32} {G : GS} {h : Hp} (C : Ok X cL_law RL 4 1000 600000 7302250) (S : Sc X b N sc) (hi : i + 7 ≤ N) (K : ∀ (G : GS) (h : Hp), Gd G h → Rn X 100 78294 1132 [some (.ref b), some (.ref (r 0)), some (.ref (r 73)), some (.int (nI i))] [] (LY r) h) (g : Gd G h) : Rn X 100 78294 1020 [some (.ref b), some (.ref (r 0)), some (.ref (r 73)), some (.int (nI i))] [] (LY r) h := by
  refine R_al1 (n := 1021) C dL_law_1020 rfl ?_
  refine R_al0 (n := 1022) C dL_law_1021 rfl ?_
  refine R_il3 (n := 1023) C dL_law_1022 rfl ?_
  refine R_ic (n := 1024) C dL_law_1023 ci_1 rfl ?_
  refine R_iaddN (n := 1025) C dL_law_1024 rfl ?_
  refine S_ald (n := 1026) C S (by omega) dL_law_1025 rfl ?_
  refine R_al0 (n := 1027) C dL_law_1026 rfl ?_
  refine R_il3 (n := 1028) C dL_law_1027 rfl ?_
  refine R_ic (n := 1029) C dL_law_1028 ci_2 rfl ?_
  refine R_iaddN (n := 1030) C dL_law_1029 rfl ?_
  refine S_ald (n := 1031) C S (by omega) dL_law_1030 rfl ?_
  refine R_al0 (n := 1032) C dL_law_1031 rfl ?_
  refine R_il3 (n := 1033) C dL_law_1032 rfl ?_
  refine R_ic (n := 1034) C dL_law_1033 ci_3 rfl ?_
  refine R_iaddN (n := 1035) C dL_law_1034 rfl ?_
  refine S_ald (n := 1036) C S (by omega) dL_law_1035 rfl ?_
  refine M_callV (n := 1039) C (p_ninety _ _ _ r g.1 g.2.2 (sc (i + 1)) (sc (i + 2)) (sc (i + 3))) mw_X10_ninety ml_L_135 iv_X10_ninety dL_law_1036 rfl rfl rfl rfl (Nat.le_of_ble_eq_true rfl) ⟨(Nat.le_of_ble_eq_true rfl), (Nat.le_of_ble_eq_true rfl)⟩ ⟨(Nat.le_of_ble_eq_true rfl), (Nat.le_of_ble_eq_true rfl)⟩ rfl (pGs (fun h1 q1 => ?_))
  refine R_al2 (n := 1040) C dL_law_1039 rfl ?_
  refine R_al0 (n := 1041) C dL_law_1040 rfl ?_
  refine R_il3 (n := 1042) C dL_law_1041 rfl ?_
  refine R_ic (n := 1043) C dL_law_1042 ci_1 rfl ?_
  refine R_iaddN (n := 1044) C dL_law_1043 rfl ?_
  refine S_ald (n := 1045) C S (by omega) dL_law_1044 rfl ?_
  refine R_al0 (n := 1046) C dL_law_1045 rfl ?_
  refine R_il3 (n := 1047) C dL_law_1046 rfl ?_
  refine R_ic (n := 1048) C dL_law_1047 ci_2 rfl ?_
  refine R_iaddN (n := 1049) C dL_law_1048 rfl ?_
  refine S_ald (n := 1050) C S (by omega) dL_law_1049 rfl ?_
  refine R_al0 (n := 1051) C dL_law_1050 rfl ?_
  refine R_il3 (n := 1052) C dL_law_1051 rfl ?_
  refine R_ic (n := 1053) C dL_law_1052 ci_3 rfl ?_
  refine R_iaddN (n := 1054) C dL_law_1053 rfl ?_
  refine S_ald (n := 1055) C S (by omega) dL_law_1054 rfl ?_
  refine M_callV (n := 1058) C (m_ninety _ _ _ r (RMo.c q1.2 g.2.1) g.2.2 (sc (i + 1)) (sc (i + 2)) (sc (i + 3))) mw_X11_ninety ml_L_138 iv_X11_ninety dL_law_1055 rfl rfl rfl rfl (Nat.le_of_ble_eq_true rfl) ⟨(Nat.le_of_ble_eq_true rfl), (Nat.le_of_ble_eq_true rfl)⟩ ⟨(Nat.le_of_ble_eq_true rfl), (Nat.le_of_ble_eq_true rfl)⟩ rfl (pGs (fun h2 q2 => ?_))
  refine R_icmp_eq (n := 1061) (tgt := 1132) C dL_law_1058 rfl rfl (fun _ => ?_) (fun c => absurd rfl c)
  exact K _ _ ⟨RCl.m q2.2 q1.1, q2.1, g.2.2⟩
set_option maxRecDepth 20000 in
set_option maxHeartbeats 4000000 in
theorem w_image {X : RX} {r : Nat → Nat} {b N i : Nat} {sc : Nat → Int32} {G : GS} {h : Hp} (C : Ok X cL_law RL 4 1000 600000 7302250) (S : Sc X b N sc) (hi : i + 7 ≤ N) (K : ∀ (G : GS) (h : Hp), Gd G h → Rn X 100 78294 1132 [some (.ref b), some (.ref (r 0)), some (.ref (r 73)), some (.int (nI i))] [] (LY r) h) (g : Gd G h) : Rn X 100 78294 1063 [some (.ref b), some (.ref (r 0)), some (.ref (r 73)), some (.int (nI i))] [] (LY r) h := by
  refine R_al1 (n := 1064) C dL_law_1063 rfl ?_
  refine R_al0 (n := 1065) C dL_law_1064 rfl ?_
  refine R_il3 (n := 1066) C dL_law_1065 rfl ?_
  refine R_ic (n := 1067) C dL_law_1066 ci_1 rfl ?_
  refine R_iaddN (n := 1068) C dL_law_1067 rfl ?_
  refine S_ald (n := 1069) C S (by omega) dL_law_1068 rfl ?_
  refine M_callV (n := 1072) C (p_image _ _ _ r g.1 g.2.2 (sc (i + 1))) mw_X10_image ml_L_139 iv_X10_image dL_law_1069 rfl rfl rfl rfl (Nat.le_of_ble_eq_true rfl) ⟨(Nat.le_of_ble_eq_true rfl), (Nat.le_of_ble_eq_true rfl)⟩ ⟨(Nat.le_of_ble_eq_true rfl), (Nat.le_of_ble_eq_true rfl)⟩ rfl (pGs (fun h1 q1 => ?_))
  refine R_al2 (n := 1073) C dL_law_1072 rfl ?_
  refine R_al0 (n := 1074) C dL_law_1073 rfl ?_
  refine R_il3 (n := 1075) C dL_law_1074 rfl ?_
  refine R_ic (n := 1076) C dL_law_1075 ci_1 rfl ?_
  refine R_iaddN (n := 1077) C dL_law_1076 rfl ?_
  refine S_ald (n := 1078) C S (by omega) dL_law_1077 rfl ?_
  refine M_callV (n := 1081) C (m_image _ _ _ r (RMo.c q1.2 g.2.1) (sc (i + 1))) mw_X11_image ml_L_142 iv_X11_image dL_law_1078 rfl rfl rfl rfl (Nat.le_of_ble_eq_true rfl) ⟨(Nat.le_of_ble_eq_true rfl), (Nat.le_of_ble_eq_true rfl)⟩ ⟨(Nat.le_of_ble_eq_true rfl), (Nat.le_of_ble_eq_true rfl)⟩ rfl (pGs (fun h2 q2 => ?_))
  refine R_icmp_eq (n := 1084) (tgt := 1132) C dL_law_1081 rfl rfl (fun _ => ?_) (fun c => absurd rfl c)
  exact K _ _ ⟨RCl.m q2.2 q1.1, q2.1, nImage_inv g.2.2 (sc (i + 1))⟩
set_option maxRecDepth 20000 in
set_option maxHeartbeats 4000000 in
theorem w_restore {X : RX} {r : Nat → Nat} {b N i : Nat} {sc : Nat → Int32} {G : GS} {h : Hp} (C : Ok X cL_law RL 4 1000 600000 7302250) (S : Sc X b N sc) (hi : i + 7 ≤ N) (K : ∀ (G : GS) (h : Hp), Gd G h → Rn X 100 78294 1132 [some (.ref b), some (.ref (r 0)), some (.ref (r 73)), some (.int (nI i))] [] (LY r) h) (g : Gd G h) : Rn X 100 78294 1086 [some (.ref b), some (.ref (r 0)), some (.ref (r 73)), some (.int (nI i))] [] (LY r) h := by
  refine R_al1 (n := 1087) C dL_law_1086 rfl ?_
  refine R_al0 (n := 1088) C dL_law_1087 rfl ?_
  refine R_il3 (n := 1089) C dL_law_1088 rfl ?_
  refine R_ic (n := 1090) C dL_law_1089 ci_1 rfl ?_
  refine R_iaddN (n := 1091) C dL_law_1090 rfl ?_
  refine S_ald (n := 1092) C S (by omega) dL_law_1091 rfl ?_
  refine M_callV (n := 1095) C (p_restore _ _ _ r g.1 g.2.2 (sc (i + 1))) mw_X10_restore ml_L_143 iv_X10_restore dL_law_1092 rfl rfl rfl rfl (Nat.le_of_ble_eq_true rfl) ⟨(Nat.le_of_ble_eq_true rfl), (Nat.le_of_ble_eq_true rfl)⟩ ⟨(Nat.le_of_ble_eq_true rfl), (Nat.le_of_ble_eq_true rfl)⟩ rfl (pGs (fun h1 q1 => ?_))
  refine R_al2 (n := 1096) C dL_law_1095 rfl ?_
  refine R_al0 (n := 1097) C dL_law_1096 rfl ?_
  refine R_il3 (n := 1098) C dL_law_1097 rfl ?_
  refine R_ic (n := 1099) C dL_law_1098 ci_1 rfl ?_
  refine R_iaddN (n := 1100) C dL_law_1099 rfl ?_
  refine S_ald (n := 1101) C S (by omega) dL_law_1100 rfl ?_
  refine M_callV (n := 1104) C (m_restore _ _ _ r (RMo.c q1.2 g.2.1) (sc (i + 1))) mw_X11_restore ml_L_146 iv_X11_restore dL_law_1101 rfl rfl rfl rfl (Nat.le_of_ble_eq_true rfl) ⟨(Nat.le_of_ble_eq_true rfl), (Nat.le_of_ble_eq_true rfl)⟩ ⟨(Nat.le_of_ble_eq_true rfl), (Nat.le_of_ble_eq_true rfl)⟩ rfl (pGs (fun h2 q2 => ?_))
  refine R_icmp_eq (n := 1107) (tgt := 1132) C dL_law_1104 rfl rfl (fun _ => ?_) (fun c => absurd rfl c)
  exact K _ _ ⟨RCl.m q2.2 q1.1, q2.1, nRestore_inv g.2.2 (sc (i + 1))⟩
set_option maxRecDepth 20000 in
set_option maxHeartbeats 4000000 in
theorem w_told {X : RX} {r : Nat → Nat} {b N i : Nat} {sc : Nat → Int32} {G : GS} {h : Hp} (C : Ok X cL_law RL 4 1000 600000 7302250) (S : Sc X b N sc) (hi : i + 7 ≤ N) (K : ∀ (G : GS) (h : Hp), Gd G h → Rn X 100 78294 1132 [some (.ref b), some (.ref (r 0)), some (.ref (r 73)), some (.int (nI i))] [] (LY r) h) (g : Gd G h) : Rn X 100 78294 1109 [some (.ref b), some (.ref (r 0)), some (.ref (r 73)), some (.int (nI i))] [] (LY r) h := by
  refine R_al1 (n := 1110) C dL_law_1109 rfl ?_
  refine R_al0 (n := 1111) C dL_law_1110 rfl ?_
  refine R_il3 (n := 1112) C dL_law_1111 rfl ?_
  refine R_ic (n := 1113) C dL_law_1112 ci_1 rfl ?_
  refine R_iaddN (n := 1114) C dL_law_1113 rfl ?_
  refine S_ald (n := 1115) C S (by omega) dL_law_1114 rfl ?_
  refine M_callV (n := 1118) C (p_told _ _ _ r g.1 g.2.2 (sc (i + 1))) mw_X10_told ml_L_147 iv_X10_told dL_law_1115 rfl rfl rfl rfl (Nat.le_of_ble_eq_true rfl) ⟨(Nat.le_of_ble_eq_true rfl), (Nat.le_of_ble_eq_true rfl)⟩ ⟨(Nat.le_of_ble_eq_true rfl), (Nat.le_of_ble_eq_true rfl)⟩ rfl (pGs (fun h1 q1 => ?_))
  refine R_al2 (n := 1119) C dL_law_1118 rfl ?_
  refine R_al0 (n := 1120) C dL_law_1119 rfl ?_
  refine R_il3 (n := 1121) C dL_law_1120 rfl ?_
  refine R_ic (n := 1122) C dL_law_1121 ci_1 rfl ?_
  refine R_iaddN (n := 1123) C dL_law_1122 rfl ?_
  refine S_ald (n := 1124) C S (by omega) dL_law_1123 rfl ?_
  refine M_callV (n := 1127) C (m_told _ _ _ r (RMo.c q1.2 g.2.1) g.2.2 (sc (i + 1))) mw_X11_told ml_L_150 iv_X11_told dL_law_1124 rfl rfl rfl rfl (Nat.le_of_ble_eq_true rfl) ⟨(Nat.le_of_ble_eq_true rfl), (Nat.le_of_ble_eq_true rfl)⟩ ⟨(Nat.le_of_ble_eq_true rfl), (Nat.le_of_ble_eq_true rfl)⟩ rfl (pGs (fun h2 q2 => ?_))
  refine R_icmp_eq (n := 1130) (tgt := 1132) C dL_law_1127 rfl rfl (fun _ => ?_) (fun c => absurd rfl c)
  exact K _ _ ⟨RCl.m q2.2 q1.1, q2.1, g.2.2⟩
