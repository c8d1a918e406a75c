/-! the law: holds (rows laid by wip/p25/p32.py) -/
section HOLDS
variable {G : GX} {S : Nat → Sh} {B : Bc} {M : Md} {w : Wt} {k : Nat} {t : Int}
theorem ac_1 (a b : Int32) : a + 1 + b = a + (b + 1) := by rw [Int32.add_assoc, Int32.add_comm 1 b]
theorem ac_0 (a b : Int32) : a + 0 + b = a + b := by rw [Int32.add_zero]
theorem ac_v (a b c : Int32) : a + c + b = a + (b + c) := by rw [Int32.add_assoc, Int32.add_comm c b]
theorem ac_o (a b c : Int32) : (a ||| c) ||| b = a ||| (b ||| c) := by rw [Int32.or_assoc, Int32.or_comm c b]
theorem dn_s (k : Nat) : nI (k + 1) - 1 = nI k := by
  rw [← inc_nI]
  simp only [Int32.sub_eq_add_neg, Int32.add_assoc]
  rw [show (1 : Int32) + -1 = 0 from rfl, Int32.add_zero]
theorem dn_i (k : Nat) : nI k + Int32.ofInt (-1) = nI k - 1 := by
  rw [Int32.sub_eq_add_neg]
  rfl
theorem cnt_3 (P : Nat → Fs) : ∀ n, (∀ k, k < n → P k 5 = 0 ∨ P k 5 = 1 ∨ P k 5 = 2) → nI n = cntN P 0 n + cntN P 1 n + cntN P 2 n
  | 0, _ => rfl
  | n + 1, h => by
    have ih := cnt_3 P n (fun k hk => h k (by omega))
    rw [← inc_nI, ih]
    simp only [cntN]
    rcases h n (by omega) with e | e | e
    · rw [if_pos e, if_neg (by rw [e]; decide), if_neg (by rw [e]; decide)]
      rw [Int32.add_assoc, Int32.add_assoc, Int32.add_assoc, Int32.add_assoc, ← Int32.add_assoc (cntN P 1 n), Int32.add_comm 1]
    · rw [if_neg (by rw [e]; decide), if_pos e, if_neg (by rw [e]; decide)]
      rw [Int32.add_assoc, Int32.add_assoc, Int32.add_assoc, Int32.add_assoc, Int32.add_comm 1]
    · rw [if_neg (by rw [e]; decide), if_neg (by rw [e]; decide), if_pos e]
      rw [Int32.add_assoc]
theorem hot_A {A : Ab} (hV : VA A) : hotN A.2.2.1 12 < 12 ∧ (∀ q, q < 12 → ¬ grV A < A.2.2.1 q) ∧ ∀ q, q < hotN A.2.2.1 12 → A.2.2.1 q < grV A := by
  obtain ⟨-, b, c, d⟩ := hot_all (fun k hk => (hV.ht hk).1) 11 (by decide)
  refine ⟨Nat.lt_succ_of_le b, fun q hq z => ?_, fun q hq => ?_⟩
  · have this := c q (by omega)
    change (A.2.2.1 q).toInt ≤ (A.2.2.1 (hotN A.2.2.1 12)).toInt at this
    rw [ti_lt] at z
    unfold grV at z
    omega
  · rw [ti_lt]; exact d q hq
theorem ht_0 {A : Ab} (hV : VA A) {q : Nat} (hq : q < 12) : ¬ A.2.2.1 q < 0 := by
  have := (hV.ht hq).1
  rw [ti_lt, t0]; omega
theorem bes_s {A : Ab} {k : Nat} {f : Option Nat} {b : Bool} (h : (decide (whyV A k = 0) && (match f with | none => true | some q => !decide (tkV A q < tkV A k))) = b) : besD A (k + 1) f = besD A k (if b = true then some k else f) := by
  subst h
  cases f <;> rfl
set_option maxHeartbeats 4000000 in
set_option maxRecDepth 100000 in
theorem e2_holds (hG : GC S B w) (hB : VB t w.1) : XJ G YL_holds (fun _ => True) (Zx G (Rt G (some (.int 1)) S B M) 0 0) 290 [(0, .ref (gB G + 0)), (1, .int (nI w.1.1)), (2, .int (cntN w.1.2.2.2.2 0 w.1.1)), (3, .int (cntN w.1.2.2.2.2 1 w.1.1)), (4, .int (tilN w.1.2.2.2.2 w.1.1)), (5, .int (rnkN w.1.2.2.2.2 w.1.1)), (6, .int (sumN w.1.2.2.1 12)), (7, .int (oV (besO w.1 w.1.1))), (8, .int 1)] [] (nN G) (cellOf G S B M) 0 0 := by
  obtain ⟨h1, h2, h3⟩ := hot_A hB.1
  refine x_iload (pc := 290) dL_holds_290 rfl ?_
  refine x_ifeq (pc := 292) 404 dL_holds_292 (by decide) (fun h => absurd h (by decide)) (fun _ => ?_)
  refine x_iload_n (pc := 295) dL_holds_295 rfl ?_
  refine x_aload_n (pc := 296) dL_holds_296 rfl ?_
  refine x_iconst (pc := 297) (1) dL_holds_297 (by decide) ?_
  refine t_Vi (pc := 298) (n_1 hG) qV_X3_count mL_L_9 dL_holds_298 rfl cell_bc (nN_lt (by decide)) rfl rfl rfl ⟨by decide, by decide⟩ (Nat.le_of_ble_eq_true rfl) (Nat.le_of_ble_eq_true rfl) (Nat.le_of_ble_eq_true rfl) ?_
  refine x_cmpne (pc := 301) 404 dL_holds_301 (by decide) (fun c301 => absurd rfl c301) (fun c301 => ?_)
  refine x_iload_n (pc := 304) dL_holds_304 rfl ?_
  refine x_aload_n (pc := 305) dL_holds_305 rfl ?_
  refine x_iconst (pc := 306) (2) dL_holds_306 (by decide) ?_
  refine t_Vi (pc := 307) (n_2 hG) qV_X3_count mL_L_9 dL_holds_307 rfl cell_bc (nN_lt (by decide)) rfl rfl rfl ⟨by decide, by decide⟩ (Nat.le_of_ble_eq_true rfl) (Nat.le_of_ble_eq_true rfl) (Nat.le_of_ble_eq_true rfl) ?_
  refine x_cmpne (pc := 310) 404 dL_holds_310 (by decide) (fun c310 => absurd rfl c310) (fun c310 => ?_)
  refine x_iload_n (pc := 313) dL_holds_313 rfl ?_
  refine x_iload_n (pc := 314) dL_holds_314 rfl ?_
  refine x_iload_n (pc := 315) dL_holds_315 rfl ?_
  refine x_iadd (pc := 316) dL_holds_316 ?_
  refine x_aload_n (pc := 317) dL_holds_317 rfl ?_
  refine x_iconst (pc := 318) (3) dL_holds_318 (by decide) ?_
  refine t_Vi (pc := 319) (n_3 hG) qV_X3_count mL_L_9 dL_holds_319 rfl cell_bc (nN_lt (by decide)) rfl rfl rfl ⟨by decide, by decide⟩ (Nat.le_of_ble_eq_true rfl) (Nat.le_of_ble_eq_true rfl) (Nat.le_of_ble_eq_true rfl) ?_
  refine x_iadd (pc := 322) dL_holds_322 ?_
  refine x_cmpne (pc := 323) 404 dL_holds_323 (by decide) (fun c323 => absurd (cnt_3 w.1.2.2.2.2 w.1.1 (fun k hk => f5_or (hB.1.sh hk))) c323) (fun c323 => ?_)
  refine x_iload (pc := 326) dL_holds_326 rfl ?_
  refine x_aload_n (pc := 328) dL_holds_328 rfl ?_
  refine x_iconst (pc := 329) (4) dL_holds_329 (by decide) ?_
  refine t_Vi (pc := 330) (n_4 hG) qV_X3_count mL_L_9 dL_holds_330 rfl cell_bc (nN_lt (by decide)) rfl rfl rfl ⟨by decide, by decide⟩ (Nat.le_of_ble_eq_true rfl) (Nat.le_of_ble_eq_true rfl) (Nat.le_of_ble_eq_true rfl) ?_
  refine x_cmpne (pc := 333) 404 dL_holds_333 (by decide) (fun c333 => absurd rfl c333) (fun c333 => ?_)
  refine x_iload (pc := 336) dL_holds_336 rfl ?_
  refine x_iconst (pc := 338) (1) dL_holds_338 (by decide) ?_
  refine x_iload_n (pc := 339) dL_holds_339 rfl ?_
  refine x_ishl (pc := 340) dL_holds_340 ?_
  refine x_iconst (pc := 341) (1) dL_holds_341 (by decide) ?_
  refine x_isub (pc := 342) dL_holds_342 ?_
  refine x_cmpne (pc := 343) 404 dL_holds_343 (by decide) (fun c343 => absurd hB.2.2.1.2.2 c343) (fun c343 => ?_)
  refine x_iload (pc := 346) dL_holds_346 rfl ?_
  refine x_aload_n (pc := 348) dL_holds_348 rfl ?_
  refine x_bipush (pc := 349) (12) dL_holds_349 (by decide) ?_
  refine t_Vi (pc := 351) (n_12 hG) qV_X3_count mL_L_9 dL_holds_351 rfl cell_bc (nN_lt (by decide)) rfl rfl rfl ⟨by decide, by decide⟩ (Nat.le_of_ble_eq_true rfl) (Nat.le_of_ble_eq_true rfl) (Nat.le_of_ble_eq_true rfl) ?_
  refine x_cmpne (pc := 354) 404 dL_holds_354 (by decide) (fun c354 => absurd rfl c354) (fun c354 => ?_)
  refine x_aload_n (pc := 357) dL_holds_357 rfl ?_
  refine x_aload_n (pc := 358) dL_holds_358 rfl ?_
  refine x_bipush (pc := 359) (11) dL_holds_359 (by decide) ?_
  refine t_Vi (pc := 361) (n_11 hG) qV_X3_count mL_L_9 dL_holds_361 rfl cell_bc (nN_lt (by decide)) rfl rfl rfl ⟨by decide, by decide⟩ (Nat.le_of_ble_eq_true rfl) (Nat.le_of_ble_eq_true rfl) (Nat.le_of_ble_eq_true rfl) ?_
  refine t_Vi (pc := 364) (h_q hG h1) qV_X3_heat mL_L_59 dL_holds_364 rfl cell_bc (nN_lt (by decide)) rfl rfl rfl ⟨by decide, by decide⟩ (Nat.le_of_ble_eq_true rfl) (Nat.le_of_ble_eq_true rfl) (Nat.le_of_ble_eq_true rfl) ?_
  refine x_aload_n (pc := 367) dL_holds_367 rfl ?_
  refine x_bipush (pc := 368) (10) dL_holds_368 (by decide) ?_
  refine t_Vi (pc := 370) (n_10 hG) qV_X3_count mL_L_9 dL_holds_370 rfl cell_bc (nN_lt (by decide)) rfl rfl rfl ⟨by decide, by decide⟩ (Nat.le_of_ble_eq_true rfl) (Nat.le_of_ble_eq_true rfl) (Nat.le_of_ble_eq_true rfl) ?_
  refine x_cmpne (pc := 373) 404 dL_holds_373 (by decide) (fun c373 => absurd rfl c373) (fun c373 => ?_)
  refine x_aload_n (pc := 376) dL_holds_376 rfl ?_
  refine t_Vi (pc := 377) (c_X3_best hG) qV_X3_best mL_L_82 dL_holds_377 rfl cell_bc (nN_lt (by decide)) rfl rfl rfl ⟨by decide, by decide⟩ (Nat.le_of_ble_eq_true rfl) (Nat.le_of_ble_eq_true rfl) (Nat.le_of_ble_eq_true rfl) ?_
  refine x_iload (pc := 380) dL_holds_380 rfl ?_
  refine x_cmpne (pc := 382) 404 dL_holds_382 (by decide) (fun c382 => absurd rfl c382) (fun c382 => ?_)
  refine x_aload_n (pc := 385) dL_holds_385 rfl ?_
  refine x_bipush (pc := 386) (9) dL_holds_386 (by decide) ?_
  refine t_Vi (pc := 388) (n_9 hG) qV_X3_count mL_L_9 dL_holds_388 rfl cell_bc (nN_lt (by decide)) rfl rfl rfl ⟨by decide, by decide⟩ (Nat.le_of_ble_eq_true rfl) (Nat.le_of_ble_eq_true rfl) (Nat.le_of_ble_eq_true rfl) ?_
  refine x_aload_n (pc := 391) dL_holds_391 rfl ?_
  refine x_bipush (pc := 392) (8) dL_holds_392 (by decide) ?_
  refine t_Vi (pc := 394) (n_8 hG) qV_X3_count mL_L_9 dL_holds_394 rfl cell_bc (nN_lt (by decide)) rfl rfl rfl ⟨by decide, by decide⟩ (Nat.le_of_ble_eq_true rfl) (Nat.le_of_ble_eq_true rfl) (Nat.le_of_ble_eq_true rfl) ?_
  refine x_cmpgt (pc := 397) 404 dL_holds_397 (by decide) (fun c397 => absurd hB.2.2.2.2.1 (by rw [ti_lt] at c397; omega)) (fun c397 => ?_)
  refine x_iconst (pc := 400) (1) dL_holds_400 (by decide) ?_
  refine x_goto (pc := 401) 405 dL_holds_401 (by decide) ?_
  exact x_zret rfl rfl dL_holds_405 ⟨rfl, rfl, rfl⟩
set_option maxHeartbeats 4000000 in
set_option maxRecDepth 100000 in
theorem e1_holds (hG : GC S B w) (hB : VB t w.1) : XJ G YL_holds (fun _ => True) (Zx G (Rt G (some (.int 1)) S B M) 0 0) 204 [(0, .ref (gB G + 0)), (1, .int (nI w.1.1)), (2, .int (cntN w.1.2.2.2.2 0 w.1.1)), (3, .int (cntN w.1.2.2.2.2 1 w.1.1)), (4, .int (tilN w.1.2.2.2.2 w.1.1)), (5, .int (rnkN w.1.2.2.2.2 w.1.1)), (6, .int (sumN w.1.2.2.1 0)), (7, .int (oV (besO w.1 w.1.1))), (8, .int 1), (9, .int (nI 0))] [] (nN G) (cellOf G S B M) 0 0 := by
  obtain ⟨h1, h2, h3⟩ := hot_A hB.1
  have lp : ∀ q, q ≤ 12 → XJ G YL_holds (fun _ => True) (Zx G (Rt G (some (.int 1)) S B M) 0 0) 204 [(0, .ref (gB G + 0)), (1, .int (nI w.1.1)), (2, .int (cntN w.1.2.2.2.2 0 w.1.1)), (3, .int (cntN w.1.2.2.2.2 1 w.1.1)), (4, .int (tilN w.1.2.2.2.2 w.1.1)), (5, .int (rnkN w.1.2.2.2.2 w.1.1)), (6, .int (sumN w.1.2.2.1 q)), (7, .int (oV (besO w.1 w.1.1))), (8, .int 1), (9, .int (nI q))] [] (nN G) (cellOf G S B M) 0 0 := by
    refine loopD 12 ?_
    intro q hq ih
    refine x_iload (pc := 204) dL_holds_204 rfl ?_
    refine x_bipush (pc := 206) (12) dL_holds_206 (by decide) ?_
    refine x_cmpge (pc := 208) 290 dL_holds_208 (by decide) (fun c208 => ?_) (fun c208 => ?_)
    · obtain rfl : q = 12 := by have := mt (lt_lit (n := 12) rfl (by decide) (by omega)).mpr c208; omega
      exact x_back (e2_holds (G := G) (M := M) hG hB) ⟨rfl, rfl, rfl, rfl, rfl, rfl, rfl, rfl, rfl, trivial⟩
    · have hqn : q < 12 := (lt_lit rfl (by decide) (by omega)).mp c208
      refine x_iload (pc := 211) dL_holds_211 rfl ?_
      refine x_ifeq (pc := 213) 290 dL_holds_213 (by decide) (fun h => absurd h (by decide)) (fun _ => ?_)
      refine x_iload (pc := 216) dL_holds_216 rfl ?_
      refine x_aload_n (pc := 218) dL_holds_218 rfl ?_
      refine x_iload (pc := 219) dL_holds_219 rfl ?_
      refine t_Vi (pc := 221) (h_q hG hqn) qV_X3_heat mL_L_59 dL_holds_221 rfl cell_bc (nN_lt (by decide)) rfl rfl rfl ⟨by decide, by decide⟩ (Nat.le_of_ble_eq_true rfl) (Nat.le_of_ble_eq_true rfl) (Nat.le_of_ble_eq_true rfl) ?_
      refine x_iadd (pc := 224) dL_holds_224 ?_
      refine x_istore (pc := 225) dL_holds_225 (by decide) ?_
      refine x_aload_n (pc := 227) dL_holds_227 rfl ?_
      refine x_iload (pc := 228) dL_holds_228 rfl ?_
      refine t_Vi (pc := 230) (h_q hG hqn) qV_X3_heat mL_L_59 dL_holds_230 rfl cell_bc (nN_lt (by decide)) rfl rfl rfl ⟨by decide, by decide⟩ (Nat.le_of_ble_eq_true rfl) (Nat.le_of_ble_eq_true rfl) (Nat.le_of_ble_eq_true rfl) ?_
      refine x_iflt (pc := 233) 281 dL_holds_233 (by decide) (fun c233 => absurd c233 (ht_0 hB.1 hqn)) (fun c233 => ?_)
      refine x_aload_n (pc := 236) dL_holds_236 rfl ?_
      refine x_iload (pc := 237) dL_holds_237 rfl ?_
      refine t_Vi (pc := 239) (h_q hG hqn) qV_X3_heat mL_L_59 dL_holds_239 rfl cell_bc (nN_lt (by decide)) rfl rfl rfl ⟨by decide, by decide⟩ (Nat.le_of_ble_eq_true rfl) (Nat.le_of_ble_eq_true rfl) (Nat.le_of_ble_eq_true rfl) ?_
      refine x_aload_n (pc := 242) dL_holds_242 rfl ?_
      refine x_bipush (pc := 243) (10) dL_holds_243 (by decide) ?_
      refine t_Vi (pc := 245) (n_10 hG) qV_X3_count mL_L_9 dL_holds_245 rfl cell_bc (nN_lt (by decide)) rfl rfl rfl ⟨by decide, by decide⟩ (Nat.le_of_ble_eq_true rfl) (Nat.le_of_ble_eq_true rfl) (Nat.le_of_ble_eq_true rfl) ?_
      refine x_cmpgt (pc := 248) 281 dL_holds_248 (by decide) (fun c248 => absurd c248 (h2 q hqn)) (fun c248 => ?_)
      refine x_iload (pc := 251) dL_holds_251 rfl ?_
      refine x_aload_n (pc := 253) dL_holds_253 rfl ?_
      refine x_bipush (pc := 254) (11) dL_holds_254 (by decide) ?_
      refine t_Vi (pc := 256) (n_11 hG) qV_X3_count mL_L_9 dL_holds_256 rfl cell_bc (nN_lt (by decide)) rfl rfl rfl ⟨by decide, by decide⟩ (Nat.le_of_ble_eq_true rfl) (Nat.le_of_ble_eq_true rfl) (Nat.le_of_ble_eq_true rfl) ?_
      refine x_cmpge (pc := 259) 277 dL_holds_259 (by decide) (fun c259 => ?_) (fun c259 => ?_)
      · refine x_iconst (pc := 277) (1) dL_holds_277 (by decide) ?_
        refine x_goto (pc := 278) 282 dL_holds_278 (by decide) ?_
        refine x_istore (pc := 282) dL_holds_282 (by decide) ?_
        refine x_iinc (pc := 284) (nI (q + 1)) dL_holds_284 rfl (iinc_nI q) (by decide) ?_
        refine x_goto (pc := 287) 204 dL_holds_287 (by decide) ?_
        exact x_back (ih hqn) ⟨rfl, rfl, rfl, rfl, rfl, rfl, rfl, rfl, rfl, rfl, trivial⟩
      · refine x_aload_n (pc := 262) dL_holds_262 rfl ?_
        refine x_iload (pc := 263) dL_holds_263 rfl ?_
        refine t_Vi (pc := 265) (h_q hG hqn) qV_X3_heat mL_L_59 dL_holds_265 rfl cell_bc (nN_lt (by decide)) rfl rfl rfl ⟨by decide, by decide⟩ (Nat.le_of_ble_eq_true rfl) (Nat.le_of_ble_eq_true rfl) (Nat.le_of_ble_eq_true rfl) ?_
        refine x_aload_n (pc := 268) dL_holds_268 rfl ?_
        refine x_bipush (pc := 269) (10) dL_holds_269 (by decide) ?_
        refine t_Vi (pc := 271) (n_10 hG) qV_X3_count mL_L_9 dL_holds_271 rfl cell_bc (nN_lt (by decide)) rfl rfl rfl ⟨by decide, by decide⟩ (Nat.le_of_ble_eq_true rfl) (Nat.le_of_ble_eq_true rfl) (Nat.le_of_ble_eq_true rfl) ?_
        refine x_cmpge (pc := 274) 281 dL_holds_274 (by decide) (fun c274 => absurd (h3 q ((nI_ltI (by omega) (by omega)).mp c259)) c274) (fun c274 => ?_)
        refine x_iconst (pc := 277) (1) dL_holds_277 (by decide) ?_
        refine x_goto (pc := 278) 282 dL_holds_278 (by decide) ?_
        refine x_istore (pc := 282) dL_holds_282 (by decide) ?_
        refine x_iinc (pc := 284) (nI (q + 1)) dL_holds_284 rfl (iinc_nI q) (by decide) ?_
        refine x_goto (pc := 287) 204 dL_holds_287 (by decide) ?_
        exact x_back (ih hqn) ⟨rfl, rfl, rfl, rfl, rfl, rfl, rfl, rfl, rfl, rfl, trivial⟩
  exact lp 0 (by decide)
set_option maxHeartbeats 4000000 in
set_option maxRecDepth 100000 in
theorem lp_holds (hG : GC S B w) (hB : VB t w.1) : ∀ m, m ≤ w.1.1 → ∀ (x2 x3 x4 x5 : Int32) (f : Option Nat), x2 + cntN w.1.2.2.2.2 0 m = cntN w.1.2.2.2.2 0 w.1.1 → x3 + cntN w.1.2.2.2.2 1 m = cntN w.1.2.2.2.2 1 w.1.1 → x4 + tilN w.1.2.2.2.2 m = tilN w.1.2.2.2.2 w.1.1 → x5 ||| rnkN w.1.2.2.2.2 m = rnkN w.1.2.2.2.2 w.1.1 → besD w.1 m f = besO w.1 w.1.1 → (∀ q, f = some q → q < w.1.1 ∧ whyV w.1 q = 0) → XJ G YL_holds (fun _ => True) (Zx G (Rt G (some (.int 1)) S B M) 0 0) 55 [(0, .ref (gB G + 0)), (1, .int (nI w.1.1)), (2, .int x2), (3, .int x3), (4, .int x4), (5, .int x5), (6, .int 0), (7, .int (oV f)), (8, .int 1), (9, .int (nI m - 1))] [] (nN G) (cellOf G S B M) 0 0
  | 0, _ => by
    intro x2 x3 x4 x5 f i2 i3 i4 i5 ib iq
    have i2 : x2 = cntN w.1.2.2.2.2 0 w.1.1 := by rw [← i2]; exact (Int32.add_zero _).symm
    have i3 : x3 = cntN w.1.2.2.2.2 1 w.1.1 := by rw [← i3]; exact (Int32.add_zero _).symm
    have i4 : x4 = tilN w.1.2.2.2.2 w.1.1 := by rw [← i4]; exact (Int32.add_zero _).symm
    have i5 : x5 = rnkN w.1.2.2.2.2 w.1.1 := by rw [← i5]; exact Int32.or_zero.symm
    have ib : f = besO w.1 w.1.1 := ib
    subst i2 i3 i4 i5 ib
    refine x_iload (pc := 55) dL_holds_55 rfl ?_
    refine x_iflt (pc := 57) 201 dL_holds_57 (by decide) (fun c57 => ?_) (fun c57 => absurd (show nI 0 - 1 < 0 by decide) c57)
    refine x_iconst (pc := 201) (0) dL_holds_201 (by decide) ?_
    refine x_istore (pc := 202) dL_holds_202 (by decide) ?_
    exact x_back (e1_holds (G := G) (M := M) hG hB) ⟨rfl, rfl, rfl, rfl, rfl, rfl, rfl, rfl, rfl, rfl, trivial⟩
  | k + 1, hm => by
    intro x2 x3 x4 x5 f i2 i3 i4 i5 ib iq
    have hk : k < w.1.1 := hm
    have ih := lp_holds hG hB k (by omega)
    have h12 := hB.1.le
    rw [dn_s]
    have e155 : ∀ (x2 x3 x4 x5 : Int32), x2 + cntN w.1.2.2.2.2 0 k = cntN w.1.2.2.2.2 0 w.1.1 → x3 + cntN w.1.2.2.2.2 1 k = cntN w.1.2.2.2.2 1 w.1.1 → x4 + tilN w.1.2.2.2.2 k = tilN w.1.2.2.2.2 w.1.1 → x5 ||| rnkN w.1.2.2.2.2 k = rnkN w.1.2.2.2.2 w.1.1 → XJ G YL_holds (fun _ => True) (Zx G (Rt G (some (.int 1)) S B M) 0 0) 155 [(0, .ref (gB G + 0)), (1, .int (nI w.1.1)), (2, .int x2), (3, .int x3), (4, .int x4), (5, .int x5), (6, .int 0), (7, .int (oV f)), (8, .int 1), (9, .int (nI k))] [] (nN G) (cellOf G S B M) 0 0 := by
      intro x2 x3 x4 x5 i2 i3 i4 i5
      rcases f with _ | q
      · refine x_aload_n (pc := 155) dL_holds_155 rfl ?_
        refine x_iload (pc := 156) dL_holds_156 rfl ?_
        refine t_Vi (pc := 158) (r_k hG hk) qV_X3_reason mL_L_69 dL_holds_158 rfl cell_bc (nN_lt (by decide)) rfl rfl rfl ⟨by decide, by decide⟩ (Nat.le_of_ble_eq_true rfl) (Nat.le_of_ble_eq_true rfl) (Nat.le_of_ble_eq_true rfl) ?_
        refine x_ifne (pc := 161) 191 dL_holds_161 (by decide) (fun c161 => ?_) (fun c161 => ?_)
        · refine x_iload (pc := 191) dL_holds_191 rfl ?_
          refine x_istore (pc := 193) dL_holds_193 (by decide) ?_
          refine x_iinc (pc := 195) (nI k - 1) dL_holds_195 rfl (dn_i k) (by decide) ?_
          refine x_goto (pc := 198) 55 dL_holds_198 (by decide) ?_
          rw [bes_s (b := false) (by simp only [c161, decide_false, Bool.false_and])] at ib
          exact x_back (ih x2 x3 x4 x5 (none) i2 i3 i4 i5 ib iq) ⟨rfl, rfl, rfl, rfl, rfl, rfl, rfl, rfl, rfl, rfl, trivial⟩
        · refine x_iload (pc := 164) dL_holds_164 rfl ?_
          refine x_bipush (pc := 166) (-5) dL_holds_166 (by decide) ?_
          refine x_cmpeq (pc := 168) 186 dL_holds_168 (by decide) (fun c168 => ?_) (fun c168 => absurd rfl c168)
          refine x_iload (pc := 186) dL_holds_186 rfl ?_
          refine x_goto (pc := 188) 193 dL_holds_188 (by decide) ?_
          refine x_istore (pc := 193) dL_holds_193 (by decide) ?_
          refine x_iinc (pc := 195) (nI k - 1) dL_holds_195 rfl (dn_i k) (by decide) ?_
          refine x_goto (pc := 198) 55 dL_holds_198 (by decide) ?_
          rw [bes_s (b := true) (by rw [c161]; rfl)] at ib
          exact x_back (ih x2 x3 x4 x5 (some k) i2 i3 i4 i5 ib (fun q hq => by cases hq; exact ⟨hk, c161⟩)) ⟨rfl, rfl, rfl, rfl, rfl, rfl, rfl, rfl, rfl, rfl, trivial⟩
      · refine x_aload_n (pc := 155) dL_holds_155 rfl ?_
        refine x_iload (pc := 156) dL_holds_156 rfl ?_
        refine t_Vi (pc := 158) (r_k hG hk) qV_X3_reason mL_L_69 dL_holds_158 rfl cell_bc (nN_lt (by decide)) rfl rfl rfl ⟨by decide, by decide⟩ (Nat.le_of_ble_eq_true rfl) (Nat.le_of_ble_eq_true rfl) (Nat.le_of_ble_eq_true rfl) ?_
        refine x_ifne (pc := 161) 191 dL_holds_161 (by decide) (fun c161 => ?_) (fun c161 => ?_)
        · refine x_iload (pc := 191) dL_holds_191 rfl ?_
          refine x_istore (pc := 193) dL_holds_193 (by decide) ?_
          refine x_iinc (pc := 195) (nI k - 1) dL_holds_195 rfl (dn_i k) (by decide) ?_
          refine x_goto (pc := 198) 55 dL_holds_198 (by decide) ?_
          rw [bes_s (b := false) (by simp only [c161, decide_false, Bool.false_and])] at ib
          exact x_back (ih x2 x3 x4 x5 (some q) i2 i3 i4 i5 ib iq) ⟨rfl, rfl, rfl, rfl, rfl, rfl, rfl, rfl, rfl, rfl, trivial⟩
        · refine x_iload (pc := 164) dL_holds_164 rfl ?_
          refine x_bipush (pc := 166) (-5) dL_holds_166 (by decide) ?_
          refine x_cmpeq (pc := 168) 186 dL_holds_168 (by decide) (fun c168 => absurd c168 (nI_ne5 (by have := (iq q rfl).1; omega))) (fun c168 => ?_)
          refine x_aload_n (pc := 171) dL_holds_171 rfl ?_
          refine x_iload (pc := 172) dL_holds_172 rfl ?_
          refine t_Vi (pc := 174) (t_k hG hk) qV_X3_takes mL_L_72 dL_holds_174 rfl cell_bc (nN_lt (by decide)) rfl rfl rfl ⟨by decide, by decide⟩ (Nat.le_of_ble_eq_true rfl) (Nat.le_of_ble_eq_true rfl) (Nat.le_of_ble_eq_true rfl) ?_
          refine x_aload_n (pc := 177) dL_holds_177 rfl ?_
          refine x_iload (pc := 178) dL_holds_178 rfl ?_
          refine t_Vi (pc := 180) (t_k hG (iq q rfl).1) qV_X3_takes mL_L_72 dL_holds_180 rfl cell_bc (nN_lt (by decide)) rfl rfl rfl ⟨by decide, by decide⟩ (Nat.le_of_ble_eq_true rfl) (Nat.le_of_ble_eq_true rfl) (Nat.le_of_ble_eq_true rfl) ?_
          refine x_cmpgt (pc := 183) 191 dL_holds_183 (by decide) (fun c183 => ?_) (fun c183 => ?_)
          · refine x_iload (pc := 191) dL_holds_191 rfl ?_
            refine x_istore (pc := 193) dL_holds_193 (by decide) ?_
            refine x_iinc (pc := 195) (nI k - 1) dL_holds_195 rfl (dn_i k) (by decide) ?_
            refine x_goto (pc := 198) 55 dL_holds_198 (by decide) ?_
            rw [bes_s (b := false) (by simp only [tk_tc hB.1 hk c161, tk_tc hB.1 (iq q rfl).1 (iq q rfl).2, c183, decide_true, Bool.not_true, Bool.and_false])] at ib
            exact x_back (ih x2 x3 x4 x5 (some q) i2 i3 i4 i5 ib iq) ⟨rfl, rfl, rfl, rfl, rfl, rfl, rfl, rfl, rfl, rfl, trivial⟩
          · refine x_iload (pc := 186) dL_holds_186 rfl ?_
            refine x_goto (pc := 188) 193 dL_holds_188 (by decide) ?_
            refine x_istore (pc := 193) dL_holds_193 (by decide) ?_
            refine x_iinc (pc := 195) (nI k - 1) dL_holds_195 rfl (dn_i k) (by decide) ?_
            refine x_goto (pc := 198) 55 dL_holds_198 (by decide) ?_
            rw [bes_s (b := true) (by simp only [tk_tc hB.1 hk c161, tk_tc hB.1 (iq q rfl).1 (iq q rfl).2, c183, decide_false, Bool.not_false, Bool.and_true]; exact decide_eq_true c161)] at ib
            exact x_back (ih x2 x3 x4 x5 (some k) i2 i3 i4 i5 ib (fun q hq => by cases hq; exact ⟨hk, c161⟩)) ⟨rfl, rfl, rfl, rfl, rfl, rfl, rfl, rfl, rfl, rfl, trivial⟩
    refine x_iload (pc := 55) dL_holds_55 rfl ?_
    refine x_iflt (pc := 57) 201 dL_holds_57 (by decide) (fun c57 => absurd c57 (nI_pos (by omega))) (fun c57 => ?_)
    refine x_iload (pc := 60) dL_holds_60 rfl ?_
    refine x_ifeq (pc := 62) 201 dL_holds_62 (by decide) (fun h => absurd h (by decide)) (fun _ => ?_)
    refine x_aload_n (pc := 65) dL_holds_65 rfl ?_
    refine x_iload (pc := 66) dL_holds_66 rfl ?_
    refine t_Si (pc := 68) (l_isShape hG hB.1 hB.2.1 hB.2.2.1 hk) qS_L_isShape mL_L_78 dL_holds_68 rfl rfl rfl ⟨by decide, by decide⟩ (Nat.le_of_ble_eq_true rfl) (Nat.le_of_ble_eq_true rfl) (Nat.le_of_ble_eq_true rfl) ?_
    refine x_istore (pc := 71) dL_holds_71 (by decide) ?_
    refine x_iload_n (pc := 73) dL_holds_73 rfl ?_
    refine x_aload_n (pc := 74) dL_holds_74 rfl ?_
    refine x_iload (pc := 75) dL_holds_75 rfl ?_
    refine x_iconst (pc := 77) (5) dL_holds_77 (by decide) ?_
    refine t_Vi (pc := 78) (s_5 hG hk) qV_X3_shape mL_L_45 dL_holds_78 rfl cell_bc (nN_lt (by decide)) rfl rfl rfl ⟨by decide, by decide⟩ (Nat.le_of_ble_eq_true rfl) (Nat.le_of_ble_eq_true rfl) (Nat.le_of_ble_eq_true rfl) ?_
    refine x_ifne (pc := 81) 88 dL_holds_81 (by decide) (fun c81 => ?_) (fun c81 => ?_)
    · refine x_iconst (pc := 88) (0) dL_holds_88 (by decide) ?_
      refine x_iadd (pc := 89) dL_holds_89 ?_
      refine x_istore_n (pc := 90) dL_holds_90 (by decide) ?_
      refine x_iload_n (pc := 91) dL_holds_91 rfl ?_
      refine x_aload_n (pc := 92) dL_holds_92 rfl ?_
      refine x_iload (pc := 93) dL_holds_93 rfl ?_
      refine x_iconst (pc := 95) (5) dL_holds_95 (by decide) ?_
      refine t_Vi (pc := 96) (s_5 hG hk) qV_X3_shape mL_L_45 dL_holds_96 rfl cell_bc (nN_lt (by decide)) rfl rfl rfl ⟨by decide, by decide⟩ (Nat.le_of_ble_eq_true rfl) (Nat.le_of_ble_eq_true rfl) (Nat.le_of_ble_eq_true rfl) ?_
      refine x_iconst (pc := 99) (1) dL_holds_99 (by decide) ?_
      refine x_cmpne (pc := 100) 107 dL_holds_100 (by decide) (fun c100 => ?_) (fun c100 => ?_)
      · refine x_iconst (pc := 107) (0) dL_holds_107 (by decide) ?_
        refine x_iadd (pc := 108) dL_holds_108 ?_
        refine x_istore_n (pc := 109) dL_holds_109 (by decide) ?_
        refine x_iload (pc := 110) dL_holds_110 rfl ?_
        refine x_aload_n (pc := 112) dL_holds_112 rfl ?_
        refine x_iload (pc := 113) dL_holds_113 rfl ?_
        refine x_bipush (pc := 115) (9) dL_holds_115 (by decide) ?_
        refine t_Vi (pc := 117) (s_9 hG hk) qV_X3_shape mL_L_45 dL_holds_117 rfl cell_bc (nN_lt (by decide)) rfl rfl rfl ⟨by decide, by decide⟩ (Nat.le_of_ble_eq_true rfl) (Nat.le_of_ble_eq_true rfl) (Nat.le_of_ble_eq_true rfl) ?_
        refine x_iadd (pc := 120) dL_holds_120 ?_
        refine x_istore (pc := 121) dL_holds_121 (by decide) ?_
        refine x_iload (pc := 123) dL_holds_123 rfl ?_
        refine x_aload_n (pc := 125) dL_holds_125 rfl ?_
        refine x_iload (pc := 126) dL_holds_126 rfl ?_
        refine x_bipush (pc := 128) (10) dL_holds_128 (by decide) ?_
        refine t_Vi (pc := 130) (s_10 hG hk) qV_X3_shape mL_L_45 dL_holds_130 rfl cell_bc (nN_lt (by decide)) rfl rfl rfl ⟨by decide, by decide⟩ (Nat.le_of_ble_eq_true rfl) (Nat.le_of_ble_eq_true rfl) (Nat.le_of_ble_eq_true rfl) ?_
        refine x_bipush (pc := 133) (-5) dL_holds_133 (by decide) ?_
        refine x_cmpne (pc := 135) 142 dL_holds_135 (by decide) (fun c135 => ?_) (fun c135 => ?_)
        · refine x_iconst (pc := 142) (1) dL_holds_142 (by decide) ?_
          refine x_aload_n (pc := 143) dL_holds_143 rfl ?_
          refine x_iload (pc := 144) dL_holds_144 rfl ?_
          refine x_bipush (pc := 146) (10) dL_holds_146 (by decide) ?_
          refine t_Vi (pc := 148) (s_10 hG hk) qV_X3_shape mL_L_45 dL_holds_148 rfl cell_bc (nN_lt (by decide)) rfl rfl rfl ⟨by decide, by decide⟩ (Nat.le_of_ble_eq_true rfl) (Nat.le_of_ble_eq_true rfl) (Nat.le_of_ble_eq_true rfl) ?_
          refine x_ishl (pc := 151) dL_holds_151 ?_
          refine x_ior (pc := 152) dL_holds_152 ?_
          refine x_istore (pc := 153) dL_holds_153 (by decide) ?_
          exact x_back (e155 _ _ _ _ (by simp only [cntN, if_neg c81] at i2; rw [ac_0]; exact i2) (by simp only [cntN, if_neg c100] at i3; rw [ac_0]; exact i3) (by simp only [tilN] at i4; rw [ac_v]; exact i4) (by simp only [rnkN, rbV, if_neg c135] at i5; rw [ac_o]; exact i5)) ⟨rfl, rfl, rfl, rfl, rfl, rfl, rfl, rfl, rfl, rfl, trivial⟩
        · refine x_iconst (pc := 138) (0) dL_holds_138 (by decide) ?_
          refine x_goto (pc := 139) 152 dL_holds_139 (by decide) ?_
          refine x_ior (pc := 152) dL_holds_152 ?_
          refine x_istore (pc := 153) dL_holds_153 (by decide) ?_
          exact x_back (e155 _ _ _ _ (by simp only [cntN, if_neg c81] at i2; rw [ac_0]; exact i2) (by simp only [cntN, if_neg c100] at i3; rw [ac_0]; exact i3) (by simp only [tilN] at i4; rw [ac_v]; exact i4) (by simp only [rnkN, rbV, if_pos c135] at i5; rw [ac_o]; exact i5)) ⟨rfl, rfl, rfl, rfl, rfl, rfl, rfl, rfl, rfl, rfl, trivial⟩
      · refine x_iconst (pc := 103) (1) dL_holds_103 (by decide) ?_
        refine x_goto (pc := 104) 108 dL_holds_104 (by decide) ?_
        refine x_iadd (pc := 108) dL_holds_108 ?_
        refine x_istore_n (pc := 109) dL_holds_109 (by decide) ?_
        refine x_iload (pc := 110) dL_holds_110 rfl ?_
        refine x_aload_n (pc := 112) dL_holds_112 rfl ?_
        refine x_iload (pc := 113) dL_holds_113 rfl ?_
        refine x_bipush (pc := 115) (9) dL_holds_115 (by decide) ?_
        refine t_Vi (pc := 117) (s_9 hG hk) qV_X3_shape mL_L_45 dL_holds_117 rfl cell_bc (nN_lt (by decide)) rfl rfl rfl ⟨by decide, by decide⟩ (Nat.le_of_ble_eq_true rfl) (Nat.le_of_ble_eq_true rfl) (Nat.le_of_ble_eq_true rfl) ?_
        refine x_iadd (pc := 120) dL_holds_120 ?_
        refine x_istore (pc := 121) dL_holds_121 (by decide) ?_
        refine x_iload (pc := 123) dL_holds_123 rfl ?_
        refine x_aload_n (pc := 125) dL_holds_125 rfl ?_
        refine x_iload (pc := 126) dL_holds_126 rfl ?_
        refine x_bipush (pc := 128) (10) dL_holds_128 (by decide) ?_
        refine t_Vi (pc := 130) (s_10 hG hk) qV_X3_shape mL_L_45 dL_holds_130 rfl cell_bc (nN_lt (by decide)) rfl rfl rfl ⟨by decide, by decide⟩ (Nat.le_of_ble_eq_true rfl) (Nat.le_of_ble_eq_true rfl) (Nat.le_of_ble_eq_true rfl) ?_
        refine x_bipush (pc := 133) (-5) dL_holds_133 (by decide) ?_
        refine x_cmpne (pc := 135) 142 dL_holds_135 (by decide) (fun c135 => ?_) (fun c135 => ?_)
        · refine x_iconst (pc := 142) (1) dL_holds_142 (by decide) ?_
          refine x_aload_n (pc := 143) dL_holds_143 rfl ?_
          refine x_iload (pc := 144) dL_holds_144 rfl ?_
          refine x_bipush (pc := 146) (10) dL_holds_146 (by decide) ?_
          refine t_Vi (pc := 148) (s_10 hG hk) qV_X3_shape mL_L_45 dL_holds_148 rfl cell_bc (nN_lt (by decide)) rfl rfl rfl ⟨by decide, by decide⟩ (Nat.le_of_ble_eq_true rfl) (Nat.le_of_ble_eq_true rfl) (Nat.le_of_ble_eq_true rfl) ?_
          refine x_ishl (pc := 151) dL_holds_151 ?_
          refine x_ior (pc := 152) dL_holds_152 ?_
          refine x_istore (pc := 153) dL_holds_153 (by decide) ?_
          exact x_back (e155 _ _ _ _ (by simp only [cntN, if_neg c81] at i2; rw [ac_0]; exact i2) (by simp only [cntN, if_pos c100] at i3; rw [ac_1]; exact i3) (by simp only [tilN] at i4; rw [ac_v]; exact i4) (by simp only [rnkN, rbV, if_neg c135] at i5; rw [ac_o]; exact i5)) ⟨rfl, rfl, rfl, rfl, rfl, rfl, rfl, rfl, rfl, rfl, trivial⟩
        · refine x_iconst (pc := 138) (0) dL_holds_138 (by decide) ?_
          refine x_goto (pc := 139) 152 dL_holds_139 (by decide) ?_
          refine x_ior (pc := 152) dL_holds_152 ?_
          refine x_istore (pc := 153) dL_holds_153 (by decide) ?_
          exact x_back (e155 _ _ _ _ (by simp only [cntN, if_neg c81] at i2; rw [ac_0]; exact i2) (by simp only [cntN, if_pos c100] at i3; rw [ac_1]; exact i3) (by simp only [tilN] at i4; rw [ac_v]; exact i4) (by simp only [rnkN, rbV, if_pos c135] at i5; rw [ac_o]; exact i5)) ⟨rfl, rfl, rfl, rfl, rfl, rfl, rfl, rfl, rfl, rfl, trivial⟩
    · refine x_iconst (pc := 84) (1) dL_holds_84 (by decide) ?_
      refine x_goto (pc := 85) 89 dL_holds_85 (by decide) ?_
      refine x_iadd (pc := 89) dL_holds_89 ?_
      refine x_istore_n (pc := 90) dL_holds_90 (by decide) ?_
      refine x_iload_n (pc := 91) dL_holds_91 rfl ?_
      refine x_aload_n (pc := 92) dL_holds_92 rfl ?_
      refine x_iload (pc := 93) dL_holds_93 rfl ?_
      refine x_iconst (pc := 95) (5) dL_holds_95 (by decide) ?_
      refine t_Vi (pc := 96) (s_5 hG hk) qV_X3_shape mL_L_45 dL_holds_96 rfl cell_bc (nN_lt (by decide)) rfl rfl rfl ⟨by decide, by decide⟩ (Nat.le_of_ble_eq_true rfl) (Nat.le_of_ble_eq_true rfl) (Nat.le_of_ble_eq_true rfl) ?_
      refine x_iconst (pc := 99) (1) dL_holds_99 (by decide) ?_
      refine x_cmpne (pc := 100) 107 dL_holds_100 (by decide) (fun c100 => ?_) (fun c100 => ?_)
      · refine x_iconst (pc := 107) (0) dL_holds_107 (by decide) ?_
        refine x_iadd (pc := 108) dL_holds_108 ?_
        refine x_istore_n (pc := 109) dL_holds_109 (by decide) ?_
        refine x_iload (pc := 110) dL_holds_110 rfl ?_
        refine x_aload_n (pc := 112) dL_holds_112 rfl ?_
        refine x_iload (pc := 113) dL_holds_113 rfl ?_
        refine x_bipush (pc := 115) (9) dL_holds_115 (by decide) ?_
        refine t_Vi (pc := 117) (s_9 hG hk) qV_X3_shape mL_L_45 dL_holds_117 rfl cell_bc (nN_lt (by decide)) rfl rfl rfl ⟨by decide, by decide⟩ (Nat.le_of_ble_eq_true rfl) (Nat.le_of_ble_eq_true rfl) (Nat.le_of_ble_eq_true rfl) ?_
        refine x_iadd (pc := 120) dL_holds_120 ?_
        refine x_istore (pc := 121) dL_holds_121 (by decide) ?_
        refine x_iload (pc := 123) dL_holds_123 rfl ?_
        refine x_aload_n (pc := 125) dL_holds_125 rfl ?_
        refine x_iload (pc := 126) dL_holds_126 rfl ?_
        refine x_bipush (pc := 128) (10) dL_holds_128 (by decide) ?_
        refine t_Vi (pc := 130) (s_10 hG hk) qV_X3_shape mL_L_45 dL_holds_130 rfl cell_bc (nN_lt (by decide)) rfl rfl rfl ⟨by decide, by decide⟩ (Nat.le_of_ble_eq_true rfl) (Nat.le_of_ble_eq_true rfl) (Nat.le_of_ble_eq_true rfl) ?_
        refine x_bipush (pc := 133) (-5) dL_holds_133 (by decide) ?_
        refine x_cmpne (pc := 135) 142 dL_holds_135 (by decide) (fun c135 => ?_) (fun c135 => ?_)
        · refine x_iconst (pc := 142) (1) dL_holds_142 (by decide) ?_
          refine x_aload_n (pc := 143) dL_holds_143 rfl ?_
          refine x_iload (pc := 144) dL_holds_144 rfl ?_
          refine x_bipush (pc := 146) (10) dL_holds_146 (by decide) ?_
          refine t_Vi (pc := 148) (s_10 hG hk) qV_X3_shape mL_L_45 dL_holds_148 rfl cell_bc (nN_lt (by decide)) rfl rfl rfl ⟨by decide, by decide⟩ (Nat.le_of_ble_eq_true rfl) (Nat.le_of_ble_eq_true rfl) (Nat.le_of_ble_eq_true rfl) ?_
          refine x_ishl (pc := 151) dL_holds_151 ?_
          refine x_ior (pc := 152) dL_holds_152 ?_
          refine x_istore (pc := 153) dL_holds_153 (by decide) ?_
          exact x_back (e155 _ _ _ _ (by simp only [cntN, if_pos c81] at i2; rw [ac_1]; exact i2) (by simp only [cntN, if_neg c100] at i3; rw [ac_0]; exact i3) (by simp only [tilN] at i4; rw [ac_v]; exact i4) (by simp only [rnkN, rbV, if_neg c135] at i5; rw [ac_o]; exact i5)) ⟨rfl, rfl, rfl, rfl, rfl, rfl, rfl, rfl, rfl, rfl, trivial⟩
        · refine x_iconst (pc := 138) (0) dL_holds_138 (by decide) ?_
          refine x_goto (pc := 139) 152 dL_holds_139 (by decide) ?_
          refine x_ior (pc := 152) dL_holds_152 ?_
          refine x_istore (pc := 153) dL_holds_153 (by decide) ?_
          exact x_back (e155 _ _ _ _ (by simp only [cntN, if_pos c81] at i2; rw [ac_1]; exact i2) (by simp only [cntN, if_neg c100] at i3; rw [ac_0]; exact i3) (by simp only [tilN] at i4; rw [ac_v]; exact i4) (by simp only [rnkN, rbV, if_pos c135] at i5; rw [ac_o]; exact i5)) ⟨rfl, rfl, rfl, rfl, rfl, rfl, rfl, rfl, rfl, rfl, trivial⟩
      · refine x_iconst (pc := 103) (1) dL_holds_103 (by decide) ?_
        refine x_goto (pc := 104) 108 dL_holds_104 (by decide) ?_
        refine x_iadd (pc := 108) dL_holds_108 ?_
        refine x_istore_n (pc := 109) dL_holds_109 (by decide) ?_
        refine x_iload (pc := 110) dL_holds_110 rfl ?_
        refine x_aload_n (pc := 112) dL_holds_112 rfl ?_
        refine x_iload (pc := 113) dL_holds_113 rfl ?_
        refine x_bipush (pc := 115) (9) dL_holds_115 (by decide) ?_
        refine t_Vi (pc := 117) (s_9 hG hk) qV_X3_shape mL_L_45 dL_holds_117 rfl cell_bc (nN_lt (by decide)) rfl rfl rfl ⟨by decide, by decide⟩ (Nat.le_of_ble_eq_true rfl) (Nat.le_of_ble_eq_true rfl) (Nat.le_of_ble_eq_true rfl) ?_
        refine x_iadd (pc := 120) dL_holds_120 ?_
        refine x_istore (pc := 121) dL_holds_121 (by decide) ?_
        refine x_iload (pc := 123) dL_holds_123 rfl ?_
        refine x_aload_n (pc := 125) dL_holds_125 rfl ?_
        refine x_iload (pc := 126) dL_holds_126 rfl ?_
        refine x_bipush (pc := 128) (10) dL_holds_128 (by decide) ?_
        refine t_Vi (pc := 130) (s_10 hG hk) qV_X3_shape mL_L_45 dL_holds_130 rfl cell_bc (nN_lt (by decide)) rfl rfl rfl ⟨by decide, by decide⟩ (Nat.le_of_ble_eq_true rfl) (Nat.le_of_ble_eq_true rfl) (Nat.le_of_ble_eq_true rfl) ?_
        refine x_bipush (pc := 133) (-5) dL_holds_133 (by decide) ?_
        refine x_cmpne (pc := 135) 142 dL_holds_135 (by decide) (fun c135 => ?_) (fun c135 => ?_)
        · refine x_iconst (pc := 142) (1) dL_holds_142 (by decide) ?_
          refine x_aload_n (pc := 143) dL_holds_143 rfl ?_
          refine x_iload (pc := 144) dL_holds_144 rfl ?_
          refine x_bipush (pc := 146) (10) dL_holds_146 (by decide) ?_
          refine t_Vi (pc := 148) (s_10 hG hk) qV_X3_shape mL_L_45 dL_holds_148 rfl cell_bc (nN_lt (by decide)) rfl rfl rfl ⟨by decide, by decide⟩ (Nat.le_of_ble_eq_true rfl) (Nat.le_of_ble_eq_true rfl) (Nat.le_of_ble_eq_true rfl) ?_
          refine x_ishl (pc := 151) dL_holds_151 ?_
          refine x_ior (pc := 152) dL_holds_152 ?_
          refine x_istore (pc := 153) dL_holds_153 (by decide) ?_
          exact x_back (e155 _ _ _ _ (by simp only [cntN, if_pos c81] at i2; rw [ac_1]; exact i2) (by simp only [cntN, if_pos c100] at i3; rw [ac_1]; exact i3) (by simp only [tilN] at i4; rw [ac_v]; exact i4) (by simp only [rnkN, rbV, if_neg c135] at i5; rw [ac_o]; exact i5)) ⟨rfl, rfl, rfl, rfl, rfl, rfl, rfl, rfl, rfl, rfl, trivial⟩
        · refine x_iconst (pc := 138) (0) dL_holds_138 (by decide) ?_
          refine x_goto (pc := 139) 152 dL_holds_139 (by decide) ?_
          refine x_ior (pc := 152) dL_holds_152 ?_
          refine x_istore (pc := 153) dL_holds_153 (by decide) ?_
          exact x_back (e155 _ _ _ _ (by simp only [cntN, if_pos c81] at i2; rw [ac_1]; exact i2) (by simp only [cntN, if_pos c100] at i3; rw [ac_1]; exact i3) (by simp only [tilN] at i4; rw [ac_v]; exact i4) (by simp only [rnkN, rbV, if_pos c135] at i5; rw [ac_o]; exact i5)) ⟨rfl, rfl, rfl, rfl, rfl, rfl, rfl, rfl, rfl, rfl, trivial⟩
set_option maxHeartbeats 4000000 in
set_option maxRecDepth 100000 in
theorem w_holds (hG : GC S B w) (hB : VB t w.1) : Ct G yL_holds YL_holds 0 0 [.ref (gB G + 0)] (nN G) (cellOf G S B M) (Rt G (some (.int 1)) S B M) := by
  refine ct_of (by decide +kernel) rfl rfl (Nat.le_of_ble_eq_true rfl) (by simp [Value.category]) ?_
  refine x_sub (l' := [(0, .ref (gB G + 0))]) ⟨rfl, trivial⟩ ?_
  have e := lp_holds (G := G) (M := M) hG hB w.1.1 (Nat.le_refl _) 0 0 0 0 none (Int32.zero_add _) (Int32.zero_add _) (Int32.zero_add _) Int32.zero_or (besD_eq hB.1) (fun q hq => by cases hq)
  refine x_aload_n (pc := 0) dL_holds_0 rfl ?_
  refine x_iconst (pc := 1) (0) dL_holds_1 (by decide) ?_
  refine t_Vi (pc := 2) (n_0 hG) qV_X3_count mL_L_9 dL_holds_2 rfl cell_bc (nN_lt (by decide)) rfl rfl rfl ⟨by decide, by decide⟩ (Nat.le_of_ble_eq_true rfl) (Nat.le_of_ble_eq_true rfl) (Nat.le_of_ble_eq_true rfl) ?_
  refine x_istore_n (pc := 5) dL_holds_5 (by decide) ?_
  refine x_iconst (pc := 6) (0) dL_holds_6 (by decide) ?_
  refine x_istore_n (pc := 7) dL_holds_7 (by decide) ?_
  refine x_iconst (pc := 8) (0) dL_holds_8 (by decide) ?_
  refine x_istore_n (pc := 9) dL_holds_9 (by decide) ?_
  refine x_iconst (pc := 10) (0) dL_holds_10 (by decide) ?_
  refine x_istore (pc := 11) dL_holds_11 (by decide) ?_
  refine x_iconst (pc := 13) (0) dL_holds_13 (by decide) ?_
  refine x_istore (pc := 14) dL_holds_14 (by decide) ?_
  refine x_iconst (pc := 16) (0) dL_holds_16 (by decide) ?_
  refine x_istore (pc := 17) dL_holds_17 (by decide) ?_
  refine x_bipush (pc := 19) (-5) dL_holds_19 (by decide) ?_
  refine x_istore (pc := 21) dL_holds_21 (by decide) ?_
  refine x_aload_n (pc := 23) dL_holds_23 rfl ?_
  refine x_iload_n (pc := 24) dL_holds_24 rfl ?_
  refine x_iconst (pc := 25) (0) dL_holds_25 (by decide) ?_
  refine t_Vi (pc := 26) (s_u hG) qV_X3_shape mL_L_45 dL_holds_26 rfl cell_bc (nN_lt (by decide)) rfl rfl rfl ⟨by decide, by decide⟩ (Nat.le_of_ble_eq_true rfl) (Nat.le_of_ble_eq_true rfl) (Nat.le_of_ble_eq_true rfl) ?_
  refine x_iconst (pc := 29) (-1) dL_holds_29 (by decide) ?_
  refine x_cmpne (pc := 30) 47 dL_holds_30 (by decide) (fun c30 => absurd rfl c30) (fun c30 => ?_)
  refine x_aload_n (pc := 33) dL_holds_33 rfl ?_
  refine x_bipush (pc := 34) (12) dL_holds_34 (by decide) ?_
  refine t_Vi (pc := 36) (h_12 hG) qV_X3_heat mL_L_59 dL_holds_36 rfl cell_bc (nN_lt (by decide)) rfl rfl rfl ⟨by decide, by decide⟩ (Nat.le_of_ble_eq_true rfl) (Nat.le_of_ble_eq_true rfl) (Nat.le_of_ble_eq_true rfl) ?_
  refine x_iconst (pc := 39) (-1) dL_holds_39 (by decide) ?_
  refine x_cmpne (pc := 40) 47 dL_holds_40 (by decide) (fun c40 => absurd rfl c40) (fun c40 => ?_)
  refine x_iconst (pc := 43) (1) dL_holds_43 (by decide) ?_
  refine x_goto (pc := 44) 48 dL_holds_44 (by decide) ?_
  refine x_istore (pc := 48) dL_holds_48 (by decide) ?_
  refine x_iload_n (pc := 50) dL_holds_50 rfl ?_
  refine x_iconst (pc := 51) (1) dL_holds_51 (by decide) ?_
  refine x_isub (pc := 52) dL_holds_52 ?_
  refine x_istore (pc := 53) dL_holds_53 (by decide) ?_
  exact x_back e ⟨rfl, rfl, rfl, rfl, rfl, rfl, rfl, rfl, rfl, rfl, trivial⟩
end HOLDS
