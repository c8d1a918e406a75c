/-! the law: goesThrough (rows laid by wip/p25/p36.py) -/
section ARR
variable {G : GX} {S : Nat → Sh} {B : Bc} {M : Md} {f : Fs}
/-- the cell of the array that is made last -/
def arC (G : GX) : Nat := 247 + (gx G - 1)
def MA (G : GX) (M : Md) (f : Fs) : Md := fun o => if o = arC G then .inl (gI G, 12, .inl f) else M o
theorem ma_lt (hx : 1 ≤ gx G) : arC G < nN G := by unfold arC nN; omega
theorem cell_ge {o : Nat} (ho : 247 ≤ o) : cellOf G S B M o = M o := by
  unfold cellOf
  rw [if_neg (by omega), if_neg (by omega), if_neg (by omega), if_neg (by omega), if_neg (by omega), if_neg (by omega), if_neg (by omega), if_neg (by omega), if_neg (by omega)]
theorem cell_le {M' : Md} {o : Nat} (ho : o < 247) : cellOf G S B M o = cellOf G S B M' o := by
  unfold cellOf
  by_cases h0 : o = 0
  · rw [if_pos h0, if_pos h0]
  by_cases h1 : o < 121
  · rw [if_neg h0, if_neg h0, if_pos h1, if_pos h1]
  by_cases h2 : o = 121
  · rw [if_neg h0, if_neg h0, if_neg h1, if_neg h1, if_pos h2, if_pos h2]
  by_cases h3 : o < 242
  · rw [if_neg h0, if_neg h0, if_neg h1, if_neg h1, if_neg h2, if_neg h2, if_pos h3, if_pos h3]
  rw [if_neg h0, if_neg h0, if_neg h1, if_neg h1, if_neg h2, if_neg h2, if_neg h3, if_neg h3]
  rcases (show o = 242 ∨ o = 243 ∨ o = 244 ∨ o = 245 ∨ o = 246 by omega) with e | e | e | e | e <;> subst e <;> rfl
theorem ma_cell (hx : 1 ≤ gx G) : cellOf G S B (MA G M f) (arC G) = .inl (gI G, 12, .inl f) := by
  rw [cell_ge (by unfold arC; omega)]
  unfold MA
  rw [if_pos rfl]
theorem ma_ne {o : Nat} {g : Fs} (h : o ≠ arC G) : cellOf G S B (MA G M f) o = cellOf G S B (MA G M g) o := by
  by_cases a : o < 247
  · exact cell_le a
  · rw [cell_ge (by omega), cell_ge (by omega)]
    unfold MA
    rw [if_neg h, if_neg h]
theorem t_stArr {y : YX} {E : State → Prop} {Z : ZX} {pc : Nat} {l : List (Nat × Value)} {stk : List Value} {ck sk : Nat} (hx : 1 ≤ gx G) (k : Nat) (hk : k < 12) {ix v : Int32} (hix : ix = nI k) (hd : decode y.1 pc = .ok (.iastore, 1)) (kk : XJ G y E Z (pc + 1) l stk (nN G) (cellOf G S B (MA G M (upd f k v))) ck sk) : XJ G y E Z pc l (.int v :: .int ix :: .ref (gB G + arC G) :: stk) (nN G) (cellOf G S B (MA G M f)) ck sk := by
  refine x_iast (ma_cell hx) (ma_lt hx) (in_of hix hk (by decide)) hd _ ?_ kk
  intro o' ho'
  by_cases h : o' = arC G
  · subst h
    rw [if_pos rfl, cl_of hix hk (by decide), ma_cell hx]
  · rw [if_neg h]
    exact ma_ne h
theorem up_XJ {y : YX} {E : State → Prop} {r : Option Value → Nat → (Nat → va_E) → Prop} {mc ms pc : Nat} {l : List (Nat × Value)} {stk : List Value} {n : Nat} {cs : Nat → va_E} {ck sk : Nat} (h : XJ (upG G) y E (Zx (upG G) r mc ms) pc l stk n cs ck sk) : XJ G y E (Zx G r mc ms) pc l stk n cs ck sk := h
theorem up_Z {y : YX} {E : State → Prop} {Z : ZX} {pc : Nat} {l : List (Nat × Value)} {stk : List Value} {n : Nat} {cs : Nat → va_E} {ck sk : Nat} (h : XJ (upG G) y E Z pc l stk n cs ck sk) : XJ G y E Z pc l stk n cs ck sk := h
end ARR
section GOES
variable {G : GX} {S : Nat → Sh} {B : Bc} {M : Md} {w : Wt} {k m : Nat} {t : Int} {arr : Fs}
/-- what going through leaves -/
def GtP (G : GX) (t : Int) : Option Value → Nat → (Nat → va_E) → Prop := fun v n cs => ∃ (S : Nat → Sh) (B : Bc) (M : Md) (w : Wt), v = some (.int 1) ∧ n = nN G ∧ cs = cellOf G S B M ∧ GC S B w ∧ VB (t + 24000) w.1
theorem ordX_m {A : Ab} {m : Nat} (h : m < 12) : ordX A (nI m) = ordV A m := by
  unfold ordX
  rw [if_neg (nI_pos (by omega)), if_pos (by rw [show (12 : Int32) = nI 12 from rfl, nI_ltI (by omega) (by omega)]; exact h), nI_clamp (by omega)]
set_option maxHeartbeats 4000000 in
set_option maxRecDepth 100000 in
theorem e3_goes (hx : 1 ≤ gx G) (hB : VB t w.1) (ht : t + 24000 ≤ 900000) (hm : m ≤ 12) (ho : ordK w.1 m) (he : m = 12 ∨ ordV w.1 m = -5) {w' : Wt} (hG : GC S B w') (hw : w'.1 = stA w.1 m) : XJ G YL_goesThrough (fun _ => True) (Zx G (GtP G t) 1 12) 229 [(0, .ref (gB G + 0)), (2, .int (allX w.1)), (4, .int (w.1.2.1 4)), (6, .int 1)] [] (nN G) (cellOf G S B (MA G M arr)) 1 12 := by
  have hE : VB (t + 24000) w'.1 := by rw [hw]; exact (st_VB hB ht m hm).1.mono (by omega)
  rcases all_take hB ht hm ho he with ⟨d1, d2, d3⟩ | ⟨d1, d2⟩
  · refine x_iload (pc := 229) dL_goesThrough_229 rfl ?_
    refine x_ifeq (pc := 231) 276 dL_goesThrough_231 (by decide) (fun h => absurd h (by decide)) (fun _ => ?_)
    refine x_iload_n (pc := 234) dL_goesThrough_234 rfl ?_
    refine x_bipush (pc := 235) (-5) dL_goesThrough_235 (by decide) ?_
    refine x_cmpne (pc := 237) 251 dL_goesThrough_237 (by decide) (fun c237 => ?_) (fun c237 => absurd c237 d2)
    refine x_aload_n (pc := 251) dL_goesThrough_251 rfl ?_
    refine x_iconst (pc := 252) (1) dL_goesThrough_252 (by decide) ?_
    refine t_Vi (pc := 253) (n_1 hG) qV_X3_count mL_L_9 dL_goesThrough_253 rfl cell_bc (nN_lt (by decide)) rfl rfl rfl ⟨by decide, by decide⟩ (Nat.le_of_ble_eq_true rfl) (Nat.le_of_ble_eq_true rfl) (Nat.le_of_ble_eq_true rfl) ?_
    refine x_ifne (pc := 256) 276 dL_goesThrough_256 (by decide) (fun c256 => absurd (by rw [hw]; exact d1) c256) (fun c256 => ?_)
    refine x_aload_n (pc := 259) dL_goesThrough_259 rfl ?_
    refine x_bipush (pc := 260) (8) dL_goesThrough_260 (by decide) ?_
    refine t_Vi (pc := 262) (n_8 hG) qV_X3_count mL_L_9 dL_goesThrough_262 rfl cell_bc (nN_lt (by decide)) rfl rfl rfl ⟨by decide, by decide⟩ (Nat.le_of_ble_eq_true rfl) (Nat.le_of_ble_eq_true rfl) (Nat.le_of_ble_eq_true rfl) ?_
    refine x_iload (pc := 265) dL_goesThrough_265 rfl ?_
    refine x_iload_n (pc := 267) dL_goesThrough_267 rfl ?_
    refine x_iadd (pc := 268) dL_goesThrough_268 ?_
    refine x_cmpne (pc := 269) 276 dL_goesThrough_269 (by decide) (fun c269 => absurd (by rw [hw]; exact d3) c269) (fun c269 => ?_)
    refine x_iconst (pc := 272) (1) dL_goesThrough_272 (by decide) ?_
    refine x_goto (pc := 273) 277 dL_goesThrough_273 (by decide) ?_
    exact x_zret rfl rfl dL_goesThrough_277 ⟨_, _, _, _, rfl, rfl, rfl, hG, hE⟩
  · refine x_iload (pc := 229) dL_goesThrough_229 rfl ?_
    refine x_ifeq (pc := 231) 276 dL_goesThrough_231 (by decide) (fun h => absurd h (by decide)) (fun _ => ?_)
    refine x_iload_n (pc := 234) dL_goesThrough_234 rfl ?_
    refine x_bipush (pc := 235) (-5) dL_goesThrough_235 (by decide) ?_
    refine x_cmpne (pc := 237) 251 dL_goesThrough_237 (by decide) (fun c237 => absurd d2 c237) (fun c237 => ?_)
    refine x_aload_n (pc := 240) dL_goesThrough_240 rfl ?_
    refine x_iconst (pc := 241) (1) dL_goesThrough_241 (by decide) ?_
    refine t_Vi (pc := 242) (n_1 hG) qV_X3_count mL_L_9 dL_goesThrough_242 rfl cell_bc (nN_lt (by decide)) rfl rfl rfl ⟨by decide, by decide⟩ (Nat.le_of_ble_eq_true rfl) (Nat.le_of_ble_eq_true rfl) (Nat.le_of_ble_eq_true rfl) ?_
    refine x_ifle (pc := 245) 276 dL_goesThrough_245 (by decide) (fun c245 => absurd (by rw [hw]; exact d1) c245) (fun c245 => ?_)
    refine x_goto (pc := 248) 272 dL_goesThrough_248 (by decide) ?_
    refine x_iconst (pc := 272) (1) dL_goesThrough_272 (by decide) ?_
    refine x_goto (pc := 273) 277 dL_goesThrough_273 (by decide) ?_
    exact x_zret rfl rfl dL_goesThrough_277 ⟨_, _, _, _, rfl, rfl, rfl, hG, hE⟩
set_option maxHeartbeats 4000000 in
set_option maxRecDepth 100000 in
theorem e2_goes (hx : 1 ≤ gx G) (hB : VB t w.1) (ht : t + 24000 ≤ 900000) (hm : m ≤ 12) (ho : ordK w.1 m) (he : m = 12 ∨ ordV w.1 m = -5) (ha : ∀ j, j < m → arr j = ordV w.1 j) : ∀ (d k : Nat) (S : Nat → Sh) (B : Bc) (w' : Wt), k + d = m → GC S B w' → w'.1 = stA w.1 k → XJ G YL_goesThrough (fun _ => True) (Zx G (GtP G t) 1 12) 73 [(0, .ref (gB G + 0)), (2, .int (allX w.1)), (3, .int (nI m)), (4, .int (w.1.2.1 4)), (5, .ref (gB G + arC G)), (6, .int 1), (7, .int (nI k))] [] (nN G) (cellOf G S B (MA G M arr)) 1 12
  | 0, k, S, B, w', hd, hG, hw => by
    obtain rfl : k = m := by omega
    refine x_iload (pc := 73) dL_goesThrough_73 rfl ?_
    refine x_iload_n (pc := 75) dL_goesThrough_75 rfl ?_
    refine x_cmpge (pc := 76) 229 dL_goesThrough_76 (by decide) (fun c76 => ?_) (fun c76 => absurd c76 (fun z => Int32.lt_irrefl z))
    exact x_back (e3_goes (G := G) (M := M) hx hB ht hm ho he hG hw) ⟨rfl, rfl, rfl, rfl, trivial⟩
  | d + 1, k, S, B, w', hd, hG, hw => by
    have hk : k < m := by omega
    have ih := e2_goes hx hB ht hm ho he ha d (k + 1)
    have hak := ha k hk
    obtain ⟨v1, v2, v3⟩ := st_VB hB ht k (by omega)
    have e0 := (ord_st k (fun j hj => ho j (by omega))).1 0
    rw [Nat.add_zero] at e0
    have e1 : ordV w.1 k = oV (nextX (stA w.1 k)).1 := e0
    have h12 := v1.1.le
    rcases next_cases v1.1 with ⟨q, h1, h2, h3, h4⟩ | h4 | ⟨h0, q, f, hf, h2, h3, h4, h5, h6⟩
    · rw [e1, h4] at hak
      have hak : arr k = nI q := hak
      obtain ⟨x1, x2⟩ := cut_X v1.1 h2 h3
      have hb : oV (besO w'.1 w'.1.1) = nI q := by rw [hw, h1]; rfl
      have cc := c_X3_cut (G := G) (M := MA G M arr) hG (nI q)
      rw [hw, x1] at cc
      refine x_iload (pc := 73) dL_goesThrough_73 rfl ?_
      refine x_iload_n (pc := 75) dL_goesThrough_75 rfl ?_
      refine x_cmpge (pc := 76) 229 dL_goesThrough_76 (by decide) (fun c76 => absurd ((nI_ltI (by omega) (by omega)).mpr hk) c76) (fun c76 => ?_)
      refine x_iload (pc := 79) dL_goesThrough_79 rfl ?_
      refine x_ifeq (pc := 81) 229 dL_goesThrough_81 (by decide) (fun h => absurd h (by decide)) (fun _ => ?_)
      refine x_aload_n (pc := 84) dL_goesThrough_84 rfl ?_
      refine t_Vi (pc := 85) (ct_ans (c_X3_best hG) hb) qV_X3_best mL_L_82 dL_goesThrough_85 rfl cell_bc (nN_lt (by decide)) rfl rfl rfl ⟨by decide, by decide⟩ (Nat.le_of_ble_eq_true rfl) (Nat.le_of_ble_eq_true rfl) (Nat.le_of_ble_eq_true rfl) ?_
      refine x_bipush (pc := 88) (-5) dL_goesThrough_88 (by decide) ?_
      refine x_cmpeq (pc := 90) 115 dL_goesThrough_90 (by decide) (fun c90 => absurd c90 (nI_ne5 (by omega))) (fun c90 => ?_)
      refine x_aload_n (pc := 93) dL_goesThrough_93 rfl ?_
      refine t_Vi (pc := 94) (ct_ans (c_X3_best hG) hb) qV_X3_best mL_L_82 dL_goesThrough_94 rfl cell_bc (nN_lt (by decide)) rfl rfl rfl ⟨by decide, by decide⟩ (Nat.le_of_ble_eq_true rfl) (Nat.le_of_ble_eq_true rfl) (Nat.le_of_ble_eq_true rfl) ?_
      refine x_aload (pc := 97) dL_goesThrough_97 rfl ?_
      refine x_iload (pc := 99) dL_goesThrough_99 rfl ?_
      refine t_ild (pc := 101) k (ma_cell hx) (ma_lt hx) rfl (by omega) (by decide) dL_goesThrough_101 ?_
      try dsimp only
      rw [hak]
      refine x_cmpne (pc := 102) 109 dL_goesThrough_102 (by decide) (fun c102 => absurd rfl c102) (fun c102 => ?_)
      refine x_iconst (pc := 105) (1) dL_goesThrough_105 (by decide) ?_
      refine x_goto (pc := 106) 110 dL_goesThrough_106 (by decide) ?_
      refine x_istore (pc := 110) dL_goesThrough_110 (by decide) ?_
      refine x_goto (pc := 112) 187 dL_goesThrough_112 (by decide) ?_
      refine x_iload (pc := 187) dL_goesThrough_187 rfl ?_
      refine x_ifeq (pc := 189) 220 dL_goesThrough_189 (by decide) (fun h => absurd h (by decide)) (fun _ => ?_)
      refine x_aload_n (pc := 192) dL_goesThrough_192 rfl ?_
      refine t_Vi (pc := 193) (ct_ans (c_X3_best hG) hb) qV_X3_best mL_L_82 dL_goesThrough_193 rfl cell_bc (nN_lt (by decide)) rfl rfl rfl ⟨by decide, by decide⟩ (Nat.le_of_ble_eq_true rfl) (Nat.le_of_ble_eq_true rfl) (Nat.le_of_ble_eq_true rfl) ?_
      refine x_aload (pc := 196) dL_goesThrough_196 rfl ?_
      refine x_iload (pc := 198) dL_goesThrough_198 rfl ?_
      refine t_ild (pc := 200) k (ma_cell hx) (ma_lt hx) rfl (by omega) (by decide) dL_goesThrough_200 ?_
      try dsimp only
      rw [hak]
      refine x_cmpne (pc := 201) 220 dL_goesThrough_201 (by decide) (fun c201 => absurd rfl c201) (fun c201 => ?_)
      refine x_aload_n (pc := 204) dL_goesThrough_204 rfl ?_
      refine x_aload (pc := 205) dL_goesThrough_205 rfl ?_
      refine x_iload (pc := 207) dL_goesThrough_207 rfl ?_
      refine t_ild (pc := 209) k (ma_cell hx) (ma_lt hx) rfl (by omega) (by decide) dL_goesThrough_209 ?_
      try dsimp only
      rw [hak]
      refine e_Vi (pc := 210) (cc) qV_X3_cut mL_L_29 dL_goesThrough_210 rfl cell_bc (nN_lt (by decide)) rfl rfl rfl ⟨by decide, by decide⟩ (Nat.le_of_ble_eq_true rfl) (Nat.le_of_ble_eq_true rfl) (Nat.le_of_ble_eq_true rfl) ?_
      intro a q1
      obtain ⟨S1, B1⟩ := a
      dsimp only at q1 ⊢
      refine x_iflt (pc := 213) 220 dL_goesThrough_213 (by decide) (fun c213 => absurd c213 x2) (fun c213 => ?_)
      refine x_iconst (pc := 216) (1) dL_goesThrough_216 (by decide) ?_
      refine x_goto (pc := 217) 221 dL_goesThrough_217 (by decide) ?_
      refine x_istore (pc := 221) dL_goesThrough_221 (by decide) ?_
      refine x_iinc (pc := 223) (nI (k + 1)) dL_goesThrough_223 rfl (iinc_nI k) (by decide) ?_
      refine x_goto (pc := 226) 73 dL_goesThrough_226 (by decide) ?_
      exact x_back (ih S1 B1 _ (by omega) q1 (by show cutA (stA w.1 k) q = (nextX (stA w.1 k)).2; rw [h4])) ⟨rfl, rfl, rfl, rfl, rfl, rfl, rfl, trivial⟩
    · exfalso
      have h5 := ho k hk
      rw [e1, h4] at h5
      exact h5 rfl
    · rw [e1, h6] at hak
      have hak : arr k = nI q := hak
      have hC := VB_cool v1 (by omega) (f_9 h2)
      obtain ⟨x1, x2⟩ := cut_X hC.1 h3 h5
      obtain ⟨y1, y2⟩ := wait_X v1.1 (x := f) ⟨h2.1, by have := h2.2; omega⟩
      have hb : oV (besO w'.1 w'.1.1) = -5 := by rw [hw, h0]; rfl
      have hkc : kcV w'.1 q = f := by rw [hw, hf]
      have hq : q < w'.1.1 := by rw [hw]; exact h3
      have f0 : 0 < f := by rw [ti_lt, t0]; have := h2.1; omega
      have f9 : f < 999 := by rw [ti_lt, show (999 : Int32).toInt = 999 from rfl]; have := h2.2; omega
      have f8 : ¬ 0 < f + -999 := by
        have e9 : (-999 : Int32).toInt = -999 := rfl
        obtain ⟨g1, g2⟩ := h2
        rw [ti_lt, t0, ti_add (by rw [e9]; omega) (by rw [e9]; omega), e9]
        omega
      have cd := c_X3_pause (G := G) (M := MA G M arr) hG f
      rw [hw, y1] at cd
      refine x_iload (pc := 73) dL_goesThrough_73 rfl ?_
      refine x_iload_n (pc := 75) dL_goesThrough_75 rfl ?_
      refine x_cmpge (pc := 76) 229 dL_goesThrough_76 (by decide) (fun c76 => absurd ((nI_ltI (by omega) (by omega)).mpr hk) c76) (fun c76 => ?_)
      refine x_iload (pc := 79) dL_goesThrough_79 rfl ?_
      refine x_ifeq (pc := 81) 229 dL_goesThrough_81 (by decide) (fun h => absurd h (by decide)) (fun _ => ?_)
      refine x_aload_n (pc := 84) dL_goesThrough_84 rfl ?_
      refine t_Vi (pc := 85) (ct_ans (c_X3_best hG) hb) qV_X3_best mL_L_82 dL_goesThrough_85 rfl cell_bc (nN_lt (by decide)) rfl rfl rfl ⟨by decide, by decide⟩ (Nat.le_of_ble_eq_true rfl) (Nat.le_of_ble_eq_true rfl) (Nat.le_of_ble_eq_true rfl) ?_
      refine x_bipush (pc := 88) (-5) dL_goesThrough_88 (by decide) ?_
      refine x_cmpeq (pc := 90) 115 dL_goesThrough_90 (by decide) (fun c90 => ?_) (fun c90 => absurd rfl c90)
      refine x_aload_n (pc := 115) dL_goesThrough_115 rfl ?_
      refine x_aload (pc := 116) dL_goesThrough_116 rfl ?_
      refine x_iload (pc := 118) dL_goesThrough_118 rfl ?_
      refine t_ild (pc := 120) k (ma_cell hx) (ma_lt hx) rfl (by omega) (by decide) dL_goesThrough_120 ?_
      try dsimp only
      rw [hak]
      refine t_Vi (pc := 121) (ct_ans (k_k hG hq) hkc) qV_X3_coolsIn mL_L_75 dL_goesThrough_121 rfl cell_bc (nN_lt (by decide)) rfl rfl rfl ⟨by decide, by decide⟩ (Nat.le_of_ble_eq_true rfl) (Nat.le_of_ble_eq_true rfl) (Nat.le_of_ble_eq_true rfl) ?_
      refine x_istore (pc := 124) dL_goesThrough_124 (by decide) ?_
      refine x_iload (pc := 126) dL_goesThrough_126 rfl ?_
      refine x_ifle (pc := 128) 135 dL_goesThrough_128 (by decide) (fun c128 => absurd f0 c128) (fun c128 => ?_)
      refine x_iconst (pc := 131) (1) dL_goesThrough_131 (by decide) ?_
      refine x_goto (pc := 132) 136 dL_goesThrough_132 (by decide) ?_
      refine x_istore (pc := 136) dL_goesThrough_136 (by decide) ?_
      refine x_iload (pc := 138) dL_goesThrough_138 rfl ?_
      refine x_ifeq (pc := 140) 187 dL_goesThrough_140 (by decide) (fun h => absurd h (by decide)) (fun _ => ?_)
      refine x_iload (pc := 143) dL_goesThrough_143 rfl ?_
      refine x_ifle (pc := 145) 187 dL_goesThrough_145 (by decide) (fun c145 => absurd f0 c145) (fun c145 => ?_)
      refine x_aload_n (pc := 148) dL_goesThrough_148 rfl ?_
      refine x_iload (pc := 149) dL_goesThrough_149 rfl ?_
      refine x_sipush (pc := 151) (999) dL_goesThrough_151 (by decide) ?_
      refine x_cmpge (pc := 154) 162 dL_goesThrough_154 (by decide) (fun c154 => absurd f9 c154) (fun c154 => ?_)
      refine x_iload (pc := 157) dL_goesThrough_157 rfl ?_
      refine x_goto (pc := 159) 165 dL_goesThrough_159 (by decide) ?_
      refine e_Vi (pc := 165) (cd) qV_X3_pause mL_L_35 dL_goesThrough_165 rfl cell_bc (nN_lt (by decide)) rfl rfl rfl ⟨by decide, by decide⟩ (Nat.le_of_ble_eq_true rfl) (Nat.le_of_ble_eq_true rfl) (Nat.le_of_ble_eq_true rfl) ?_
      intro a q1
      obtain ⟨S1, B1⟩ := a
      dsimp only at q1 ⊢
      refine x_iflt (pc := 168) 175 dL_goesThrough_168 (by decide) (fun c168 => absurd c168 y2) (fun c168 => ?_)
      refine x_iconst (pc := 171) (1) dL_goesThrough_171 (by decide) ?_
      refine x_goto (pc := 172) 176 dL_goesThrough_172 (by decide) ?_
      refine x_istore (pc := 176) dL_goesThrough_176 (by decide) ?_
      refine x_iincW (pc := 178) (_ + (-999)) dL_goesThrough_178 rfl rfl (by decide) ?_
      refine x_goto (pc := 184) 138 dL_goesThrough_184 (by decide) ?_
      refine x_iload (pc := 138) dL_goesThrough_138 rfl ?_
      refine x_ifeq (pc := 140) 187 dL_goesThrough_140 (by decide) (fun h => absurd h (by decide)) (fun _ => ?_)
      refine x_iload (pc := 143) dL_goesThrough_143 rfl ?_
      refine x_ifle (pc := 145) 187 dL_goesThrough_145 (by decide) (fun c145 => ?_) (fun c145 => absurd c145 f8)
      refine x_iload (pc := 187) dL_goesThrough_187 rfl ?_
      refine x_ifeq (pc := 189) 220 dL_goesThrough_189 (by decide) (fun h => absurd h (by decide)) (fun _ => ?_)
      have cc := c_X3_cut (G := G) (M := MA G M arr) q1 (nI q)
      rw [show cutX (recX w' (grV (coolA (stA w.1 k) f), coolA (stA w.1 k) f)).2.1 (nI q) = _ from x1] at cc
      refine x_aload_n (pc := 192) dL_goesThrough_192 rfl ?_
      refine t_Vi (pc := 193) (ct_ans (v' := nI q) (c_X3_best q1) (congrArg oV h4)) qV_X3_best mL_L_82 dL_goesThrough_193 rfl cell_bc (nN_lt (by decide)) rfl rfl rfl ⟨by decide, by decide⟩ (Nat.le_of_ble_eq_true rfl) (Nat.le_of_ble_eq_true rfl) (Nat.le_of_ble_eq_true rfl) ?_
      refine x_aload (pc := 196) dL_goesThrough_196 rfl ?_
      refine x_iload (pc := 198) dL_goesThrough_198 rfl ?_
      refine t_ild (pc := 200) k (ma_cell hx) (ma_lt hx) rfl (by omega) (by decide) dL_goesThrough_200 ?_
      try dsimp only
      rw [hak]
      refine x_cmpne (pc := 201) 220 dL_goesThrough_201 (by decide) (fun c201 => absurd rfl c201) (fun c201 => ?_)
      refine x_aload_n (pc := 204) dL_goesThrough_204 rfl ?_
      refine x_aload (pc := 205) dL_goesThrough_205 rfl ?_
      refine x_iload (pc := 207) dL_goesThrough_207 rfl ?_
      refine t_ild (pc := 209) k (ma_cell hx) (ma_lt hx) rfl (by omega) (by decide) dL_goesThrough_209 ?_
      try dsimp only
      rw [hak]
      refine e_Vi (pc := 210) (cc) qV_X3_cut mL_L_29 dL_goesThrough_210 rfl cell_bc (nN_lt (by decide)) rfl rfl rfl ⟨by decide, by decide⟩ (Nat.le_of_ble_eq_true rfl) (Nat.le_of_ble_eq_true rfl) (Nat.le_of_ble_eq_true rfl) ?_
      intro a q2
      obtain ⟨S2, B2⟩ := a
      dsimp only at q2 ⊢
      refine x_iflt (pc := 213) 220 dL_goesThrough_213 (by decide) (fun c213 => absurd c213 x2) (fun c213 => ?_)
      refine x_iconst (pc := 216) (1) dL_goesThrough_216 (by decide) ?_
      refine x_goto (pc := 217) 221 dL_goesThrough_217 (by decide) ?_
      refine x_istore (pc := 221) dL_goesThrough_221 (by decide) ?_
      refine x_iinc (pc := 223) (nI (k + 1)) dL_goesThrough_223 rfl (iinc_nI k) (by decide) ?_
      refine x_goto (pc := 226) 73 dL_goesThrough_226 (by decide) ?_
      exact x_back (ih S2 B2 _ (by omega) q2 (by show cutA (coolA (stA w.1 k) f) q = (nextX (stA w.1 k)).2; rw [h6])) ⟨rfl, rfl, rfl, rfl, rfl, rfl, rfl, trivial⟩
set_option maxHeartbeats 4000000 in
set_option maxRecDepth 100000 in
theorem e1_goes (hx : 1 ≤ gx G) (hB : VB t w.1) (ht : t + 24000 ≤ 900000) (hm : m ≤ 12) (ho : ordK w.1 m) (he : m = 12 ∨ ordV w.1 m = -5) (hG : GC S B w) (ha : ∀ j, j < m → arr j = ordV w.1 j) : XJ G YL_goesThrough (fun _ => True) (Zx G (GtP G t) 1 12) 58 [(0, .ref (gB G + 0)), (1, .int (cntN w.1.2.2.2.2 0 w.1.1)), (2, .int (allX w.1)), (3, .int (nI m)), (4, .int (w.1.2.1 4)), (5, .ref (gB G + arC G))] [] (nN G) (cellOf G S B (MA G M arr)) 1 12 := by
  refine x_iload_n (pc := 58) dL_goesThrough_58 rfl ?_
  refine x_iload_n (pc := 59) dL_goesThrough_59 rfl ?_
  refine x_cmpgt (pc := 60) 67 dL_goesThrough_60 (by decide) (fun c60 => absurd c60 (st_many hB ht hm ho)) (fun c60 => ?_)
  refine x_iconst (pc := 63) (1) dL_goesThrough_63 (by decide) ?_
  refine x_goto (pc := 64) 68 dL_goesThrough_64 (by decide) ?_
  refine x_istore (pc := 68) dL_goesThrough_68 (by decide) ?_
  refine x_iconst (pc := 70) (0) dL_goesThrough_70 (by decide) ?_
  refine x_istore (pc := 71) dL_goesThrough_71 (by decide) ?_
  exact x_back (e2_goes (G := G) (M := M) hx hB ht hm ho he ha m 0 S B w (by omega) hG rfl) ⟨rfl, rfl, rfl, rfl, rfl, rfl, rfl, trivial⟩
set_option maxHeartbeats 4000000 in
set_option maxRecDepth 100000 in
theorem e0_goes (hx : 1 ≤ gx G) (hB : VB t w.1) (ht : t + 24000 ≤ 900000) : ∀ (d m : Nat) (S : Nat → Sh) (B : Bc) (arr : Fs), m + d = 12 → GC S B w → ordK w.1 m → (∀ j, j < m → arr j = ordV w.1 j) → XJ G YL_goesThrough (fun _ => True) (Zx G (GtP G t) 1 12) 27 [(0, .ref (gB G + 0)), (1, .int (cntN w.1.2.2.2.2 0 w.1.1)), (2, .int (allX w.1)), (3, .int (nI m)), (4, .int (w.1.2.1 4)), (5, .ref (gB G + arC G))] [] (nN G) (cellOf G S B (MA G M arr)) 1 12
  | 0, m, S, B, arr, hd, hG, ho, ha => by
    obtain rfl : m = 12 := by omega
    refine x_iload_n (pc := 27) dL_goesThrough_27 rfl ?_
    refine x_bipush (pc := 28) (12) dL_goesThrough_28 (by decide) ?_
    refine x_cmpge (pc := 30) 58 dL_goesThrough_30 (by decide) (fun c30 => ?_) (fun c30 => absurd c30 (fun z => Int32.lt_irrefl z))
    exact x_back (e1_goes (G := G) (M := M) hx hB ht (by omega) ho (Or.inl rfl) hG ha) ⟨rfl, rfl, rfl, rfl, rfl, rfl, trivial⟩
  | d + 1, m, S, B, arr, hd, hG, ho, ha => by
    have hm : m < 12 := by omega
    have ih := e0_goes hx hB ht d (m + 1)
    have co := c_X3_ordered (G := G) (M := MA G M arr) hG (nI m)
    rw [ordX_m hm] at co
    refine x_iload_n (pc := 27) dL_goesThrough_27 rfl ?_
    refine x_bipush (pc := 28) (12) dL_goesThrough_28 (by decide) ?_
    refine x_cmpge (pc := 30) 58 dL_goesThrough_30 (by decide) (fun c30 => absurd (show nI m < nI 12 from (nI_ltI (by omega) (by omega)).mpr hm) c30) (fun c30 => ?_)
    refine x_aload_n (pc := 33) dL_goesThrough_33 rfl ?_
    refine x_iload_n (pc := 34) dL_goesThrough_34 rfl ?_
    refine e_Vi (pc := 35) (co) qV_X3_ordered mL_L_91 dL_goesThrough_35 rfl cell_bc (nN_lt (by decide)) rfl rfl rfl ⟨by decide, by decide⟩ (Nat.le_of_ble_eq_true rfl) (Nat.le_of_ble_eq_true rfl) (Nat.le_of_ble_eq_true rfl) ?_
    intro a q1
    obtain ⟨S1, B1⟩ := a
    dsimp only at q1 ⊢
    refine x_bipush (pc := 38) (-5) dL_goesThrough_38 (by decide) ?_
    refine x_cmpeq (pc := 40) 58 dL_goesThrough_40 (by decide) (fun c40 => ?_) (fun c40 => ?_)
    · exact x_back (e1_goes (G := G) (M := M) hx hB ht (by omega) ho (Or.inr c40) q1 ha) ⟨rfl, rfl, rfl, rfl, rfl, rfl, trivial⟩
    · have cp := c_X3_ordered (G := G) (M := MA G M arr) q1 (nI m)
      rw [ordX_m hm] at cp
      refine x_aload (pc := 43) dL_goesThrough_43 rfl ?_
      refine x_iload_n (pc := 45) dL_goesThrough_45 rfl ?_
      refine x_aload_n (pc := 46) dL_goesThrough_46 rfl ?_
      refine x_iload_n (pc := 47) dL_goesThrough_47 rfl ?_
      refine e_Vi (pc := 48) (cp) qV_X3_ordered mL_L_91 dL_goesThrough_48 rfl cell_bc (nN_lt (by decide)) rfl rfl rfl ⟨by decide, by decide⟩ (Nat.le_of_ble_eq_true rfl) (Nat.le_of_ble_eq_true rfl) (Nat.le_of_ble_eq_true rfl) ?_
      intro a q2
      obtain ⟨S2, B2⟩ := a
      dsimp only at q2 ⊢
      refine t_stArr (pc := 51) hx m hm rfl dL_goesThrough_51 ?_
      try dsimp only
      refine x_iinc (pc := 52) (nI (m + 1)) dL_goesThrough_52 rfl (iinc_nI m) (by decide) ?_
      refine x_goto (pc := 55) 27 dL_goesThrough_55 (by decide) ?_
      have ho2 : ordK w.1 (m + 1) := fun j hj => by
        rcases Nat.lt_succ_iff_lt_or_eq.mp hj with e | e
        · exact ho j e
        · rw [e]; exact c40
      have ha2 : ∀ j, j < m + 1 → upd arr m (ordV w.1 m) j = ordV w.1 j := fun j hj => by
        rcases Nat.lt_succ_iff_lt_or_eq.mp hj with e | e
        · rw [upd_ne _ _ (by omega)]; exact ha j e
        · rw [e, upd_same]
      exact x_back (ih S2 B2 (upd arr m (ordV w.1 m)) (by omega) q2 ho2 ha2) ⟨rfl, rfl, rfl, rfl, rfl, rfl, trivial⟩
set_option maxHeartbeats 4000000 in
set_option maxRecDepth 100000 in
theorem w_goesThrough (hG : GC S B w) (hB : VB t w.1) (ht : t + 24000 ≤ 900000) : Ct G yL_goesThrough YL_goesThrough 1 12 [.ref (gB G + 0)] (nN G) (cellOf G S B M) (GtP (upG G) t) := by
  refine ct_of (by decide +kernel) rfl rfl (Nat.le_of_ble_eq_true rfl) (by simp [Value.category]) ?_
  refine x_sub (l' := [(0, .ref (gB G + 0))]) ⟨rfl, trivial⟩ ?_
  refine x_aload_n (pc := 0) dL_goesThrough_0 rfl ?_
  refine x_iconst (pc := 1) (1) dL_goesThrough_1 (by decide) ?_
  refine t_Vi (pc := 2) (n_1 hG) qV_X3_count mL_L_9 dL_goesThrough_2 rfl cell_bc (nN_lt (by decide)) rfl rfl rfl ⟨by decide, by decide⟩ (Nat.le_of_ble_eq_true rfl) (Nat.le_of_ble_eq_true rfl) (Nat.le_of_ble_eq_true rfl) ?_
  refine x_istore_n (pc := 5) dL_goesThrough_5 (by decide) ?_
  refine x_aload_n (pc := 6) dL_goesThrough_6 rfl ?_
  refine e_Vi (pc := 7) (c_X3_allTakes hG) qV_X3_allTakes mL_L_88 dL_goesThrough_7 rfl cell_bc (nN_lt (by decide)) rfl rfl rfl ⟨by decide, by decide⟩ (Nat.le_of_ble_eq_true rfl) (Nat.le_of_ble_eq_true rfl) (Nat.le_of_ble_eq_true rfl) ?_
  intro a q1
  obtain ⟨S1, B1⟩ := a
  dsimp only at q1 ⊢
  refine x_istore_n (pc := 10) dL_goesThrough_10 (by decide) ?_
  refine x_iconst (pc := 11) (0) dL_goesThrough_11 (by decide) ?_
  refine x_istore_n (pc := 12) dL_goesThrough_12 (by decide) ?_
  refine x_aload_n (pc := 13) dL_goesThrough_13 rfl ?_
  refine x_bipush (pc := 14) (8) dL_goesThrough_14 (by decide) ?_
  refine t_Vi (pc := 16) (n_8 q1) qV_X3_count mL_L_9 dL_goesThrough_16 rfl cell_bc (nN_lt (by decide)) rfl rfl rfl ⟨by decide, by decide⟩ (Nat.le_of_ble_eq_true rfl) (Nat.le_of_ble_eq_true rfl) (Nat.le_of_ble_eq_true rfl) ?_
  refine x_istore (pc := 19) dL_goesThrough_19 (by decide) ?_
  refine x_bipush (pc := 21) (12) dL_goesThrough_21 (by decide) ?_
  refine x_newI (pc := 23) (N := 12) (by decide) (by decide) (by decide) (Nat.le_of_ble_eq_true rfl) (Nat.le_of_ble_eq_true rfl) dL_goesThrough_23 (cellOf (upG G) S1 B1 (MA (upG G) M (fun _ => 0))) ?_ ?_
  · intro o' ho'
    by_cases h : o' = nN G
    · subst h
      rw [if_pos rfl]
      exact ma_cell (G := upG G) (Nat.le_add_left 1 (gx G))
    · rw [if_neg h]
      by_cases a : o' < 247
      · exact cell_le (G := G) a
      · have e1 : cellOf (upG G) S1 B1 (MA (upG G) M (fun _ => 0)) o' = MA (upG G) M (fun _ => 0) o' := cell_ge (by omega)
        rw [e1, cell_ge (by omega)]
        unfold MA
        rw [if_neg (show ¬ o' = arC (upG G) from h)]
  refine up_XJ ?_
  refine x_astore (pc := 25) dL_goesThrough_25 (by decide) ?_
  exact x_back (e0_goes (G := upG G) (M := M) (Nat.le_add_left 1 (gx G)) hB ht 12 0 S1 B1 (fun _ => 0) rfl q1 (fun j hj => absurd hj (Nat.not_lt_zero j)) (fun j hj => absurd hj (Nat.not_lt_zero j))) ⟨rfl, rfl, rfl, rfl, rfl, rfl, trivial⟩
end GOES
