/-! the law: isShape (rows laid by wip/p25/p31.py) -/
section ISSHAPE
theorem b01_z {b : Bool} (h : ¬ ¬ b01 b = 0) : b = false := b01_eq (Decidable.of_not_not h)
theorem why_n0 {A : Ab} {i : Nat} (h : ¬ 0 < whyV A i) (hV : VA A) (hi : i < A.1) : whyV A i = 0 := by
  rcases why_all (A := A) (i := i) with ⟨-, e⟩ | ⟨-, e⟩ | ⟨-, e | ⟨e, -⟩ | ⟨e, -⟩⟩
  · rw [e] at h; exact absurd (by decide) h
  · rw [e] at h; exact absurd (by decide) h
  · rw [e] at h; exact absurd (by decide) h
  · rw [e] at h; exact absurd (by decide) h
  · exact e
variable {G : GX} {S : Nat → Sh} {B : Bc} {M : Md} {w : Wt} {k : Nat} {t : Int}
set_option maxHeartbeats 4000000 in
set_option maxRecDepth 100000 in
theorem lp_isShape (hG : GC S B w) (hV : VA w.1) (hO : okS w.1) (hR : rkP w.1) (hk : k < w.1.1) (h271 : XJ G YL_isShape (fun _ => True) (Zx G (Rt G (some (.int 1)) S B M) 0 0) 271 [(0, .ref (gB G + 0)), (1, .int (nI k)), (2, .int (setN w.1.2.2.2.2 (w.1.2.2.2.2 k) w.1.1)), (3, .int (oV (outO w.1.2.2.2.2 (w.1.2.2.2.2 k) w.1.1))), (4, .int (w.1.2.2.2.2 k 5)), (5, .int 0), (6, .int (b01 (hoB w.1.2.2.2.2 (w.1.2.2.2.2 k) w.1.1))), (7, .int 1), (8, .int (nI w.1.1))] [] (nN G) (cellOf G S B M) 0 0) : XJ G YL_isShape (fun _ => True) (Zx G (Rt G (some (.int 1)) S B M) 0 0) 25 [(0, .ref (gB G + 0)), (1, .int (nI k)), (2, .int (setN w.1.2.2.2.2 (w.1.2.2.2.2 k) 0)), (3, .int (oV (outO w.1.2.2.2.2 (w.1.2.2.2.2 k) 0))), (4, .int (w.1.2.2.2.2 k 5)), (5, .int 0), (6, .int (b01 (hoB w.1.2.2.2.2 (w.1.2.2.2.2 k) 0))), (7, .int 1), (8, .int (nI 0))] [] (nN G) (cellOf G S B M) 0 0 := by
  have lp : ∀ j, j ≤ w.1.1 → XJ G YL_isShape (fun _ => True) (Zx G (Rt G (some (.int 1)) S B M) 0 0) 25 [(0, .ref (gB G + 0)), (1, .int (nI k)), (2, .int (setN w.1.2.2.2.2 (w.1.2.2.2.2 k) j)), (3, .int (oV (outO w.1.2.2.2.2 (w.1.2.2.2.2 k) j))), (4, .int (w.1.2.2.2.2 k 5)), (5, .int 0), (6, .int (b01 (hoB w.1.2.2.2.2 (w.1.2.2.2.2 k) j))), (7, .int 1), (8, .int (nI j))] [] (nN G) (cellOf G S B M) 0 0 := by
    refine loopD (w.1.1) ?_
    intro j hj ih
    have h12 := hV.le
    have hE : j < w.1.1 → XJ G YL_isShape (fun _ => True) (Zx G (Rt G (some (.int 1)) S B M) 0 0) 227 [(0, .ref (gB G + 0)), (1, .int (nI k)), (2, .int (setN w.1.2.2.2.2 (w.1.2.2.2.2 k) (j + 1))), (3, .int (oV (outO w.1.2.2.2.2 (w.1.2.2.2.2 k) (j + 1)))), (4, .int (w.1.2.2.2.2 k 5)), (5, .int 0), (6, .int (b01 (hoB w.1.2.2.2.2 (w.1.2.2.2.2 k) (j + 1)))), (7, .int 1), (8, .int (nI j)), (9, .int (b01 (apaB (w.1.2.2.2.2 j) (w.1.2.2.2.2 k))))] [] (nN G) (cellOf G S B M) 0 0 := by
      intro hjn
      refine x_iload (pc := 227) dL_isShape_227 rfl ?_
      refine x_iload_n (pc := 229) dL_isShape_229 rfl ?_
      refine x_cmpeq (pc := 230) 258 dL_isShape_230 (by decide) (fun c230 => ?_) (fun c230 => ?_)
      · refine x_iconst (pc := 258) (1) dL_isShape_258 (by decide) ?_
        refine x_goto (pc := 259) 263 dL_isShape_259 (by decide) ?_
        refine x_istore (pc := 263) dL_isShape_263 (by decide) ?_
        refine x_iinc (pc := 265) (nI (j + 1)) dL_isShape_265 rfl (iinc_nI j) (by decide) ?_
        refine x_goto (pc := 268) 25 dL_isShape_268 (by decide) ?_
        exact x_back (ih hjn) ⟨rfl, rfl, rfl, rfl, rfl, rfl, rfl, rfl, rfl, trivial⟩
      · refine x_iload (pc := 233) dL_isShape_233 rfl ?_
        refine x_ifne (pc := 235) 258 dL_isShape_235 (by decide) (fun c235 => ?_) (fun c235 => ?_)
        · refine x_iconst (pc := 258) (1) dL_isShape_258 (by decide) ?_
          refine x_goto (pc := 259) 263 dL_isShape_259 (by decide) ?_
          refine x_istore (pc := 263) dL_isShape_263 (by decide) ?_
          refine x_iinc (pc := 265) (nI (j + 1)) dL_isShape_265 rfl (iinc_nI j) (by decide) ?_
          refine x_goto (pc := 268) 25 dL_isShape_268 (by decide) ?_
          exact x_back (ih hjn) ⟨rfl, rfl, rfl, rfl, rfl, rfl, rfl, rfl, rfl, trivial⟩
        · refine x_aload_n (pc := 238) dL_isShape_238 rfl ?_
          refine x_iload (pc := 239) dL_isShape_239 rfl ?_
          refine x_iload_n (pc := 241) dL_isShape_241 rfl ?_
          refine t_Si (pc := 242) (l_isInside hG hjn hk) qS_L_isInside mL_L_55 dL_isShape_242 rfl rfl rfl ⟨by decide, by decide⟩ (Nat.le_of_ble_eq_true rfl) (Nat.le_of_ble_eq_true rfl) (Nat.le_of_ble_eq_true rfl) ?_
          refine x_ifne (pc := 245) 258 dL_isShape_245 (by decide) (fun c245 => ?_) (fun c245 => ?_)
          · refine x_iconst (pc := 258) (1) dL_isShape_258 (by decide) ?_
            refine x_goto (pc := 259) 263 dL_isShape_259 (by decide) ?_
            refine x_istore (pc := 263) dL_isShape_263 (by decide) ?_
            refine x_iinc (pc := 265) (nI (j + 1)) dL_isShape_265 rfl (iinc_nI j) (by decide) ?_
            refine x_goto (pc := 268) 25 dL_isShape_268 (by decide) ?_
            exact x_back (ih hjn) ⟨rfl, rfl, rfl, rfl, rfl, rfl, rfl, rfl, rfl, trivial⟩
          · refine x_aload_n (pc := 248) dL_isShape_248 rfl ?_
            refine x_iload_n (pc := 249) dL_isShape_249 rfl ?_
            refine x_iload (pc := 250) dL_isShape_250 rfl ?_
            refine t_Si (pc := 252) (l_isInside hG hk hjn) qS_L_isInside mL_L_55 dL_isShape_252 rfl rfl rfl ⟨by decide, by decide⟩ (Nat.le_of_ble_eq_true rfl) (Nat.le_of_ble_eq_true rfl) (Nat.le_of_ble_eq_true rfl) ?_
            refine x_ifeq (pc := 255) 262 dL_isShape_255 (by decide) (fun c255 => absurd (okS_no hO hjn hk c230 (b01_eq c235) (b01_eq c245) (b01_eq c255)) id) (fun c255 => ?_)
            refine x_iconst (pc := 258) (1) dL_isShape_258 (by decide) ?_
            refine x_goto (pc := 259) 263 dL_isShape_259 (by decide) ?_
            refine x_istore (pc := 263) dL_isShape_263 (by decide) ?_
            refine x_iinc (pc := 265) (nI (j + 1)) dL_isShape_265 rfl (iinc_nI j) (by decide) ?_
            refine x_goto (pc := 268) 25 dL_isShape_268 (by decide) ?_
            exact x_back (ih hjn) ⟨rfl, rfl, rfl, rfl, rfl, rfl, rfl, rfl, rfl, trivial⟩
    have hD : j < w.1.1 → XJ G YL_isShape (fun _ => True) (Zx G (Rt G (some (.int 1)) S B M) 0 0) 126 [(0, .ref (gB G + 0)), (1, .int (nI k)), (2, .int (setN w.1.2.2.2.2 (w.1.2.2.2.2 k) (j + 1))), (3, .int (oV (outO w.1.2.2.2.2 (w.1.2.2.2.2 k) (j + 1)))), (4, .int (w.1.2.2.2.2 k 5)), (5, .int 0), (6, .int (b01 (hoB w.1.2.2.2.2 (w.1.2.2.2.2 k) (j + 1)))), (7, .int 1), (8, .int (nI j))] [] (nN G) (cellOf G S B M) 0 0 := by
      intro hjn
      refine x_aload_n (pc := 126) dL_isShape_126 rfl ?_
      refine x_iload (pc := 127) dL_isShape_127 rfl ?_
      refine x_iconst (pc := 129) (0) dL_isShape_129 (by decide) ?_
      refine t_Vi (pc := 130) (s_0 hG hjn) qV_X3_shape mL_L_45 dL_isShape_130 rfl cell_bc (nN_lt (by decide)) rfl rfl rfl ⟨by decide, by decide⟩ (Nat.le_of_ble_eq_true rfl) (Nat.le_of_ble_eq_true rfl) (Nat.le_of_ble_eq_true rfl) ?_
      refine x_aload_n (pc := 133) dL_isShape_133 rfl ?_
      refine x_iload (pc := 134) dL_isShape_134 rfl ?_
      refine x_iconst (pc := 136) (2) dL_isShape_136 (by decide) ?_
      refine t_Vi (pc := 137) (s_2 hG hjn) qV_X3_shape mL_L_45 dL_isShape_137 rfl cell_bc (nN_lt (by decide)) rfl rfl rfl ⟨by decide, by decide⟩ (Nat.le_of_ble_eq_true rfl) (Nat.le_of_ble_eq_true rfl) (Nat.le_of_ble_eq_true rfl) ?_
      refine x_iadd (pc := 140) dL_isShape_140 ?_
      refine x_aload_n (pc := 141) dL_isShape_141 rfl ?_
      refine x_iload_n (pc := 142) dL_isShape_142 rfl ?_
      refine x_iconst (pc := 143) (0) dL_isShape_143 (by decide) ?_
      refine t_Vi (pc := 144) (s_0 hG hk) qV_X3_shape mL_L_45 dL_isShape_144 rfl cell_bc (nN_lt (by decide)) rfl rfl rfl ⟨by decide, by decide⟩ (Nat.le_of_ble_eq_true rfl) (Nat.le_of_ble_eq_true rfl) (Nat.le_of_ble_eq_true rfl) ?_
      refine x_cmple (pc := 147) 220 dL_isShape_147 (by decide) (fun c147 => ?_) (fun c147 => ?_)
      · refine x_iconst (pc := 220) (1) dL_isShape_220 (by decide) ?_
        refine x_goto (pc := 221) 225 dL_isShape_221 (by decide) ?_
        refine x_istore (pc := 225) dL_isShape_225 (by decide) ?_
        exact x_back (hE hjn) ⟨rfl, rfl, rfl, rfl, rfl, rfl, rfl, rfl, rfl, (by simp only [apaB, b01, c147, decide_true, decide_false, decide_not, Bool.and_true, Bool.true_and, Bool.and_false, Bool.false_and, Bool.or_true, Bool.true_or, Bool.or_false, Bool.false_or, Bool.not_true, Bool.not_false, if_true, if_false, not_true, not_false_eq_true, not_false_iff, Bool.false_eq_true, reduceIte, or_true, true_or, or_false, false_or, and_true, true_and, and_false, false_and, ite_self]; rfl), trivial⟩
      · refine x_aload_n (pc := 150) dL_isShape_150 rfl ?_
        refine x_iload_n (pc := 151) dL_isShape_151 rfl ?_
        refine x_iconst (pc := 152) (0) dL_isShape_152 (by decide) ?_
        refine t_Vi (pc := 153) (s_0 hG hk) qV_X3_shape mL_L_45 dL_isShape_153 rfl cell_bc (nN_lt (by decide)) rfl rfl rfl ⟨by decide, by decide⟩ (Nat.le_of_ble_eq_true rfl) (Nat.le_of_ble_eq_true rfl) (Nat.le_of_ble_eq_true rfl) ?_
        refine x_aload_n (pc := 156) dL_isShape_156 rfl ?_
        refine x_iload_n (pc := 157) dL_isShape_157 rfl ?_
        refine x_iconst (pc := 158) (2) dL_isShape_158 (by decide) ?_
        refine t_Vi (pc := 159) (s_2 hG hk) qV_X3_shape mL_L_45 dL_isShape_159 rfl cell_bc (nN_lt (by decide)) rfl rfl rfl ⟨by decide, by decide⟩ (Nat.le_of_ble_eq_true rfl) (Nat.le_of_ble_eq_true rfl) (Nat.le_of_ble_eq_true rfl) ?_
        refine x_iadd (pc := 162) dL_isShape_162 ?_
        refine x_aload_n (pc := 163) dL_isShape_163 rfl ?_
        refine x_iload (pc := 164) dL_isShape_164 rfl ?_
        refine x_iconst (pc := 166) (0) dL_isShape_166 (by decide) ?_
        refine t_Vi (pc := 167) (s_0 hG hjn) qV_X3_shape mL_L_45 dL_isShape_167 rfl cell_bc (nN_lt (by decide)) rfl rfl rfl ⟨by decide, by decide⟩ (Nat.le_of_ble_eq_true rfl) (Nat.le_of_ble_eq_true rfl) (Nat.le_of_ble_eq_true rfl) ?_
        refine x_cmple (pc := 170) 220 dL_isShape_170 (by decide) (fun c170 => ?_) (fun c170 => ?_)
        · refine x_iconst (pc := 220) (1) dL_isShape_220 (by decide) ?_
          refine x_goto (pc := 221) 225 dL_isShape_221 (by decide) ?_
          refine x_istore (pc := 225) dL_isShape_225 (by decide) ?_
          exact x_back (hE hjn) ⟨rfl, rfl, rfl, rfl, rfl, rfl, rfl, rfl, rfl, (by simp only [apaB, b01, c147, c170, decide_true, decide_false, decide_not, Bool.and_true, Bool.true_and, Bool.and_false, Bool.false_and, Bool.or_true, Bool.true_or, Bool.or_false, Bool.false_or, Bool.not_true, Bool.not_false, if_true, if_false, not_true, not_false_eq_true, not_false_iff, Bool.false_eq_true, reduceIte, or_true, true_or, or_false, false_or, and_true, true_and, and_false, false_and, ite_self]; rfl), trivial⟩
        · refine x_aload_n (pc := 173) dL_isShape_173 rfl ?_
          refine x_iload (pc := 174) dL_isShape_174 rfl ?_
          refine x_iconst (pc := 176) (1) dL_isShape_176 (by decide) ?_
          refine t_Vi (pc := 177) (s_1 hG hjn) qV_X3_shape mL_L_45 dL_isShape_177 rfl cell_bc (nN_lt (by decide)) rfl rfl rfl ⟨by decide, by decide⟩ (Nat.le_of_ble_eq_true rfl) (Nat.le_of_ble_eq_true rfl) (Nat.le_of_ble_eq_true rfl) ?_
          refine x_aload_n (pc := 180) dL_isShape_180 rfl ?_
          refine x_iload (pc := 181) dL_isShape_181 rfl ?_
          refine x_iconst (pc := 183) (3) dL_isShape_183 (by decide) ?_
          refine t_Vi (pc := 184) (s_3 hG hjn) qV_X3_shape mL_L_45 dL_isShape_184 rfl cell_bc (nN_lt (by decide)) rfl rfl rfl ⟨by decide, by decide⟩ (Nat.le_of_ble_eq_true rfl) (Nat.le_of_ble_eq_true rfl) (Nat.le_of_ble_eq_true rfl) ?_
          refine x_iadd (pc := 187) dL_isShape_187 ?_
          refine x_aload_n (pc := 188) dL_isShape_188 rfl ?_
          refine x_iload_n (pc := 189) dL_isShape_189 rfl ?_
          refine x_iconst (pc := 190) (1) dL_isShape_190 (by decide) ?_
          refine t_Vi (pc := 191) (s_1 hG hk) qV_X3_shape mL_L_45 dL_isShape_191 rfl cell_bc (nN_lt (by decide)) rfl rfl rfl ⟨by decide, by decide⟩ (Nat.le_of_ble_eq_true rfl) (Nat.le_of_ble_eq_true rfl) (Nat.le_of_ble_eq_true rfl) ?_
          refine x_cmple (pc := 194) 220 dL_isShape_194 (by decide) (fun c194 => ?_) (fun c194 => ?_)
          · refine x_iconst (pc := 220) (1) dL_isShape_220 (by decide) ?_
            refine x_goto (pc := 221) 225 dL_isShape_221 (by decide) ?_
            refine x_istore (pc := 225) dL_isShape_225 (by decide) ?_
            exact x_back (hE hjn) ⟨rfl, rfl, rfl, rfl, rfl, rfl, rfl, rfl, rfl, (by simp only [apaB, b01, c147, c170, c194, decide_true, decide_false, decide_not, Bool.and_true, Bool.true_and, Bool.and_false, Bool.false_and, Bool.or_true, Bool.true_or, Bool.or_false, Bool.false_or, Bool.not_true, Bool.not_false, if_true, if_false, not_true, not_false_eq_true, not_false_iff, Bool.false_eq_true, reduceIte, or_true, true_or, or_false, false_or, and_true, true_and, and_false, false_and, ite_self]; rfl), trivial⟩
          · refine x_aload_n (pc := 197) dL_isShape_197 rfl ?_
            refine x_iload_n (pc := 198) dL_isShape_198 rfl ?_
            refine x_iconst (pc := 199) (1) dL_isShape_199 (by decide) ?_
            refine t_Vi (pc := 200) (s_1 hG hk) qV_X3_shape mL_L_45 dL_isShape_200 rfl cell_bc (nN_lt (by decide)) rfl rfl rfl ⟨by decide, by decide⟩ (Nat.le_of_ble_eq_true rfl) (Nat.le_of_ble_eq_true rfl) (Nat.le_of_ble_eq_true rfl) ?_
            refine x_aload_n (pc := 203) dL_isShape_203 rfl ?_
            refine x_iload_n (pc := 204) dL_isShape_204 rfl ?_
            refine x_iconst (pc := 205) (3) dL_isShape_205 (by decide) ?_
            refine t_Vi (pc := 206) (s_3 hG hk) qV_X3_shape mL_L_45 dL_isShape_206 rfl cell_bc (nN_lt (by decide)) rfl rfl rfl ⟨by decide, by decide⟩ (Nat.le_of_ble_eq_true rfl) (Nat.le_of_ble_eq_true rfl) (Nat.le_of_ble_eq_true rfl) ?_
            refine x_iadd (pc := 209) dL_isShape_209 ?_
            refine x_aload_n (pc := 210) dL_isShape_210 rfl ?_
            refine x_iload (pc := 211) dL_isShape_211 rfl ?_
            refine x_iconst (pc := 213) (1) dL_isShape_213 (by decide) ?_
            refine t_Vi (pc := 214) (s_1 hG hjn) qV_X3_shape mL_L_45 dL_isShape_214 rfl cell_bc (nN_lt (by decide)) rfl rfl rfl ⟨by decide, by decide⟩ (Nat.le_of_ble_eq_true rfl) (Nat.le_of_ble_eq_true rfl) (Nat.le_of_ble_eq_true rfl) ?_
            refine x_cmpgt (pc := 217) 224 dL_isShape_217 (by decide) (fun c217 => ?_) (fun c217 => ?_)
            · refine x_iconst (pc := 224) (0) dL_isShape_224 (by decide) ?_
              refine x_istore (pc := 225) dL_isShape_225 (by decide) ?_
              exact x_back (hE hjn) ⟨rfl, rfl, rfl, rfl, rfl, rfl, rfl, rfl, rfl, (by simp only [apaB, b01, c147, c170, c194, c217, decide_true, decide_false, decide_not, Bool.and_true, Bool.true_and, Bool.and_false, Bool.false_and, Bool.or_true, Bool.true_or, Bool.or_false, Bool.false_or, Bool.not_true, Bool.not_false, if_true, if_false, not_true, not_false_eq_true, not_false_iff, Bool.false_eq_true, reduceIte, or_true, true_or, or_false, false_or, and_true, true_and, and_false, false_and, ite_self]; rfl), trivial⟩
            · refine x_iconst (pc := 220) (1) dL_isShape_220 (by decide) ?_
              refine x_goto (pc := 221) 225 dL_isShape_221 (by decide) ?_
              refine x_istore (pc := 225) dL_isShape_225 (by decide) ?_
              exact x_back (hE hjn) ⟨rfl, rfl, rfl, rfl, rfl, rfl, rfl, rfl, rfl, (by simp only [apaB, b01, c147, c170, c194, c217, decide_true, decide_false, decide_not, Bool.and_true, Bool.true_and, Bool.and_false, Bool.false_and, Bool.or_true, Bool.true_or, Bool.or_false, Bool.false_or, Bool.not_true, Bool.not_false, if_true, if_false, not_true, not_false_eq_true, not_false_iff, Bool.false_eq_true, reduceIte, or_true, true_or, or_false, false_or, and_true, true_and, and_false, false_and, ite_self]; rfl), trivial⟩
    have hC : j < w.1.1 → XJ G YL_isShape (fun _ => True) (Zx G (Rt G (some (.int 1)) S B M) 0 0) 93 [(0, .ref (gB G + 0)), (1, .int (nI k)), (2, .int (setN w.1.2.2.2.2 (w.1.2.2.2.2 k) (j + 1))), (3, .int (oV (outO w.1.2.2.2.2 (w.1.2.2.2.2 k) j))), (4, .int (w.1.2.2.2.2 k 5)), (5, .int 0), (6, .int (b01 (hoB w.1.2.2.2.2 (w.1.2.2.2.2 k) (j + 1)))), (7, .int 1), (8, .int (nI j))] [] (nN G) (cellOf G S B M) 0 0 := by
      intro hjn
      rcases ho : outO w.1.2.2.2.2 (w.1.2.2.2.2 k) j with _ | q
      · refine x_aload_n (pc := 93) dL_isShape_93 rfl ?_
        refine x_iload_n (pc := 94) dL_isShape_94 rfl ?_
        refine x_iload (pc := 95) dL_isShape_95 rfl ?_
        refine t_Si (pc := 97) (l_isInside hG hk hjn) qS_L_isInside mL_L_55 dL_isShape_97 rfl rfl rfl ⟨by decide, by decide⟩ (Nat.le_of_ble_eq_true rfl) (Nat.le_of_ble_eq_true rfl) (Nat.le_of_ble_eq_true rfl) ?_
        refine x_ifeq (pc := 100) 124 dL_isShape_100 (by decide) (fun c100 => ?_) (fun c100 => ?_)
        · refine x_iload_n (pc := 124) dL_isShape_124 rfl ?_
          refine x_istore_n (pc := 125) dL_isShape_125 (by decide) ?_
          exact x_back (hD hjn) ⟨rfl, rfl, rfl, (by simp only [ho, outO, b01_eq c100, decide_true, decide_false, decide_not, Bool.and_true, Bool.true_and, Bool.and_false, Bool.false_and, Bool.or_true, Bool.true_or, Bool.or_false, Bool.false_or, Bool.not_true, Bool.not_false, if_true, if_false, not_true, not_false_eq_true, not_false_iff, Bool.false_eq_true, reduceIte, or_true, true_or, or_false, false_or, and_true, true_and, and_false, false_and, ite_self]; rfl), rfl, rfl, rfl, rfl, rfl, trivial⟩
        · refine x_iload_n (pc := 103) dL_isShape_103 rfl ?_
          refine x_bipush (pc := 104) (-5) dL_isShape_104 (by decide) ?_
          refine x_cmpeq (pc := 106) 119 dL_isShape_106 (by decide) (fun c106 => ?_) (fun c106 => absurd rfl c106)
          refine x_iload (pc := 119) dL_isShape_119 rfl ?_
          refine x_goto (pc := 121) 125 dL_isShape_121 (by decide) ?_
          refine x_istore_n (pc := 125) dL_isShape_125 (by decide) ?_
          exact x_back (hD hjn) ⟨rfl, rfl, rfl, (by simp only [ho, outO, b01_ne c100, decide_true, decide_false, decide_not, Bool.and_true, Bool.true_and, Bool.and_false, Bool.false_and, Bool.or_true, Bool.true_or, Bool.or_false, Bool.false_or, Bool.not_true, Bool.not_false, if_true, if_false, not_true, not_false_eq_true, not_false_iff, Bool.false_eq_true, reduceIte, or_true, true_or, or_false, false_or, and_true, true_and, and_false, false_and, ite_self]; rfl), rfl, rfl, rfl, rfl, rfl, trivial⟩
      · have hq : q < w.1.1 := by have := outO_lt ho; omega
        refine x_aload_n (pc := 93) dL_isShape_93 rfl ?_
        refine x_iload_n (pc := 94) dL_isShape_94 rfl ?_
        refine x_iload (pc := 95) dL_isShape_95 rfl ?_
        refine t_Si (pc := 97) (l_isInside hG hk hjn) qS_L_isInside mL_L_55 dL_isShape_97 rfl rfl rfl ⟨by decide, by decide⟩ (Nat.le_of_ble_eq_true rfl) (Nat.le_of_ble_eq_true rfl) (Nat.le_of_ble_eq_true rfl) ?_
        refine x_ifeq (pc := 100) 124 dL_isShape_100 (by decide) (fun c100 => ?_) (fun c100 => ?_)
        · refine x_iload_n (pc := 124) dL_isShape_124 rfl ?_
          refine x_istore_n (pc := 125) dL_isShape_125 (by decide) ?_
          exact x_back (hD hjn) ⟨rfl, rfl, rfl, (by simp only [ho, outO, b01_eq c100, decide_true, decide_false, decide_not, Bool.and_true, Bool.true_and, Bool.and_false, Bool.false_and, Bool.or_true, Bool.true_or, Bool.or_false, Bool.false_or, Bool.not_true, Bool.not_false, if_true, if_false, not_true, not_false_eq_true, not_false_iff, Bool.false_eq_true, reduceIte, or_true, true_or, or_false, false_or, and_true, true_and, and_false, false_and, ite_self]; rfl), rfl, rfl, rfl, rfl, rfl, trivial⟩
        · refine x_iload_n (pc := 103) dL_isShape_103 rfl ?_
          refine x_bipush (pc := 104) (-5) dL_isShape_104 (by decide) ?_
          refine x_cmpeq (pc := 106) 119 dL_isShape_106 (by decide) (fun c106 => absurd c106 (nI_ne5 (by omega))) (fun c106 => ?_)
          refine x_aload_n (pc := 109) dL_isShape_109 rfl ?_
          refine x_iload (pc := 110) dL_isShape_110 rfl ?_
          refine x_iload_n (pc := 112) dL_isShape_112 rfl ?_
          refine t_Si (pc := 113) (l_isInside hG hjn hq) qS_L_isInside mL_L_55 dL_isShape_113 rfl rfl rfl ⟨by decide, by decide⟩ (Nat.le_of_ble_eq_true rfl) (Nat.le_of_ble_eq_true rfl) (Nat.le_of_ble_eq_true rfl) ?_
          refine x_ifeq (pc := 116) 124 dL_isShape_116 (by decide) (fun c116 => ?_) (fun c116 => ?_)
          · refine x_iload_n (pc := 124) dL_isShape_124 rfl ?_
            refine x_istore_n (pc := 125) dL_isShape_125 (by decide) ?_
            exact x_back (hD hjn) ⟨rfl, rfl, rfl, (by simp only [ho, outO, b01_ne c100, b01_eq c116, decide_true, decide_false, decide_not, Bool.and_true, Bool.true_and, Bool.and_false, Bool.false_and, Bool.or_true, Bool.true_or, Bool.or_false, Bool.false_or, Bool.not_true, Bool.not_false, if_true, if_false, not_true, not_false_eq_true, not_false_iff, Bool.false_eq_true, reduceIte, or_true, true_or, or_false, false_or, and_true, true_and, and_false, false_and, ite_self]; rfl), rfl, rfl, rfl, rfl, rfl, trivial⟩
          · refine x_iload (pc := 119) dL_isShape_119 rfl ?_
            refine x_goto (pc := 121) 125 dL_isShape_121 (by decide) ?_
            refine x_istore_n (pc := 125) dL_isShape_125 (by decide) ?_
            exact x_back (hD hjn) ⟨rfl, rfl, rfl, (by simp only [ho, outO, b01_ne c100, b01_ne c116, decide_true, decide_false, decide_not, Bool.and_true, Bool.true_and, Bool.and_false, Bool.false_and, Bool.or_true, Bool.true_or, Bool.or_false, Bool.false_or, Bool.not_true, Bool.not_false, if_true, if_false, not_true, not_false_eq_true, not_false_iff, Bool.false_eq_true, reduceIte, or_true, true_or, or_false, false_or, and_true, true_and, and_false, false_and, ite_self]; rfl), rfl, rfl, rfl, rfl, rfl, trivial⟩
    have hB : j < w.1.1 → XJ G YL_isShape (fun _ => True) (Zx G (Rt G (some (.int 1)) S B M) 0 0) 61 [(0, .ref (gB G + 0)), (1, .int (nI k)), (2, .int (setN w.1.2.2.2.2 (w.1.2.2.2.2 k) (j + 1))), (3, .int (oV (outO w.1.2.2.2.2 (w.1.2.2.2.2 k) j))), (4, .int (w.1.2.2.2.2 k 5)), (5, .int 0), (6, .int (b01 (hoB w.1.2.2.2.2 (w.1.2.2.2.2 k) j))), (7, .int 1), (8, .int (nI j))] [] (nN G) (cellOf G S B M) 0 0 := by
      intro hjn
      refine x_iload (pc := 61) dL_isShape_61 rfl ?_
      refine x_ifne (pc := 63) 86 dL_isShape_63 (by decide) (fun c63 => ?_) (fun c63 => ?_)
      · refine x_iconst (pc := 86) (1) dL_isShape_86 (by decide) ?_
        refine x_goto (pc := 87) 91 dL_isShape_87 (by decide) ?_
        refine x_istore (pc := 91) dL_isShape_91 (by decide) ?_
        exact x_back (hC hjn) ⟨rfl, rfl, rfl, rfl, rfl, rfl, (by simp only [hoB, b01_ne c63, decide_true, decide_false, decide_not, Bool.and_true, Bool.true_and, Bool.and_false, Bool.false_and, Bool.or_true, Bool.true_or, Bool.or_false, Bool.false_or, Bool.not_true, Bool.not_false, if_true, if_false, not_true, not_false_eq_true, not_false_iff, Bool.false_eq_true, reduceIte, or_true, true_or, or_false, false_or, and_true, true_and, and_false, false_and, ite_self]; rfl), rfl, rfl, trivial⟩
      · refine x_aload_n (pc := 66) dL_isShape_66 rfl ?_
        refine x_iload (pc := 67) dL_isShape_67 rfl ?_
        refine x_iload_n (pc := 69) dL_isShape_69 rfl ?_
        refine t_Si (pc := 70) (l_isInside hG hjn hk) qS_L_isInside mL_L_55 dL_isShape_70 rfl rfl rfl ⟨by decide, by decide⟩ (Nat.le_of_ble_eq_true rfl) (Nat.le_of_ble_eq_true rfl) (Nat.le_of_ble_eq_true rfl) ?_
        refine x_ifeq (pc := 73) 90 dL_isShape_73 (by decide) (fun c73 => ?_) (fun c73 => ?_)
        · refine x_iconst (pc := 90) (0) dL_isShape_90 (by decide) ?_
          refine x_istore (pc := 91) dL_isShape_91 (by decide) ?_
          exact x_back (hC hjn) ⟨rfl, rfl, rfl, rfl, rfl, rfl, (by simp only [hoB, b01_eq c63, b01_eq c73, decide_true, decide_false, decide_not, Bool.and_true, Bool.true_and, Bool.and_false, Bool.false_and, Bool.or_true, Bool.true_or, Bool.or_false, Bool.false_or, Bool.not_true, Bool.not_false, if_true, if_false, not_true, not_false_eq_true, not_false_iff, Bool.false_eq_true, reduceIte, or_true, true_or, or_false, false_or, and_true, true_and, and_false, false_and, ite_self]; rfl), rfl, rfl, trivial⟩
        · refine x_aload_n (pc := 76) dL_isShape_76 rfl ?_
          refine x_iload (pc := 77) dL_isShape_77 rfl ?_
          refine x_iconst (pc := 79) (5) dL_isShape_79 (by decide) ?_
          refine t_Vi (pc := 80) (s_5 hG hjn) qV_X3_shape mL_L_45 dL_isShape_80 rfl cell_bc (nN_lt (by decide)) rfl rfl rfl ⟨by decide, by decide⟩ (Nat.le_of_ble_eq_true rfl) (Nat.le_of_ble_eq_true rfl) (Nat.le_of_ble_eq_true rfl) ?_
          refine x_ifne (pc := 83) 90 dL_isShape_83 (by decide) (fun c83 => ?_) (fun c83 => ?_)
          · refine x_iconst (pc := 90) (0) dL_isShape_90 (by decide) ?_
            refine x_istore (pc := 91) dL_isShape_91 (by decide) ?_
            exact x_back (hC hjn) ⟨rfl, rfl, rfl, rfl, rfl, rfl, (by simp only [hoB, b01_eq c63, b01_ne c73, c83, decide_true, decide_false, decide_not, Bool.and_true, Bool.true_and, Bool.and_false, Bool.false_and, Bool.or_true, Bool.true_or, Bool.or_false, Bool.false_or, Bool.not_true, Bool.not_false, if_true, if_false, not_true, not_false_eq_true, not_false_iff, Bool.false_eq_true, reduceIte, or_true, true_or, or_false, false_or, and_true, true_and, and_false, false_and, ite_self]; rfl), rfl, rfl, trivial⟩
          · refine x_iconst (pc := 86) (1) dL_isShape_86 (by decide) ?_
            refine x_goto (pc := 87) 91 dL_isShape_87 (by decide) ?_
            refine x_istore (pc := 91) dL_isShape_91 (by decide) ?_
            exact x_back (hC hjn) ⟨rfl, rfl, rfl, rfl, rfl, rfl, (by simp only [hoB, b01_eq c63, b01_ne c73, eq_true c83, decide_true, decide_false, decide_not, Bool.and_true, Bool.true_and, Bool.and_false, Bool.false_and, Bool.or_true, Bool.true_or, Bool.or_false, Bool.false_or, Bool.not_true, Bool.not_false, if_true, if_false, not_true, not_false_eq_true, not_false_iff, Bool.false_eq_true, reduceIte, or_true, true_or, or_false, false_or, and_true, true_and, and_false, false_and, ite_self]; rfl), rfl, rfl, trivial⟩
    refine x_iload (pc := 25) dL_isShape_25 rfl ?_
    refine x_aload_n (pc := 27) dL_isShape_27 rfl ?_
    refine x_iconst (pc := 28) (0) dL_isShape_28 (by decide) ?_
    refine t_Vi (pc := 29) (n_0 hG) qV_X3_count mL_L_9 dL_isShape_29 rfl cell_bc (nN_lt (by decide)) rfl rfl rfl ⟨by decide, by decide⟩ (Nat.le_of_ble_eq_true rfl) (Nat.le_of_ble_eq_true rfl) (Nat.le_of_ble_eq_true rfl) ?_
    refine x_cmpge (pc := 32) 271 dL_isShape_32 (by decide) (fun c32 => ?_) (fun c32 => ?_)
    · obtain rfl : j = w.1.1 := by have := mt (tl_iff h12 hj).mpr c32; omega
      exact x_back h271 ⟨rfl, rfl, rfl, rfl, rfl, rfl, rfl, rfl, rfl, trivial⟩
    · have hjn : j < w.1.1 := (tl_iff h12 hj).mp c32
      refine x_iload (pc := 35) dL_isShape_35 rfl ?_
      refine x_ifeq (pc := 37) 271 dL_isShape_37 (by decide) (fun h => absurd h (by decide)) (fun _ => ?_)
      refine x_iload_n (pc := 40) dL_isShape_40 rfl ?_
      refine x_aload_n (pc := 41) dL_isShape_41 rfl ?_
      refine x_iload (pc := 42) dL_isShape_42 rfl ?_
      refine x_iload_n (pc := 44) dL_isShape_44 rfl ?_
      refine t_Si (pc := 45) (l_isInside hG hjn hk) qS_L_isInside mL_L_55 dL_isShape_45 rfl rfl rfl ⟨by decide, by decide⟩ (Nat.le_of_ble_eq_true rfl) (Nat.le_of_ble_eq_true rfl) (Nat.le_of_ble_eq_true rfl) ?_
      refine x_ifeq (pc := 48) 58 dL_isShape_48 (by decide) (fun c48 => ?_) (fun c48 => ?_)
      · refine x_iconst (pc := 58) (0) dL_isShape_58 (by decide) ?_
        refine x_ior (pc := 59) dL_isShape_59 ?_
        refine x_istore_n (pc := 60) dL_isShape_60 (by decide) ?_
        exact x_back (hB hjn) ⟨rfl, rfl, (by simp only [setN, b01_eq c48, Bool.false_eq_true, if_false]; exact congrArg (fun z => some (Value.int z)) Int32.or_zero), rfl, rfl, rfl, rfl, rfl, rfl, trivial⟩
      · refine x_iconst (pc := 51) (1) dL_isShape_51 (by decide) ?_
        refine x_iload (pc := 52) dL_isShape_52 rfl ?_
        refine x_ishl (pc := 54) dL_isShape_54 ?_
        refine x_goto (pc := 55) 59 dL_isShape_55 (by decide) ?_
        refine x_ior (pc := 59) dL_isShape_59 ?_
        refine x_istore_n (pc := 60) dL_isShape_60 (by decide) ?_
        exact x_back (hB hjn) ⟨rfl, rfl, (by simp only [setN, b01_ne c48, if_true]; rfl), rfl, rfl, rfl, rfl, rfl, rfl, trivial⟩
  exact lp 0 (Nat.zero_le _)
set_option maxHeartbeats 4000000 in
set_option maxRecDepth 100000 in
theorem lp2_isShape (hG : GC S B w) (hV : VA w.1) (hO : okS w.1) (hR : rkP w.1) (hk : k < w.1.1) (h386 : XJ G YL_isShape (fun _ => True) (Zx G (Rt G (some (.int 1)) S B M) 0 0) 386 [(0, .ref (gB G + 0)), (1, .int (nI k)), (2, .int (setN w.1.2.2.2.2 (w.1.2.2.2.2 k) w.1.1)), (3, .int (oV (outO w.1.2.2.2.2 (w.1.2.2.2.2 k) w.1.1))), (4, .int (w.1.2.2.2.2 k 5)), (5, .int (b01 (tooN w.1 (edgQ (w.1.2.2.2.2 k)) (wayV w.1 k * w.1.2.2.2.1 1) 12))), (6, .int (b01 (hoB w.1.2.2.2.2 (w.1.2.2.2.2 k) w.1.1))), (7, .int 1), (8, .int (2 * (w.1.2.2.2.2 k 2 + w.1.2.2.2.2 k 3) - 4)), (9, .int (sumE (w.1.2.2.2.2 k) 12))] [] (nN G) (cellOf G S B M) 0 0) : XJ G YL_isShape (fun _ => True) (Zx G (Rt G (some (.int 1)) S B M) 0 0) 299 [(0, .ref (gB G + 0)), (1, .int (nI k)), (2, .int (setN w.1.2.2.2.2 (w.1.2.2.2.2 k) w.1.1)), (3, .int (oV (outO w.1.2.2.2.2 (w.1.2.2.2.2 k) w.1.1))), (4, .int (w.1.2.2.2.2 k 5)), (5, .int (b01 (tooN w.1 (edgQ (w.1.2.2.2.2 k)) (wayV w.1 k * w.1.2.2.2.1 1) 0))), (6, .int (b01 (hoB w.1.2.2.2.2 (w.1.2.2.2.2 k) w.1.1))), (7, .int 1), (8, .int (2 * (w.1.2.2.2.2 k 2 + w.1.2.2.2.2 k 3) - 4)), (9, .int (sumE (w.1.2.2.2.2 k) 0)), (11, .int (nI 0))] [] (nN G) (cellOf G S B M) 0 0 := by
  have lp : ∀ q, q ≤ 12 → XJ G YL_isShape (fun _ => True) (Zx G (Rt G (some (.int 1)) S B M) 0 0) 299 [(0, .ref (gB G + 0)), (1, .int (nI k)), (2, .int (setN w.1.2.2.2.2 (w.1.2.2.2.2 k) w.1.1)), (3, .int (oV (outO w.1.2.2.2.2 (w.1.2.2.2.2 k) w.1.1))), (4, .int (w.1.2.2.2.2 k 5)), (5, .int (b01 (tooN w.1 (edgQ (w.1.2.2.2.2 k)) (wayV w.1 k * w.1.2.2.2.1 1) q))), (6, .int (b01 (hoB w.1.2.2.2.2 (w.1.2.2.2.2 k) w.1.1))), (7, .int 1), (8, .int (2 * (w.1.2.2.2.2 k 2 + w.1.2.2.2.2 k 3) - 4)), (9, .int (sumE (w.1.2.2.2.2 k) q)), (11, .int (nI q))] [] (nN G) (cellOf G S B M) 0 0 := by
    refine loopD 12 ?_
    intro q hq ih
    refine x_iload (pc := 299) dL_isShape_299 rfl ?_
    refine x_bipush (pc := 301) (12) dL_isShape_301 (by decide) ?_
    refine x_cmpge (pc := 303) 386 dL_isShape_303 (by decide) (fun c303 => ?_) (fun c303 => ?_)
    · obtain rfl : q = 12 := by have := mt (lt_lit (n := 12) rfl (by decide) (by omega)).mpr c303; omega
      exact x_back h386 ⟨rfl, rfl, rfl, rfl, rfl, rfl, rfl, rfl, rfl, rfl, trivial⟩
    · have hqn : q < 12 := (lt_lit rfl (by decide) (by omega)).mp c303
      refine x_aload_n (pc := 306) dL_isShape_306 rfl ?_
      refine x_iload (pc := 307) dL_isShape_307 rfl ?_
      refine t_Vi (pc := 309) (h_q hG hqn) qV_X3_heat mL_L_59 dL_isShape_309 rfl cell_bc (nN_lt (by decide)) rfl rfl rfl ⟨by decide, by decide⟩ (Nat.le_of_ble_eq_true rfl) (Nat.le_of_ble_eq_true rfl) (Nat.le_of_ble_eq_true rfl) ?_
      refine x_aload_n (pc := 312) dL_isShape_312 rfl ?_
      refine x_iload_n (pc := 313) dL_isShape_313 rfl ?_
      refine t_Si (pc := 314) (l_goes hG hV hk) qS_L_goes mL_L_62 dL_isShape_314 rfl rfl rfl ⟨by decide, by decide⟩ (Nat.le_of_ble_eq_true rfl) (Nat.le_of_ble_eq_true rfl) (Nat.le_of_ble_eq_true rfl) ?_
      refine x_aload_n (pc := 317) dL_isShape_317 rfl ?_
      refine x_bipush (pc := 318) (14) dL_isShape_318 (by decide) ?_
      refine t_Vi (pc := 320) (n_14 hG) qV_X3_count mL_L_9 dL_isShape_320 rfl cell_bc (nN_lt (by decide)) rfl rfl rfl ⟨by decide, by decide⟩ (Nat.le_of_ble_eq_true rfl) (Nat.le_of_ble_eq_true rfl) (Nat.le_of_ble_eq_true rfl) ?_
      refine x_imul (pc := 323) dL_isShape_323 ?_
      refine x_isub (pc := 324) dL_isShape_324 ?_
      refine x_istore (pc := 325) dL_isShape_325 (by decide) ?_
      refine x_aload_n (pc := 327) dL_isShape_327 rfl ?_
      refine x_iload_n (pc := 328) dL_isShape_328 rfl ?_
      refine x_iload (pc := 329) dL_isShape_329 rfl ?_
      refine t_Si (pc := 331) (l_edgeIn hG (hV.sh hk) hk hqn) qS_L_edgeIn mL_L_66 dL_isShape_331 rfl rfl rfl ⟨by decide, by decide⟩ (Nat.le_of_ble_eq_true rfl) (Nat.le_of_ble_eq_true rfl) (Nat.le_of_ble_eq_true rfl) ?_
      refine x_istore (pc := 334) dL_isShape_334 (by decide) ?_
      refine x_iload (pc := 336) dL_isShape_336 rfl ?_
      refine x_iload (pc := 338) dL_isShape_338 rfl ?_
      refine x_iadd (pc := 340) dL_isShape_340 ?_
      refine x_istore (pc := 341) dL_isShape_341 (by decide) ?_
      refine x_iload (pc := 343) dL_isShape_343 rfl ?_
      refine x_ifne (pc := 345) 373 dL_isShape_345 (by decide) (fun c345 => ?_) (fun c345 => ?_)
      · refine x_iconst (pc := 373) (1) dL_isShape_373 (by decide) ?_
        refine x_goto (pc := 374) 378 dL_isShape_374 (by decide) ?_
        refine x_istore (pc := 378) dL_isShape_378 (by decide) ?_
        refine x_iinc (pc := 380) (nI (q + 1)) dL_isShape_380 rfl (iinc_nI q) (by decide) ?_
        refine x_goto (pc := 383) 299 dL_isShape_383 (by decide) ?_
        exact x_back (ih hqn) ⟨rfl, rfl, rfl, rfl, rfl, (by simp only [tooN, b01_ne c345, Bool.true_or]; rfl), rfl, rfl, rfl, rfl, rfl, trivial⟩
      · refine x_iload (pc := 348) dL_isShape_348 rfl ?_
        refine x_ifle (pc := 350) 377 dL_isShape_350 (by decide) (fun c350 => ?_) (fun c350 => ?_)
        · refine x_iconst (pc := 377) (0) dL_isShape_377 (by decide) ?_
          refine x_istore (pc := 378) dL_isShape_378 (by decide) ?_
          refine x_iinc (pc := 380) (nI (q + 1)) dL_isShape_380 rfl (iinc_nI q) (by decide) ?_
          refine x_goto (pc := 383) 299 dL_isShape_383 (by decide) ?_
          exact x_back (ih hqn) ⟨rfl, rfl, rfl, rfl, rfl, (by simp only [tooN, b01_eq c345, c350, decide_true, decide_false, decide_not, Bool.and_true, Bool.true_and, Bool.and_false, Bool.false_and, Bool.or_true, Bool.true_or, Bool.or_false, Bool.false_or, Bool.not_true, Bool.not_false, if_true, if_false, not_true, not_false_eq_true, not_false_iff, Bool.false_eq_true, reduceIte, or_true, true_or, or_false, false_or, and_true, true_and, and_false, false_and, ite_self]; rfl), rfl, rfl, rfl, rfl, rfl, trivial⟩
        · refine x_iload (pc := 353) dL_isShape_353 rfl ?_
          refine x_ifle (pc := 355) 363 dL_isShape_355 (by decide) (fun c355 => ?_) (fun c355 => ?_)
          · refine x_iconst (pc := 363) (0) dL_isShape_363 (by decide) ?_
            refine x_aload_n (pc := 364) dL_isShape_364 rfl ?_
            refine x_bipush (pc := 365) (15) dL_isShape_365 (by decide) ?_
            refine t_Vi (pc := 367) (n_15 hG) qV_X3_count mL_L_9 dL_isShape_367 rfl cell_bc (nN_lt (by decide)) rfl rfl rfl ⟨by decide, by decide⟩ (Nat.le_of_ble_eq_true rfl) (Nat.le_of_ble_eq_true rfl) (Nat.le_of_ble_eq_true rfl) ?_
            refine x_cmple (pc := 370) 377 dL_isShape_370 (by decide) (fun c370 => ?_) (fun c370 => ?_)
            · refine x_iconst (pc := 377) (0) dL_isShape_377 (by decide) ?_
              refine x_istore (pc := 378) dL_isShape_378 (by decide) ?_
              refine x_iinc (pc := 380) (nI (q + 1)) dL_isShape_380 rfl (iinc_nI q) (by decide) ?_
              refine x_goto (pc := 383) 299 dL_isShape_383 (by decide) ?_
              exact x_back (ih hqn) ⟨rfl, rfl, rfl, rfl, rfl, (by simp only [tooN, b01_eq c345, c350, hw_n hV hk hqn c355, c370, decide_true, decide_false, decide_not, Bool.and_true, Bool.true_and, Bool.and_false, Bool.false_and, Bool.or_true, Bool.true_or, Bool.or_false, Bool.false_or, Bool.not_true, Bool.not_false, if_true, if_false, not_true, not_false_eq_true, not_false_iff, Bool.false_eq_true, reduceIte, or_true, true_or, or_false, false_or, and_true, true_and, and_false, false_and, ite_self]; rfl), rfl, rfl, rfl, rfl, rfl, trivial⟩
            · refine x_iconst (pc := 373) (1) dL_isShape_373 (by decide) ?_
              refine x_goto (pc := 374) 378 dL_isShape_374 (by decide) ?_
              refine x_istore (pc := 378) dL_isShape_378 (by decide) ?_
              refine x_iinc (pc := 380) (nI (q + 1)) dL_isShape_380 rfl (iinc_nI q) (by decide) ?_
              refine x_goto (pc := 383) 299 dL_isShape_383 (by decide) ?_
              exact x_back (ih hqn) ⟨rfl, rfl, rfl, rfl, rfl, (by simp only [tooN, b01_eq c345, c350, hw_n hV hk hqn c355, c370, decide_true, decide_false, decide_not, Bool.and_true, Bool.true_and, Bool.and_false, Bool.false_and, Bool.or_true, Bool.true_or, Bool.or_false, Bool.false_or, Bool.not_true, Bool.not_false, if_true, if_false, not_true, not_false_eq_true, not_false_iff, Bool.false_eq_true, reduceIte, or_true, true_or, or_false, false_or, and_true, true_and, and_false, false_and, ite_self]; rfl), rfl, rfl, rfl, rfl, rfl, trivial⟩
          · refine x_iload (pc := 358) dL_isShape_358 rfl ?_
            refine x_goto (pc := 360) 364 dL_isShape_360 (by decide) ?_
            refine x_aload_n (pc := 364) dL_isShape_364 rfl ?_
            refine x_bipush (pc := 365) (15) dL_isShape_365 (by decide) ?_
            refine t_Vi (pc := 367) (n_15 hG) qV_X3_count mL_L_9 dL_isShape_367 rfl cell_bc (nN_lt (by decide)) rfl rfl rfl ⟨by decide, by decide⟩ (Nat.le_of_ble_eq_true rfl) (Nat.le_of_ble_eq_true rfl) (Nat.le_of_ble_eq_true rfl) ?_
            refine x_cmple (pc := 370) 377 dL_isShape_370 (by decide) (fun c370 => ?_) (fun c370 => ?_)
            · refine x_iconst (pc := 377) (0) dL_isShape_377 (by decide) ?_
              refine x_istore (pc := 378) dL_isShape_378 (by decide) ?_
              refine x_iinc (pc := 380) (nI (q + 1)) dL_isShape_380 rfl (iinc_nI q) (by decide) ?_
              refine x_goto (pc := 383) 299 dL_isShape_383 (by decide) ?_
              exact x_back (ih hqn) ⟨rfl, rfl, rfl, rfl, rfl, (by simp only [tooN, b01_eq c345, c350, hw_p hV hk hqn c355, c370, decide_true, decide_false, decide_not, Bool.and_true, Bool.true_and, Bool.and_false, Bool.false_and, Bool.or_true, Bool.true_or, Bool.or_false, Bool.false_or, Bool.not_true, Bool.not_false, if_true, if_false, not_true, not_false_eq_true, not_false_iff, Bool.false_eq_true, reduceIte, or_true, true_or, or_false, false_or, and_true, true_and, and_false, false_and, ite_self]; rfl), rfl, rfl, rfl, rfl, rfl, trivial⟩
            · refine x_iconst (pc := 373) (1) dL_isShape_373 (by decide) ?_
              refine x_goto (pc := 374) 378 dL_isShape_374 (by decide) ?_
              refine x_istore (pc := 378) dL_isShape_378 (by decide) ?_
              refine x_iinc (pc := 380) (nI (q + 1)) dL_isShape_380 rfl (iinc_nI q) (by decide) ?_
              refine x_goto (pc := 383) 299 dL_isShape_383 (by decide) ?_
              exact x_back (ih hqn) ⟨rfl, rfl, rfl, rfl, rfl, (by simp only [tooN, b01_eq c345, c350, hw_p hV hk hqn c355, c370, decide_true, decide_false, decide_not, Bool.and_true, Bool.true_and, Bool.and_false, Bool.false_and, Bool.or_true, Bool.true_or, Bool.or_false, Bool.false_or, Bool.not_true, Bool.not_false, if_true, if_false, not_true, not_false_eq_true, not_false_iff, Bool.false_eq_true, reduceIte, or_true, true_or, or_false, false_or, and_true, true_and, and_false, false_and, ite_self]; rfl), rfl, rfl, rfl, rfl, rfl, trivial⟩
  exact lp 0 (by decide)
set_option maxHeartbeats 4000000 in
set_option maxRecDepth 100000 in
theorem e3_isShape (hG : GC S B w) (hV : VA w.1) (hO : okS w.1) (hR : rkP w.1) (hk : k < w.1.1) : XJ G YL_isShape (fun _ => True) (Zx G (Rt G (some (.int 1)) S B M) 0 0) 619 [(0, .ref (gB G + 0)), (1, .int (nI k)), (2, .int (setN w.1.2.2.2.2 (w.1.2.2.2.2 k) w.1.1)), (3, .int (oV (outO w.1.2.2.2.2 (w.1.2.2.2.2 k) w.1.1))), (4, .int (w.1.2.2.2.2 k 5)), (5, .int (b01 (tooN w.1 (edgQ (w.1.2.2.2.2 k)) (wayV w.1 k * w.1.2.2.2.1 1) 12))), (6, .int (b01 (hoB w.1.2.2.2.2 (w.1.2.2.2.2 k) w.1.1))), (7, .int 1), (8, .int (2 * (w.1.2.2.2.2 k 2 + w.1.2.2.2.2 k 3) - 4)), (9, .int (sumE (w.1.2.2.2.2 k) 12)), (11, .int (whyV w.1 k))] [] (nN G) (cellOf G S B M) 0 0 := by
  refine x_iload (pc := 619) dL_isShape_619 rfl ?_
  refine x_ifeq (pc := 621) 670 dL_isShape_621 (by decide) (fun h => absurd h (by decide)) (fun _ => ?_)
  refine x_iload (pc := 624) dL_isShape_624 rfl ?_
  refine x_iconst (pc := 626) (4) dL_isShape_626 (by decide) ?_
  refine x_cmpne (pc := 627) 666 dL_isShape_627 (by decide) (fun c627 => ?_) (fun c627 => ?_)
  · refine x_iconst (pc := 666) (1) dL_isShape_666 (by decide) ?_
    refine x_goto (pc := 667) 671 dL_isShape_667 (by decide) ?_
    exact x_zret rfl rfl dL_isShape_671 ⟨rfl, rfl, rfl⟩
  · refine x_aload_n (pc := 630) dL_isShape_630 rfl ?_
    refine x_bipush (pc := 631) (14) dL_isShape_631 (by decide) ?_
    refine t_Vi (pc := 633) (n_14 hG) qV_X3_count mL_L_9 dL_isShape_633 rfl cell_bc (nN_lt (by decide)) rfl rfl rfl ⟨by decide, by decide⟩ (Nat.le_of_ble_eq_true rfl) (Nat.le_of_ble_eq_true rfl) (Nat.le_of_ble_eq_true rfl) ?_
    refine x_ifne (pc := 636) 649 dL_isShape_636 (by decide) (fun c636 => ?_) (fun c636 => ?_)
    · refine x_aload_n (pc := 649) dL_isShape_649 rfl ?_
      refine x_bipush (pc := 650) (14) dL_isShape_650 (by decide) ?_
      refine t_Vi (pc := 652) (n_14 hG) qV_X3_count mL_L_9 dL_isShape_652 rfl cell_bc (nN_lt (by decide)) rfl rfl rfl ⟨by decide, by decide⟩ (Nat.le_of_ble_eq_true rfl) (Nat.le_of_ble_eq_true rfl) (Nat.le_of_ble_eq_true rfl) ?_
      refine x_ifle (pc := 655) 670 dL_isShape_655 (by decide) (fun c655 => absurd ((T_or hV).resolve_left c636) c655) (fun c655 => ?_)
      refine x_aload_n (pc := 658) dL_isShape_658 rfl ?_
      refine x_iload_n (pc := 659) dL_isShape_659 rfl ?_
      refine t_Vi (pc := 660) (k_k hG hk) qV_X3_coolsIn mL_L_75 dL_isShape_660 rfl cell_bc (nN_lt (by decide)) rfl rfl rfl ⟨by decide, by decide⟩ (Nat.le_of_ble_eq_true rfl) (Nat.le_of_ble_eq_true rfl) (Nat.le_of_ble_eq_true rfl) ?_
      refine x_ifle (pc := 663) 670 dL_isShape_663 (by decide) (fun c663 => absurd (kc_p hV hk c627 c655) c663) (fun c663 => ?_)
      refine x_iconst (pc := 666) (1) dL_isShape_666 (by decide) ?_
      refine x_goto (pc := 667) 671 dL_isShape_667 (by decide) ?_
      exact x_zret rfl rfl dL_isShape_671 ⟨rfl, rfl, rfl⟩
    · refine x_aload_n (pc := 639) dL_isShape_639 rfl ?_
      refine x_iload_n (pc := 640) dL_isShape_640 rfl ?_
      refine t_Vi (pc := 641) (k_k hG hk) qV_X3_coolsIn mL_L_75 dL_isShape_641 rfl cell_bc (nN_lt (by decide)) rfl rfl rfl ⟨by decide, by decide⟩ (Nat.le_of_ble_eq_true rfl) (Nat.le_of_ble_eq_true rfl) (Nat.le_of_ble_eq_true rfl) ?_
      refine x_bipush (pc := 644) (-5) dL_isShape_644 (by decide) ?_
      refine x_cmpeq (pc := 646) 666 dL_isShape_646 (by decide) (fun c646 => ?_) (fun c646 => absurd (kc_z c627 (fun z => by rw [c636] at z; exact absurd z (by decide))) c646)
      refine x_iconst (pc := 666) (1) dL_isShape_666 (by decide) ?_
      refine x_goto (pc := 667) 671 dL_isShape_667 (by decide) ?_
      exact x_zret rfl rfl dL_isShape_671 ⟨rfl, rfl, rfl⟩
set_option maxHeartbeats 4000000 in
set_option maxRecDepth 100000 in
theorem e2_isShape (hG : GC S B w) (hV : VA w.1) (hO : okS w.1) (hR : rkP w.1) (hk : k < w.1.1) : XJ G YL_isShape (fun _ => True) (Zx G (Rt G (some (.int 1)) S B M) 0 0) 526 [(0, .ref (gB G + 0)), (1, .int (nI k)), (2, .int (setN w.1.2.2.2.2 (w.1.2.2.2.2 k) w.1.1)), (3, .int (oV (outO w.1.2.2.2.2 (w.1.2.2.2.2 k) w.1.1))), (4, .int (w.1.2.2.2.2 k 5)), (5, .int (b01 (tooN w.1 (edgQ (w.1.2.2.2.2 k)) (wayV w.1 k * w.1.2.2.2.1 1) 12))), (6, .int (b01 (hoB w.1.2.2.2.2 (w.1.2.2.2.2 k) w.1.1))), (7, .int 1), (8, .int (2 * (w.1.2.2.2.2 k 2 + w.1.2.2.2.2 k 3) - 4)), (9, .int (sumE (w.1.2.2.2.2 k) 12)), (11, .int (whyV w.1 k))] [] (nN G) (cellOf G S B M) 0 0 := by
  obtain ⟨hr1, hr2⟩ := hR.1 k hk
  refine x_iload (pc := 526) dL_isShape_526 rfl ?_
  refine x_ifeq (pc := 528) 616 dL_isShape_528 (by decide) (fun h => absurd h (by decide)) (fun _ => ?_)
  refine x_aload_n (pc := 531) dL_isShape_531 rfl ?_
  refine x_iload_n (pc := 532) dL_isShape_532 rfl ?_
  refine x_bipush (pc := 533) (10) dL_isShape_533 (by decide) ?_
  refine t_Vi (pc := 535) (s_10 hG hk) qV_X3_shape mL_L_45 dL_isShape_535 rfl cell_bc (nN_lt (by decide)) rfl rfl rfl ⟨by decide, by decide⟩ (Nat.le_of_ble_eq_true rfl) (Nat.le_of_ble_eq_true rfl) (Nat.le_of_ble_eq_true rfl) ?_
  refine x_bipush (pc := 538) (-5) dL_isShape_538 (by decide) ?_
  refine x_cmpne (pc := 540) 547 dL_isShape_540 (by decide) (fun c540 => ?_) (fun c540 => ?_)
  · refine x_iconst (pc := 547) (0) dL_isShape_547 (by decide) ?_
    refine x_iload (pc := 548) dL_isShape_548 rfl ?_
    refine x_iconst (pc := 550) (1) dL_isShape_550 (by decide) ?_
    refine x_cmpeq (pc := 551) 558 dL_isShape_551 (by decide) (fun c551 => ?_) (fun c551 => ?_)
    · refine x_iconst (pc := 558) (0) dL_isShape_558 (by decide) ?_
      refine x_cmpne (pc := 559) 616 dL_isShape_559 (by decide) (fun h => absurd h (by decide)) (fun _ => ?_)
      refine x_iload (pc := 562) dL_isShape_562 rfl ?_
      refine x_iconst (pc := 564) (1) dL_isShape_564 (by decide) ?_
      refine x_cmpeq (pc := 565) 578 dL_isShape_565 (by decide) (fun c565 => ?_) (fun c565 => ?_)
      · refine x_iload (pc := 578) dL_isShape_578 rfl ?_
        refine x_ifgt (pc := 580) 591 dL_isShape_580 (by decide) (fun c580 => ?_) (fun c580 => ?_)
        · refine x_iload (pc := 591) dL_isShape_591 rfl ?_
          refine x_ifeq (pc := 593) 612 dL_isShape_593 (by decide) (fun c593 => ?_) (fun c593 => ?_)
          · refine x_iconst (pc := 612) (1) dL_isShape_612 (by decide) ?_
            refine x_goto (pc := 613) 617 dL_isShape_613 (by decide) ?_
            refine x_istore (pc := 617) dL_isShape_617 (by decide) ?_
            exact x_back (e3_isShape (G := G) (M := M) hG hV hO hR hk) ⟨rfl, rfl, rfl, rfl, rfl, rfl, rfl, rfl, rfl, rfl, rfl, trivial⟩
          · refine x_iload (pc := 596) dL_isShape_596 rfl ?_
            refine x_iconst (pc := 598) (4) dL_isShape_598 (by decide) ?_
            refine x_cmpeq (pc := 599) 612 dL_isShape_599 (by decide) (fun c599 => ?_) (fun c599 => ?_)
            · refine x_iconst (pc := 612) (1) dL_isShape_612 (by decide) ?_
              refine x_goto (pc := 613) 617 dL_isShape_613 (by decide) ?_
              refine x_istore (pc := 617) dL_isShape_617 (by decide) ?_
              exact x_back (e3_isShape (G := G) (M := M) hG hV hO hR hk) ⟨rfl, rfl, rfl, rfl, rfl, rfl, rfl, rfl, rfl, rfl, rfl, trivial⟩
            · refine x_aload_n (pc := 602) dL_isShape_602 rfl ?_
              refine x_iload_n (pc := 603) dL_isShape_603 rfl ?_
              refine t_Vi (pc := 604) (k_k hG hk) qV_X3_coolsIn mL_L_75 dL_isShape_604 rfl cell_bc (nN_lt (by decide)) rfl rfl rfl ⟨by decide, by decide⟩ (Nat.le_of_ble_eq_true rfl) (Nat.le_of_ble_eq_true rfl) (Nat.le_of_ble_eq_true rfl) ?_
              refine x_bipush (pc := 607) (-4) dL_isShape_607 (by decide) ?_
              refine x_cmpne (pc := 609) 616 dL_isShape_609 (by decide) (fun c609 => absurd (kc_n c593 c599) c609) (fun c609 => ?_)
              refine x_iconst (pc := 612) (1) dL_isShape_612 (by decide) ?_
              refine x_goto (pc := 613) 617 dL_isShape_613 (by decide) ?_
              refine x_istore (pc := 617) dL_isShape_617 (by decide) ?_
              exact x_back (e3_isShape (G := G) (M := M) hG hV hO hR hk) ⟨rfl, rfl, rfl, rfl, rfl, rfl, rfl, rfl, rfl, rfl, rfl, trivial⟩
        · refine x_aload_n (pc := 583) dL_isShape_583 rfl ?_
          refine x_iload_n (pc := 584) dL_isShape_584 rfl ?_
          refine t_Vi (pc := 585) (k_k hG hk) qV_X3_coolsIn mL_L_75 dL_isShape_585 rfl cell_bc (nN_lt (by decide)) rfl rfl rfl ⟨by decide, by decide⟩ (Nat.le_of_ble_eq_true rfl) (Nat.le_of_ble_eq_true rfl) (Nat.le_of_ble_eq_true rfl) ?_
          refine x_ifne (pc := 588) 616 dL_isShape_588 (by decide) (fun c588 => absurd (kc_0 (why_n0 c580 hV hk)) c588) (fun c588 => ?_)
          refine x_iload (pc := 591) dL_isShape_591 rfl ?_
          refine x_ifeq (pc := 593) 612 dL_isShape_593 (by decide) (fun c593 => ?_) (fun c593 => ?_)
          · refine x_iconst (pc := 612) (1) dL_isShape_612 (by decide) ?_
            refine x_goto (pc := 613) 617 dL_isShape_613 (by decide) ?_
            refine x_istore (pc := 617) dL_isShape_617 (by decide) ?_
            exact x_back (e3_isShape (G := G) (M := M) hG hV hO hR hk) ⟨rfl, rfl, rfl, rfl, rfl, rfl, rfl, rfl, rfl, rfl, rfl, trivial⟩
          · refine x_iload (pc := 596) dL_isShape_596 rfl ?_
            refine x_iconst (pc := 598) (4) dL_isShape_598 (by decide) ?_
            refine x_cmpeq (pc := 599) 612 dL_isShape_599 (by decide) (fun c599 => ?_) (fun c599 => ?_)
            · refine x_iconst (pc := 612) (1) dL_isShape_612 (by decide) ?_
              refine x_goto (pc := 613) 617 dL_isShape_613 (by decide) ?_
              refine x_istore (pc := 617) dL_isShape_617 (by decide) ?_
              exact x_back (e3_isShape (G := G) (M := M) hG hV hO hR hk) ⟨rfl, rfl, rfl, rfl, rfl, rfl, rfl, rfl, rfl, rfl, rfl, trivial⟩
            · refine x_aload_n (pc := 602) dL_isShape_602 rfl ?_
              refine x_iload_n (pc := 603) dL_isShape_603 rfl ?_
              refine t_Vi (pc := 604) (k_k hG hk) qV_X3_coolsIn mL_L_75 dL_isShape_604 rfl cell_bc (nN_lt (by decide)) rfl rfl rfl ⟨by decide, by decide⟩ (Nat.le_of_ble_eq_true rfl) (Nat.le_of_ble_eq_true rfl) (Nat.le_of_ble_eq_true rfl) ?_
              refine x_bipush (pc := 607) (-4) dL_isShape_607 (by decide) ?_
              refine x_cmpne (pc := 609) 616 dL_isShape_609 (by decide) (fun c609 => absurd (kc_n c593 c599) c609) (fun c609 => ?_)
              refine x_iconst (pc := 612) (1) dL_isShape_612 (by decide) ?_
              refine x_goto (pc := 613) 617 dL_isShape_613 (by decide) ?_
              refine x_istore (pc := 617) dL_isShape_617 (by decide) ?_
              exact x_back (e3_isShape (G := G) (M := M) hG hV hO hR hk) ⟨rfl, rfl, rfl, rfl, rfl, rfl, rfl, rfl, rfl, rfl, rfl, trivial⟩
      · refine x_aload_n (pc := 568) dL_isShape_568 rfl ?_
        refine x_iload_n (pc := 569) dL_isShape_569 rfl ?_
        refine x_bipush (pc := 570) (9) dL_isShape_570 (by decide) ?_
        refine t_Vi (pc := 572) (s_9 hG hk) qV_X3_shape mL_L_45 dL_isShape_572 rfl cell_bc (nN_lt (by decide)) rfl rfl rfl ⟨by decide, by decide⟩ (Nat.le_of_ble_eq_true rfl) (Nat.le_of_ble_eq_true rfl) (Nat.le_of_ble_eq_true rfl) ?_
        refine x_ifne (pc := 575) 616 dL_isShape_575 (by decide) (fun c575 => absurd (hr2 c565) c575) (fun c575 => ?_)
        refine x_iload (pc := 578) dL_isShape_578 rfl ?_
        refine x_ifgt (pc := 580) 591 dL_isShape_580 (by decide) (fun c580 => ?_) (fun c580 => ?_)
        · refine x_iload (pc := 591) dL_isShape_591 rfl ?_
          refine x_ifeq (pc := 593) 612 dL_isShape_593 (by decide) (fun c593 => ?_) (fun c593 => ?_)
          · refine x_iconst (pc := 612) (1) dL_isShape_612 (by decide) ?_
            refine x_goto (pc := 613) 617 dL_isShape_613 (by decide) ?_
            refine x_istore (pc := 617) dL_isShape_617 (by decide) ?_
            exact x_back (e3_isShape (G := G) (M := M) hG hV hO hR hk) ⟨rfl, rfl, rfl, rfl, rfl, rfl, rfl, rfl, rfl, rfl, rfl, trivial⟩
          · refine x_iload (pc := 596) dL_isShape_596 rfl ?_
            refine x_iconst (pc := 598) (4) dL_isShape_598 (by decide) ?_
            refine x_cmpeq (pc := 599) 612 dL_isShape_599 (by decide) (fun c599 => ?_) (fun c599 => ?_)
            · refine x_iconst (pc := 612) (1) dL_isShape_612 (by decide) ?_
              refine x_goto (pc := 613) 617 dL_isShape_613 (by decide) ?_
              refine x_istore (pc := 617) dL_isShape_617 (by decide) ?_
              exact x_back (e3_isShape (G := G) (M := M) hG hV hO hR hk) ⟨rfl, rfl, rfl, rfl, rfl, rfl, rfl, rfl, rfl, rfl, rfl, trivial⟩
            · refine x_aload_n (pc := 602) dL_isShape_602 rfl ?_
              refine x_iload_n (pc := 603) dL_isShape_603 rfl ?_
              refine t_Vi (pc := 604) (k_k hG hk) qV_X3_coolsIn mL_L_75 dL_isShape_604 rfl cell_bc (nN_lt (by decide)) rfl rfl rfl ⟨by decide, by decide⟩ (Nat.le_of_ble_eq_true rfl) (Nat.le_of_ble_eq_true rfl) (Nat.le_of_ble_eq_true rfl) ?_
              refine x_bipush (pc := 607) (-4) dL_isShape_607 (by decide) ?_
              refine x_cmpne (pc := 609) 616 dL_isShape_609 (by decide) (fun c609 => absurd (kc_n c593 c599) c609) (fun c609 => ?_)
              refine x_iconst (pc := 612) (1) dL_isShape_612 (by decide) ?_
              refine x_goto (pc := 613) 617 dL_isShape_613 (by decide) ?_
              refine x_istore (pc := 617) dL_isShape_617 (by decide) ?_
              exact x_back (e3_isShape (G := G) (M := M) hG hV hO hR hk) ⟨rfl, rfl, rfl, rfl, rfl, rfl, rfl, rfl, rfl, rfl, rfl, trivial⟩
        · refine x_aload_n (pc := 583) dL_isShape_583 rfl ?_
          refine x_iload_n (pc := 584) dL_isShape_584 rfl ?_
          refine t_Vi (pc := 585) (k_k hG hk) qV_X3_coolsIn mL_L_75 dL_isShape_585 rfl cell_bc (nN_lt (by decide)) rfl rfl rfl ⟨by decide, by decide⟩ (Nat.le_of_ble_eq_true rfl) (Nat.le_of_ble_eq_true rfl) (Nat.le_of_ble_eq_true rfl) ?_
          refine x_ifne (pc := 588) 616 dL_isShape_588 (by decide) (fun c588 => absurd (kc_0 (why_n0 c580 hV hk)) c588) (fun c588 => ?_)
          refine x_iload (pc := 591) dL_isShape_591 rfl ?_
          refine x_ifeq (pc := 593) 612 dL_isShape_593 (by decide) (fun c593 => ?_) (fun c593 => ?_)
          · refine x_iconst (pc := 612) (1) dL_isShape_612 (by decide) ?_
            refine x_goto (pc := 613) 617 dL_isShape_613 (by decide) ?_
            refine x_istore (pc := 617) dL_isShape_617 (by decide) ?_
            exact x_back (e3_isShape (G := G) (M := M) hG hV hO hR hk) ⟨rfl, rfl, rfl, rfl, rfl, rfl, rfl, rfl, rfl, rfl, rfl, trivial⟩
          · refine x_iload (pc := 596) dL_isShape_596 rfl ?_
            refine x_iconst (pc := 598) (4) dL_isShape_598 (by decide) ?_
            refine x_cmpeq (pc := 599) 612 dL_isShape_599 (by decide) (fun c599 => ?_) (fun c599 => ?_)
            · refine x_iconst (pc := 612) (1) dL_isShape_612 (by decide) ?_
              refine x_goto (pc := 613) 617 dL_isShape_613 (by decide) ?_
              refine x_istore (pc := 617) dL_isShape_617 (by decide) ?_
              exact x_back (e3_isShape (G := G) (M := M) hG hV hO hR hk) ⟨rfl, rfl, rfl, rfl, rfl, rfl, rfl, rfl, rfl, rfl, rfl, trivial⟩
            · refine x_aload_n (pc := 602) dL_isShape_602 rfl ?_
              refine x_iload_n (pc := 603) dL_isShape_603 rfl ?_
              refine t_Vi (pc := 604) (k_k hG hk) qV_X3_coolsIn mL_L_75 dL_isShape_604 rfl cell_bc (nN_lt (by decide)) rfl rfl rfl ⟨by decide, by decide⟩ (Nat.le_of_ble_eq_true rfl) (Nat.le_of_ble_eq_true rfl) (Nat.le_of_ble_eq_true rfl) ?_
              refine x_bipush (pc := 607) (-4) dL_isShape_607 (by decide) ?_
              refine x_cmpne (pc := 609) 616 dL_isShape_609 (by decide) (fun c609 => absurd (kc_n c593 c599) c609) (fun c609 => ?_)
              refine x_iconst (pc := 612) (1) dL_isShape_612 (by decide) ?_
              refine x_goto (pc := 613) 617 dL_isShape_613 (by decide) ?_
              refine x_istore (pc := 617) dL_isShape_617 (by decide) ?_
              exact x_back (e3_isShape (G := G) (M := M) hG hV hO hR hk) ⟨rfl, rfl, rfl, rfl, rfl, rfl, rfl, rfl, rfl, rfl, rfl, trivial⟩
    · refine x_iconst (pc := 554) (1) dL_isShape_554 (by decide) ?_
      refine x_goto (pc := 555) 559 dL_isShape_555 (by decide) ?_
      refine x_cmpne (pc := 559) 616 dL_isShape_559 (by decide) (fun _ => ?_) (fun h => absurd h (by decide))
      refine x_iconst (pc := 616) (0) dL_isShape_616 (by decide) ?_
      refine x_istore (pc := 617) dL_isShape_617 (by decide) ?_
      exact absurd (hr1.mpr c551) c540
  · refine x_iconst (pc := 543) (1) dL_isShape_543 (by decide) ?_
    refine x_goto (pc := 544) 548 dL_isShape_544 (by decide) ?_
    refine x_iload (pc := 548) dL_isShape_548 rfl ?_
    refine x_iconst (pc := 550) (1) dL_isShape_550 (by decide) ?_
    refine x_cmpeq (pc := 551) 558 dL_isShape_551 (by decide) (fun c551 => ?_) (fun c551 => ?_)
    · refine x_iconst (pc := 558) (0) dL_isShape_558 (by decide) ?_
      refine x_cmpne (pc := 559) 616 dL_isShape_559 (by decide) (fun _ => ?_) (fun h => absurd h (by decide))
      refine x_iconst (pc := 616) (0) dL_isShape_616 (by decide) ?_
      refine x_istore (pc := 617) dL_isShape_617 (by decide) ?_
      exact absurd c551 (hr1.mp c540)
    · refine x_iconst (pc := 554) (1) dL_isShape_554 (by decide) ?_
      refine x_goto (pc := 555) 559 dL_isShape_555 (by decide) ?_
      refine x_cmpne (pc := 559) 616 dL_isShape_559 (by decide) (fun h => absurd h (by decide)) (fun _ => ?_)
      refine x_iload (pc := 562) dL_isShape_562 rfl ?_
      refine x_iconst (pc := 564) (1) dL_isShape_564 (by decide) ?_
      refine x_cmpeq (pc := 565) 578 dL_isShape_565 (by decide) (fun c565 => ?_) (fun c565 => ?_)
      · refine x_iload (pc := 578) dL_isShape_578 rfl ?_
        refine x_ifgt (pc := 580) 591 dL_isShape_580 (by decide) (fun c580 => ?_) (fun c580 => ?_)
        · refine x_iload (pc := 591) dL_isShape_591 rfl ?_
          refine x_ifeq (pc := 593) 612 dL_isShape_593 (by decide) (fun c593 => ?_) (fun c593 => ?_)
          · refine x_iconst (pc := 612) (1) dL_isShape_612 (by decide) ?_
            refine x_goto (pc := 613) 617 dL_isShape_613 (by decide) ?_
            refine x_istore (pc := 617) dL_isShape_617 (by decide) ?_
            exact x_back (e3_isShape (G := G) (M := M) hG hV hO hR hk) ⟨rfl, rfl, rfl, rfl, rfl, rfl, rfl, rfl, rfl, rfl, rfl, trivial⟩
          · refine x_iload (pc := 596) dL_isShape_596 rfl ?_
            refine x_iconst (pc := 598) (4) dL_isShape_598 (by decide) ?_
            refine x_cmpeq (pc := 599) 612 dL_isShape_599 (by decide) (fun c599 => ?_) (fun c599 => ?_)
            · refine x_iconst (pc := 612) (1) dL_isShape_612 (by decide) ?_
              refine x_goto (pc := 613) 617 dL_isShape_613 (by decide) ?_
              refine x_istore (pc := 617) dL_isShape_617 (by decide) ?_
              exact x_back (e3_isShape (G := G) (M := M) hG hV hO hR hk) ⟨rfl, rfl, rfl, rfl, rfl, rfl, rfl, rfl, rfl, rfl, rfl, trivial⟩
            · refine x_aload_n (pc := 602) dL_isShape_602 rfl ?_
              refine x_iload_n (pc := 603) dL_isShape_603 rfl ?_
              refine t_Vi (pc := 604) (k_k hG hk) qV_X3_coolsIn mL_L_75 dL_isShape_604 rfl cell_bc (nN_lt (by decide)) rfl rfl rfl ⟨by decide, by decide⟩ (Nat.le_of_ble_eq_true rfl) (Nat.le_of_ble_eq_true rfl) (Nat.le_of_ble_eq_true rfl) ?_
              refine x_bipush (pc := 607) (-4) dL_isShape_607 (by decide) ?_
              refine x_cmpne (pc := 609) 616 dL_isShape_609 (by decide) (fun c609 => absurd (kc_n c593 c599) c609) (fun c609 => ?_)
              refine x_iconst (pc := 612) (1) dL_isShape_612 (by decide) ?_
              refine x_goto (pc := 613) 617 dL_isShape_613 (by decide) ?_
              refine x_istore (pc := 617) dL_isShape_617 (by decide) ?_
              exact x_back (e3_isShape (G := G) (M := M) hG hV hO hR hk) ⟨rfl, rfl, rfl, rfl, rfl, rfl, rfl, rfl, rfl, rfl, rfl, trivial⟩
        · refine x_aload_n (pc := 583) dL_isShape_583 rfl ?_
          refine x_iload_n (pc := 584) dL_isShape_584 rfl ?_
          refine t_Vi (pc := 585) (k_k hG hk) qV_X3_coolsIn mL_L_75 dL_isShape_585 rfl cell_bc (nN_lt (by decide)) rfl rfl rfl ⟨by decide, by decide⟩ (Nat.le_of_ble_eq_true rfl) (Nat.le_of_ble_eq_true rfl) (Nat.le_of_ble_eq_true rfl) ?_
          refine x_ifne (pc := 588) 616 dL_isShape_588 (by decide) (fun c588 => absurd (kc_0 (why_n0 c580 hV hk)) c588) (fun c588 => ?_)
          refine x_iload (pc := 591) dL_isShape_591 rfl ?_
          refine x_ifeq (pc := 593) 612 dL_isShape_593 (by decide) (fun c593 => ?_) (fun c593 => ?_)
          · refine x_iconst (pc := 612) (1) dL_isShape_612 (by decide) ?_
            refine x_goto (pc := 613) 617 dL_isShape_613 (by decide) ?_
            refine x_istore (pc := 617) dL_isShape_617 (by decide) ?_
            exact x_back (e3_isShape (G := G) (M := M) hG hV hO hR hk) ⟨rfl, rfl, rfl, rfl, rfl, rfl, rfl, rfl, rfl, rfl, rfl, trivial⟩
          · refine x_iload (pc := 596) dL_isShape_596 rfl ?_
            refine x_iconst (pc := 598) (4) dL_isShape_598 (by decide) ?_
            refine x_cmpeq (pc := 599) 612 dL_isShape_599 (by decide) (fun c599 => ?_) (fun c599 => ?_)
            · refine x_iconst (pc := 612) (1) dL_isShape_612 (by decide) ?_
              refine x_goto (pc := 613) 617 dL_isShape_613 (by decide) ?_
              refine x_istore (pc := 617) dL_isShape_617 (by decide) ?_
              exact x_back (e3_isShape (G := G) (M := M) hG hV hO hR hk) ⟨rfl, rfl, rfl, rfl, rfl, rfl, rfl, rfl, rfl, rfl, rfl, trivial⟩
            · refine x_aload_n (pc := 602) dL_isShape_602 rfl ?_
              refine x_iload_n (pc := 603) dL_isShape_603 rfl ?_
              refine t_Vi (pc := 604) (k_k hG hk) qV_X3_coolsIn mL_L_75 dL_isShape_604 rfl cell_bc (nN_lt (by decide)) rfl rfl rfl ⟨by decide, by decide⟩ (Nat.le_of_ble_eq_true rfl) (Nat.le_of_ble_eq_true rfl) (Nat.le_of_ble_eq_true rfl) ?_
              refine x_bipush (pc := 607) (-4) dL_isShape_607 (by decide) ?_
              refine x_cmpne (pc := 609) 616 dL_isShape_609 (by decide) (fun c609 => absurd (kc_n c593 c599) c609) (fun c609 => ?_)
              refine x_iconst (pc := 612) (1) dL_isShape_612 (by decide) ?_
              refine x_goto (pc := 613) 617 dL_isShape_613 (by decide) ?_
              refine x_istore (pc := 617) dL_isShape_617 (by decide) ?_
              exact x_back (e3_isShape (G := G) (M := M) hG hV hO hR hk) ⟨rfl, rfl, rfl, rfl, rfl, rfl, rfl, rfl, rfl, rfl, rfl, trivial⟩
      · refine x_aload_n (pc := 568) dL_isShape_568 rfl ?_
        refine x_iload_n (pc := 569) dL_isShape_569 rfl ?_
        refine x_bipush (pc := 570) (9) dL_isShape_570 (by decide) ?_
        refine t_Vi (pc := 572) (s_9 hG hk) qV_X3_shape mL_L_45 dL_isShape_572 rfl cell_bc (nN_lt (by decide)) rfl rfl rfl ⟨by decide, by decide⟩ (Nat.le_of_ble_eq_true rfl) (Nat.le_of_ble_eq_true rfl) (Nat.le_of_ble_eq_true rfl) ?_
        refine x_ifne (pc := 575) 616 dL_isShape_575 (by decide) (fun c575 => absurd (hr2 c565) c575) (fun c575 => ?_)
        refine x_iload (pc := 578) dL_isShape_578 rfl ?_
        refine x_ifgt (pc := 580) 591 dL_isShape_580 (by decide) (fun c580 => ?_) (fun c580 => ?_)
        · refine x_iload (pc := 591) dL_isShape_591 rfl ?_
          refine x_ifeq (pc := 593) 612 dL_isShape_593 (by decide) (fun c593 => ?_) (fun c593 => ?_)
          · refine x_iconst (pc := 612) (1) dL_isShape_612 (by decide) ?_
            refine x_goto (pc := 613) 617 dL_isShape_613 (by decide) ?_
            refine x_istore (pc := 617) dL_isShape_617 (by decide) ?_
            exact x_back (e3_isShape (G := G) (M := M) hG hV hO hR hk) ⟨rfl, rfl, rfl, rfl, rfl, rfl, rfl, rfl, rfl, rfl, rfl, trivial⟩
          · refine x_iload (pc := 596) dL_isShape_596 rfl ?_
            refine x_iconst (pc := 598) (4) dL_isShape_598 (by decide) ?_
            refine x_cmpeq (pc := 599) 612 dL_isShape_599 (by decide) (fun c599 => ?_) (fun c599 => ?_)
            · refine x_iconst (pc := 612) (1) dL_isShape_612 (by decide) ?_
              refine x_goto (pc := 613) 617 dL_isShape_613 (by decide) ?_
              refine x_istore (pc := 617) dL_isShape_617 (by decide) ?_
              exact x_back (e3_isShape (G := G) (M := M) hG hV hO hR hk) ⟨rfl, rfl, rfl, rfl, rfl, rfl, rfl, rfl, rfl, rfl, rfl, trivial⟩
            · refine x_aload_n (pc := 602) dL_isShape_602 rfl ?_
              refine x_iload_n (pc := 603) dL_isShape_603 rfl ?_
              refine t_Vi (pc := 604) (k_k hG hk) qV_X3_coolsIn mL_L_75 dL_isShape_604 rfl cell_bc (nN_lt (by decide)) rfl rfl rfl ⟨by decide, by decide⟩ (Nat.le_of_ble_eq_true rfl) (Nat.le_of_ble_eq_true rfl) (Nat.le_of_ble_eq_true rfl) ?_
              refine x_bipush (pc := 607) (-4) dL_isShape_607 (by decide) ?_
              refine x_cmpne (pc := 609) 616 dL_isShape_609 (by decide) (fun c609 => absurd (kc_n c593 c599) c609) (fun c609 => ?_)
              refine x_iconst (pc := 612) (1) dL_isShape_612 (by decide) ?_
              refine x_goto (pc := 613) 617 dL_isShape_613 (by decide) ?_
              refine x_istore (pc := 617) dL_isShape_617 (by decide) ?_
              exact x_back (e3_isShape (G := G) (M := M) hG hV hO hR hk) ⟨rfl, rfl, rfl, rfl, rfl, rfl, rfl, rfl, rfl, rfl, rfl, trivial⟩
        · refine x_aload_n (pc := 583) dL_isShape_583 rfl ?_
          refine x_iload_n (pc := 584) dL_isShape_584 rfl ?_
          refine t_Vi (pc := 585) (k_k hG hk) qV_X3_coolsIn mL_L_75 dL_isShape_585 rfl cell_bc (nN_lt (by decide)) rfl rfl rfl ⟨by decide, by decide⟩ (Nat.le_of_ble_eq_true rfl) (Nat.le_of_ble_eq_true rfl) (Nat.le_of_ble_eq_true rfl) ?_
          refine x_ifne (pc := 588) 616 dL_isShape_588 (by decide) (fun c588 => absurd (kc_0 (why_n0 c580 hV hk)) c588) (fun c588 => ?_)
          refine x_iload (pc := 591) dL_isShape_591 rfl ?_
          refine x_ifeq (pc := 593) 612 dL_isShape_593 (by decide) (fun c593 => ?_) (fun c593 => ?_)
          · refine x_iconst (pc := 612) (1) dL_isShape_612 (by decide) ?_
            refine x_goto (pc := 613) 617 dL_isShape_613 (by decide) ?_
            refine x_istore (pc := 617) dL_isShape_617 (by decide) ?_
            exact x_back (e3_isShape (G := G) (M := M) hG hV hO hR hk) ⟨rfl, rfl, rfl, rfl, rfl, rfl, rfl, rfl, rfl, rfl, rfl, trivial⟩
          · refine x_iload (pc := 596) dL_isShape_596 rfl ?_
            refine x_iconst (pc := 598) (4) dL_isShape_598 (by decide) ?_
            refine x_cmpeq (pc := 599) 612 dL_isShape_599 (by decide) (fun c599 => ?_) (fun c599 => ?_)
            · refine x_iconst (pc := 612) (1) dL_isShape_612 (by decide) ?_
              refine x_goto (pc := 613) 617 dL_isShape_613 (by decide) ?_
              refine x_istore (pc := 617) dL_isShape_617 (by decide) ?_
              exact x_back (e3_isShape (G := G) (M := M) hG hV hO hR hk) ⟨rfl, rfl, rfl, rfl, rfl, rfl, rfl, rfl, rfl, rfl, rfl, trivial⟩
            · refine x_aload_n (pc := 602) dL_isShape_602 rfl ?_
              refine x_iload_n (pc := 603) dL_isShape_603 rfl ?_
              refine t_Vi (pc := 604) (k_k hG hk) qV_X3_coolsIn mL_L_75 dL_isShape_604 rfl cell_bc (nN_lt (by decide)) rfl rfl rfl ⟨by decide, by decide⟩ (Nat.le_of_ble_eq_true rfl) (Nat.le_of_ble_eq_true rfl) (Nat.le_of_ble_eq_true rfl) ?_
              refine x_bipush (pc := 607) (-4) dL_isShape_607 (by decide) ?_
              refine x_cmpne (pc := 609) 616 dL_isShape_609 (by decide) (fun c609 => absurd (kc_n c593 c599) c609) (fun c609 => ?_)
              refine x_iconst (pc := 612) (1) dL_isShape_612 (by decide) ?_
              refine x_goto (pc := 613) 617 dL_isShape_613 (by decide) ?_
              refine x_istore (pc := 617) dL_isShape_617 (by decide) ?_
              exact x_back (e3_isShape (G := G) (M := M) hG hV hO hR hk) ⟨rfl, rfl, rfl, rfl, rfl, rfl, rfl, rfl, rfl, rfl, rfl, trivial⟩
set_option maxHeartbeats 4000000 in
set_option maxRecDepth 100000 in
theorem e1_isShape (hG : GC S B w) (hV : VA w.1) (hO : okS w.1) (hR : rkP w.1) (hk : k < w.1.1) : XJ G YL_isShape (fun _ => True) (Zx G (Rt G (some (.int 1)) S B M) 0 0) 427 [(0, .ref (gB G + 0)), (1, .int (nI k)), (2, .int (setN w.1.2.2.2.2 (w.1.2.2.2.2 k) w.1.1)), (3, .int (oV (outO w.1.2.2.2.2 (w.1.2.2.2.2 k) w.1.1))), (4, .int (w.1.2.2.2.2 k 5)), (5, .int (b01 (tooN w.1 (edgQ (w.1.2.2.2.2 k)) (wayV w.1 k * w.1.2.2.2.1 1) 12))), (6, .int (b01 (hoB w.1.2.2.2.2 (w.1.2.2.2.2 k) w.1.1))), (7, .int 1), (8, .int (2 * (w.1.2.2.2.2 k 2 + w.1.2.2.2.2 k 3) - 4)), (9, .int (sumE (w.1.2.2.2.2 k) 12)), (11, .int (whyV w.1 k))] [] (nN G) (cellOf G S B M) 0 0 := by
  refine x_iload (pc := 427) dL_isShape_427 rfl ?_
  refine x_ifeq (pc := 429) 523 dL_isShape_429 (by decide) (fun h => absurd h (by decide)) (fun _ => ?_)
  refine x_iload (pc := 432) dL_isShape_432 rfl ?_
  refine x_iload (pc := 434) dL_isShape_434 rfl ?_
  refine x_cmpne (pc := 436) 523 dL_isShape_436 (by decide) (fun c436 => absurd (sumE_eq (hV.sh hk)) c436) (fun c436 => ?_)
  refine x_aload_n (pc := 439) dL_isShape_439 rfl ?_
  refine x_iload_n (pc := 440) dL_isShape_440 rfl ?_
  refine x_bipush (pc := 441) (8) dL_isShape_441 (by decide) ?_
  refine t_Vi (pc := 443) (s_8 hG hk) qV_X3_shape mL_L_45 dL_isShape_443 rfl cell_bc (nN_lt (by decide)) rfl rfl rfl ⟨by decide, by decide⟩ (Nat.le_of_ble_eq_true rfl) (Nat.le_of_ble_eq_true rfl) (Nat.le_of_ble_eq_true rfl) ?_
  refine x_iload (pc := 446) dL_isShape_446 rfl ?_
  refine x_cmpne (pc := 448) 523 dL_isShape_448 (by decide) (fun c448 => absurd rfl c448) (fun c448 => ?_)
  refine x_aload_n (pc := 451) dL_isShape_451 rfl ?_
  refine x_iload_n (pc := 452) dL_isShape_452 rfl ?_
  refine x_bipush (pc := 453) (7) dL_isShape_453 (by decide) ?_
  refine t_Vi (pc := 455) (s_7 hG hk) qV_X3_shape mL_L_45 dL_isShape_455 rfl cell_bc (nN_lt (by decide)) rfl rfl rfl ⟨by decide, by decide⟩ (Nat.le_of_ble_eq_true rfl) (Nat.le_of_ble_eq_true rfl) (Nat.le_of_ble_eq_true rfl) ?_
  refine x_iload_n (pc := 458) dL_isShape_458 rfl ?_
  refine x_cmpne (pc := 459) 523 dL_isShape_459 (by decide) (fun c459 => absurd rfl c459) (fun c459 => ?_)
  refine x_aload_n (pc := 462) dL_isShape_462 rfl ?_
  refine x_iload_n (pc := 463) dL_isShape_463 rfl ?_
  refine x_bipush (pc := 464) (6) dL_isShape_464 (by decide) ?_
  refine t_Vi (pc := 466) (s_6 hG hk) qV_X3_shape mL_L_45 dL_isShape_466 rfl cell_bc (nN_lt (by decide)) rfl rfl rfl ⟨by decide, by decide⟩ (Nat.le_of_ble_eq_true rfl) (Nat.le_of_ble_eq_true rfl) (Nat.le_of_ble_eq_true rfl) ?_
  refine x_iload_n (pc := 469) dL_isShape_469 rfl ?_
  refine x_cmpne (pc := 470) 523 dL_isShape_470 (by decide) (fun c470 => absurd rfl c470) (fun c470 => ?_)
  refine x_aload_n (pc := 473) dL_isShape_473 rfl ?_
  refine x_iload_n (pc := 474) dL_isShape_474 rfl ?_
  refine t_Vi (pc := 475) (r_k hG hk) qV_X3_reason mL_L_69 dL_isShape_475 rfl cell_bc (nN_lt (by decide)) rfl rfl rfl ⟨by decide, by decide⟩ (Nat.le_of_ble_eq_true rfl) (Nat.le_of_ble_eq_true rfl) (Nat.le_of_ble_eq_true rfl) ?_
  refine x_iload (pc := 478) dL_isShape_478 rfl ?_
  refine x_cmpne (pc := 480) 523 dL_isShape_480 (by decide) (fun c480 => absurd rfl c480) (fun c480 => ?_)
  refine x_aload_n (pc := 483) dL_isShape_483 rfl ?_
  refine x_iload_n (pc := 484) dL_isShape_484 rfl ?_
  refine t_Vi (pc := 485) (t_k hG hk) qV_X3_takes mL_L_72 dL_isShape_485 rfl cell_bc (nN_lt (by decide)) rfl rfl rfl ⟨by decide, by decide⟩ (Nat.le_of_ble_eq_true rfl) (Nat.le_of_ble_eq_true rfl) (Nat.le_of_ble_eq_true rfl) ?_
  refine x_iload (pc := 488) dL_isShape_488 rfl ?_
  refine x_ifle (pc := 490) 498 dL_isShape_490 (by decide) (fun c490 => ?_) (fun c490 => ?_)
  · refine x_aload_n (pc := 498) dL_isShape_498 rfl ?_
    refine x_iload_n (pc := 499) dL_isShape_499 rfl ?_
    refine t_Si (pc := 500) (l_goes hG hV hk) qS_L_goes mL_L_62 dL_isShape_500 rfl rfl rfl ⟨by decide, by decide⟩ (Nat.le_of_ble_eq_true rfl) (Nat.le_of_ble_eq_true rfl) (Nat.le_of_ble_eq_true rfl) ?_
    refine x_iconst (pc := 503) (2) dL_isShape_503 (by decide) ?_
    refine x_aload_n (pc := 504) dL_isShape_504 rfl ?_
    refine x_iconst (pc := 505) (5) dL_isShape_505 (by decide) ?_
    refine t_Vi (pc := 506) (n_5 hG) qV_X3_count mL_L_9 dL_isShape_506 rfl cell_bc (nN_lt (by decide)) rfl rfl rfl ⟨by decide, by decide⟩ (Nat.le_of_ble_eq_true rfl) (Nat.le_of_ble_eq_true rfl) (Nat.le_of_ble_eq_true rfl) ?_
    refine x_iconst (pc := 509) (4) dL_isShape_509 (by decide) ?_
    refine x_idiv (pc := 510) dL_isShape_510 (by decide) ?_
    refine x_iadd (pc := 511) dL_isShape_511 ?_
    refine x_iload (pc := 512) dL_isShape_512 rfl ?_
    refine x_imul (pc := 514) dL_isShape_514 ?_
    refine x_iadd (pc := 515) dL_isShape_515 ?_
    refine x_cmpne (pc := 516) 523 dL_isShape_516 (by decide) (fun c516 => absurd (tc_w (st_0 hV hk c490)) c516) (fun c516 => ?_)
    refine x_iconst (pc := 519) (1) dL_isShape_519 (by decide) ?_
    refine x_goto (pc := 520) 524 dL_isShape_520 (by decide) ?_
    refine x_istore (pc := 524) dL_isShape_524 (by decide) ?_
    exact x_back (e2_isShape (G := G) (M := M) hG hV hO hR hk) ⟨rfl, rfl, rfl, rfl, rfl, rfl, rfl, rfl, rfl, rfl, rfl, trivial⟩
  · refine x_bipush (pc := 493) (-4) dL_isShape_493 (by decide) ?_
    refine x_goto (pc := 495) 516 dL_isShape_495 (by decide) ?_
    refine x_cmpne (pc := 516) 523 dL_isShape_516 (by decide) (fun c516 => absurd (tc_n (fun z => absurd c490 (by rw [z]; decide))) c516) (fun c516 => ?_)
    refine x_iconst (pc := 519) (1) dL_isShape_519 (by decide) ?_
    refine x_goto (pc := 520) 524 dL_isShape_520 (by decide) ?_
    refine x_istore (pc := 524) dL_isShape_524 (by decide) ?_
    exact x_back (e2_isShape (G := G) (M := M) hG hV hO hR hk) ⟨rfl, rfl, rfl, rfl, rfl, rfl, rfl, rfl, rfl, rfl, rfl, trivial⟩
set_option maxHeartbeats 4000000 in
set_option maxRecDepth 100000 in
theorem e0_isShape (hG : GC S B w) (hV : VA w.1) (hO : okS w.1) (hR : rkP w.1) (hk : k < w.1.1) : XJ G YL_isShape (fun _ => True) (Zx G (Rt G (some (.int 1)) S B M) 0 0) 386 [(0, .ref (gB G + 0)), (1, .int (nI k)), (2, .int (setN w.1.2.2.2.2 (w.1.2.2.2.2 k) w.1.1)), (3, .int (oV (outO w.1.2.2.2.2 (w.1.2.2.2.2 k) w.1.1))), (4, .int (w.1.2.2.2.2 k 5)), (5, .int (b01 (tooN w.1 (edgQ (w.1.2.2.2.2 k)) (wayV w.1 k * w.1.2.2.2.1 1) 12))), (6, .int (b01 (hoB w.1.2.2.2.2 (w.1.2.2.2.2 k) w.1.1))), (7, .int 1), (8, .int (2 * (w.1.2.2.2.2 k 2 + w.1.2.2.2.2 k 3) - 4)), (9, .int (sumE (w.1.2.2.2.2 k) 12))] [] (nN G) (cellOf G S B M) 0 0 := by
  have e427 := e1_isShape (G := G) (M := M) hG hV hO hR hk
  refine x_iload (pc := 386) dL_isShape_386 rfl ?_
  refine x_ifle (pc := 388) 396 dL_isShape_388 (by decide) (fun c388 => ?_) (fun c388 => ?_)
  · refine x_aload_n (pc := 396) dL_isShape_396 rfl ?_
    refine x_bipush (pc := 397) (16) dL_isShape_397 (by decide) ?_
    refine t_Vi (pc := 399) (n_16 hG) qV_X3_count mL_L_9 dL_isShape_399 rfl cell_bc (nN_lt (by decide)) rfl rfl rfl ⟨by decide, by decide⟩ (Nat.le_of_ble_eq_true rfl) (Nat.le_of_ble_eq_true rfl) (Nat.le_of_ble_eq_true rfl) ?_
    refine x_iconst (pc := 402) (1) dL_isShape_402 (by decide) ?_
    refine x_cmpne (pc := 403) 415 dL_isShape_403 (by decide) (fun c403 => ?_) (fun c403 => ?_)
    · refine x_iload (pc := 415) dL_isShape_415 rfl ?_
      refine x_ifeq (pc := 417) 424 dL_isShape_417 (by decide) (fun c417 => ?_) (fun c417 => ?_)
      · refine x_iconst (pc := 424) (0) dL_isShape_424 (by decide) ?_
        refine x_istore (pc := 425) dL_isShape_425 (by decide) ?_
        have hw : whyV w.1 k = 0 := by rw [why_w hV hk (st_0 hV hk c388)]; simp only [c403, b01_eq c417, decide_true, decide_false, decide_not, Bool.and_true, Bool.true_and, Bool.and_false, Bool.false_and, Bool.or_true, Bool.true_or, Bool.or_false, Bool.false_or, Bool.not_true, Bool.not_false, if_true, if_false, not_true, not_false_eq_true, not_false_iff, Bool.false_eq_true, reduceIte, or_true, true_or, or_false, false_or, and_true, true_and, and_false, false_and, ite_self]
        rw [hw] at e427
        exact x_back e427 ⟨rfl, rfl, rfl, rfl, rfl, rfl, rfl, rfl, rfl, rfl, rfl, trivial⟩
      · refine x_iconst (pc := 420) (4) dL_isShape_420 (by decide) ?_
        refine x_goto (pc := 421) 425 dL_isShape_421 (by decide) ?_
        refine x_istore (pc := 425) dL_isShape_425 (by decide) ?_
        have hw : whyV w.1 k = 4 := by rw [why_w hV hk (st_0 hV hk c388)]; simp only [c403, b01_ne c417, decide_true, decide_false, decide_not, Bool.and_true, Bool.true_and, Bool.and_false, Bool.false_and, Bool.or_true, Bool.true_or, Bool.or_false, Bool.false_or, Bool.not_true, Bool.not_false, if_true, if_false, not_true, not_false_eq_true, not_false_iff, Bool.false_eq_true, reduceIte, or_true, true_or, or_false, false_or, and_true, true_and, and_false, false_and, ite_self]
        rw [hw] at e427
        exact x_back e427 ⟨rfl, rfl, rfl, rfl, rfl, rfl, rfl, rfl, rfl, rfl, rfl, trivial⟩
    · refine x_iload (pc := 406) dL_isShape_406 rfl ?_
      refine x_ifeq (pc := 408) 415 dL_isShape_408 (by decide) (fun c408 => ?_) (fun c408 => ?_)
      · refine x_iload (pc := 415) dL_isShape_415 rfl ?_
        refine x_ifeq (pc := 417) 424 dL_isShape_417 (by decide) (fun c417 => ?_) (fun c417 => ?_)
        · refine x_iconst (pc := 424) (0) dL_isShape_424 (by decide) ?_
          refine x_istore (pc := 425) dL_isShape_425 (by decide) ?_
          have hw : whyV w.1 k = 0 := by rw [why_w hV hk (st_0 hV hk c388)]; simp only [eq_true c403, b01_eq c408, b01_eq c417, decide_true, decide_false, decide_not, Bool.and_true, Bool.true_and, Bool.and_false, Bool.false_and, Bool.or_true, Bool.true_or, Bool.or_false, Bool.false_or, Bool.not_true, Bool.not_false, if_true, if_false, not_true, not_false_eq_true, not_false_iff, Bool.false_eq_true, reduceIte, or_true, true_or, or_false, false_or, and_true, true_and, and_false, false_and, ite_self]
          rw [hw] at e427
          exact x_back e427 ⟨rfl, rfl, rfl, rfl, rfl, rfl, rfl, rfl, rfl, rfl, rfl, trivial⟩
        · refine x_iconst (pc := 420) (4) dL_isShape_420 (by decide) ?_
          refine x_goto (pc := 421) 425 dL_isShape_421 (by decide) ?_
          refine x_istore (pc := 425) dL_isShape_425 (by decide) ?_
          have hw : whyV w.1 k = 4 := by rw [why_w hV hk (st_0 hV hk c388)]; simp only [eq_true c403, b01_eq c408, b01_ne c417, decide_true, decide_false, decide_not, Bool.and_true, Bool.true_and, Bool.and_false, Bool.false_and, Bool.or_true, Bool.true_or, Bool.or_false, Bool.false_or, Bool.not_true, Bool.not_false, if_true, if_false, not_true, not_false_eq_true, not_false_iff, Bool.false_eq_true, reduceIte, or_true, true_or, or_false, false_or, and_true, true_and, and_false, false_and, ite_self]
          rw [hw] at e427
          exact x_back e427 ⟨rfl, rfl, rfl, rfl, rfl, rfl, rfl, rfl, rfl, rfl, rfl, trivial⟩
      · refine x_iconst (pc := 411) (3) dL_isShape_411 (by decide) ?_
        refine x_goto (pc := 412) 425 dL_isShape_412 (by decide) ?_
        refine x_istore (pc := 425) dL_isShape_425 (by decide) ?_
        have hw : whyV w.1 k = 3 := by rw [why_w hV hk (st_0 hV hk c388)]; simp only [eq_true c403, b01_ne c408, decide_true, decide_false, decide_not, Bool.and_true, Bool.true_and, Bool.and_false, Bool.false_and, Bool.or_true, Bool.true_or, Bool.or_false, Bool.false_or, Bool.not_true, Bool.not_false, if_true, if_false, not_true, not_false_eq_true, not_false_iff, Bool.false_eq_true, reduceIte, or_true, true_or, or_false, false_or, and_true, true_and, and_false, false_and, ite_self]
        rw [hw] at e427
        exact x_back e427 ⟨rfl, rfl, rfl, rfl, rfl, rfl, rfl, rfl, rfl, rfl, rfl, trivial⟩
  · refine x_iload (pc := 391) dL_isShape_391 rfl ?_
    refine x_goto (pc := 393) 425 dL_isShape_393 (by decide) ?_
    refine x_istore (pc := 425) dL_isShape_425 (by decide) ?_
    rw [why_st hV hk c388] at e427
    exact x_back e427 ⟨rfl, rfl, rfl, rfl, rfl, rfl, rfl, rfl, rfl, rfl, rfl, trivial⟩
set_option maxHeartbeats 4000000 in
set_option maxRecDepth 100000 in
theorem l_isShape (hG : GC S B w) (hV : VA w.1) (hO : okS w.1) (hR : rkP w.1) (hk : k < w.1.1) : Ct G yL_isShape YL_isShape 0 0 [.ref (gB G + 0), .int (nI k)] (nN G) (cellOf G S B M) (Rt G (some (.int 1)) S B M) := by
  refine ct_of (by decide +kernel) rfl rfl (Nat.le_of_ble_eq_true rfl) (by simp [Value.category]) ?_
  refine x_sub (l' := [(0, .ref (gB G + 0)), (1, .int (nI k))]) ⟨rfl, rfl, trivial⟩ ?_
  have e386 := e0_isShape (G := G) (M := M) hG hV hO hR hk
  have e299 := lp2_isShape (G := G) (M := M) hG hV hO hR hk e386
  have e271 : XJ G YL_isShape (fun _ => True) (Zx G (Rt G (some (.int 1)) S B M) 0 0) 271 [(0, .ref (gB G + 0)), (1, .int (nI k)), (2, .int (setN w.1.2.2.2.2 (w.1.2.2.2.2 k) w.1.1)), (3, .int (oV (outO w.1.2.2.2.2 (w.1.2.2.2.2 k) w.1.1))), (4, .int (w.1.2.2.2.2 k 5)), (5, .int 0), (6, .int (b01 (hoB w.1.2.2.2.2 (w.1.2.2.2.2 k) w.1.1))), (7, .int 1), (8, .int (nI w.1.1))] [] (nN G) (cellOf G S B M) 0 0 := by
    refine x_iconst (pc := 271) (2) dL_isShape_271 (by decide) ?_
    refine x_aload_n (pc := 272) dL_isShape_272 rfl ?_
    refine x_iload_n (pc := 273) dL_isShape_273 rfl ?_
    refine x_iconst (pc := 274) (2) dL_isShape_274 (by decide) ?_
    refine t_Vi (pc := 275) (s_2 hG hk) qV_X3_shape mL_L_45 dL_isShape_275 rfl cell_bc (nN_lt (by decide)) rfl rfl rfl ⟨by decide, by decide⟩ (Nat.le_of_ble_eq_true rfl) (Nat.le_of_ble_eq_true rfl) (Nat.le_of_ble_eq_true rfl) ?_
    refine x_aload_n (pc := 278) dL_isShape_278 rfl ?_
    refine x_iload_n (pc := 279) dL_isShape_279 rfl ?_
    refine x_iconst (pc := 280) (3) dL_isShape_280 (by decide) ?_
    refine t_Vi (pc := 281) (s_3 hG hk) qV_X3_shape mL_L_45 dL_isShape_281 rfl cell_bc (nN_lt (by decide)) rfl rfl rfl ⟨by decide, by decide⟩ (Nat.le_of_ble_eq_true rfl) (Nat.le_of_ble_eq_true rfl) (Nat.le_of_ble_eq_true rfl) ?_
    refine x_iadd (pc := 284) dL_isShape_284 ?_
    refine x_imul (pc := 285) dL_isShape_285 ?_
    refine x_iconst (pc := 286) (4) dL_isShape_286 (by decide) ?_
    refine x_isub (pc := 287) dL_isShape_287 ?_
    refine x_istore (pc := 288) dL_isShape_288 (by decide) ?_
    refine x_iconst (pc := 290) (0) dL_isShape_290 (by decide) ?_
    refine x_istore (pc := 291) dL_isShape_291 (by decide) ?_
    refine x_iconst (pc := 293) (0) dL_isShape_293 (by decide) ?_
    refine x_istore (pc := 294) dL_isShape_294 (by decide) ?_
    refine x_iconst (pc := 296) (0) dL_isShape_296 (by decide) ?_
    refine x_istore (pc := 297) dL_isShape_297 (by decide) ?_
    exact x_back e299 ⟨rfl, rfl, rfl, rfl, rfl, rfl, rfl, rfl, rfl, rfl, rfl, trivial⟩
  have e25 := lp_isShape (G := G) (M := M) hG hV hO hR hk e271
  refine x_iconst (pc := 0) (0) dL_isShape_0 (by decide) ?_
  refine x_istore_n (pc := 1) dL_isShape_1 (by decide) ?_
  refine x_bipush (pc := 2) (-5) dL_isShape_2 (by decide) ?_
  refine x_istore_n (pc := 4) dL_isShape_4 (by decide) ?_
  refine x_aload_n (pc := 5) dL_isShape_5 rfl ?_
  refine x_iload_n (pc := 6) dL_isShape_6 rfl ?_
  refine x_iconst (pc := 7) (5) dL_isShape_7 (by decide) ?_
  refine t_Vi (pc := 8) (s_5 hG hk) qV_X3_shape mL_L_45 dL_isShape_8 rfl cell_bc (nN_lt (by decide)) rfl rfl rfl ⟨by decide, by decide⟩ (Nat.le_of_ble_eq_true rfl) (Nat.le_of_ble_eq_true rfl) (Nat.le_of_ble_eq_true rfl) ?_
  refine x_istore (pc := 11) dL_isShape_11 (by decide) ?_
  refine x_iconst (pc := 13) (0) dL_isShape_13 (by decide) ?_
  refine x_istore (pc := 14) dL_isShape_14 (by decide) ?_
  refine x_iconst (pc := 16) (0) dL_isShape_16 (by decide) ?_
  refine x_istore (pc := 17) dL_isShape_17 (by decide) ?_
  refine x_iconst (pc := 19) (1) dL_isShape_19 (by decide) ?_
  refine x_istore (pc := 20) dL_isShape_20 (by decide) ?_
  refine x_iconst (pc := 22) (0) dL_isShape_22 (by decide) ?_
  refine x_istore (pc := 23) dL_isShape_23 (by decide) ?_
  exact x_back e25 ⟨rfl, rfl, rfl, rfl, rfl, rfl, rfl, rfl, rfl, trivial⟩
end ISSHAPE
