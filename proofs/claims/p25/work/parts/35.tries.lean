/-! the law: tries (rows laid by wip/p25/p35.py) -/
section TRIES
variable {G : GX} {S : Nat → Sh} {B : Bc} {M : Md} {w : Wt} {k : Nat} {t : Int}
theorem cut_tk {A : Ab} (h5 : A.2.2.2.2 k 5 = 0) : (cutA A k).2.1 4 = A.2.1 4 + tcV A k := by
  unfold tcV
  rw [if_pos h5]
  exact Int32.add_assoc _ _ _
theorem cut_bn (A : Ab) : (cutA A k).2.1 5 = A.2.1 5 + (2 + A.2.1 3 / 4) * edgV (A.2.2.2.2 k) := by
  show A.2.1 5 + burV A k = _
  unfold burV
  rw [Int32.mul_comm]
theorem cut_5 (A : Ab) : (cutA A k).2.2.2.2 k 5 = 1 := by
  obtain ⟨c, tt, -, e, -⟩ := cut_sh A k
  rw [e]
  rfl
theorem hist_4 (hG : GC S B w) : w.2.1.length ≤ 4 := hG.2.1.2.1
/-- what trying leaves -/
def TrP (w : Wt) (t : Int) (x : Int32) (S : Nat → Sh) (B : Bc) : Prop := x = 1 ∧ ∃ w' : Wt, GC S B w' ∧ w'.1 = w.1 ∧ LV t w'
set_option maxHeartbeats 4000000 in
set_option maxRecDepth 100000 in
theorem t1_tries {w' : Wt} (hG : GC S B w') (hw : w'.1 = w.1) (hL : LV t w') : XJ G YL_tries (fun _ => True) (Zx G (Rx G M (TrP w t)) 0 0) 246 [(0, .ref (gB G + 0)), (5, .int (w.1.2.1 4)), (6, .int 1)] [] (nN G) (cellOf G S B M) 0 0 := by
  refine x_iload (pc := 246) dL_tries_246 rfl ?_
  refine x_ifeq (pc := 248) 266 dL_tries_248 (by decide) (fun h => absurd h (by decide)) (fun _ => ?_)
  refine x_aload_n (pc := 251) dL_tries_251 rfl ?_
  refine x_bipush (pc := 252) (8) dL_tries_252 (by decide) ?_
  refine t_Vi (pc := 254) (n_8 hG) qV_X3_count mL_L_9 dL_tries_254 rfl cell_bc (nN_lt (by decide)) rfl rfl rfl ⟨by decide, by decide⟩ (Nat.le_of_ble_eq_true rfl) (Nat.le_of_ble_eq_true rfl) (Nat.le_of_ble_eq_true rfl) ?_
  refine x_iload (pc := 257) dL_tries_257 rfl ?_
  refine x_cmpne (pc := 259) 266 dL_tries_259 (by decide) (fun c259 => absurd (by rw [hw]) c259) (fun c259 => ?_)
  refine x_iconst (pc := 262) (1) dL_tries_262 (by decide) ?_
  refine x_goto (pc := 263) 267 dL_tries_263 (by decide) ?_
  exact x_zret rfl rfl dL_tries_267 ⟨_, _, _, rfl, rfl, rfl, rfl, _, hG, hw, hL⟩
set_option maxHeartbeats 4000000 in
set_option maxRecDepth 100000 in
theorem t2_tries {w' : Wt} (hG : GC S B w') (hw : w'.1 = w.1) (hL : LV t w') {y : Int32} (hy : ¬ y = 4) : XJ G YL_tries (fun _ => True) (Zx G (Rx G M (TrP w t)) 0 0) 147 [(0, .ref (gB G + 0)), (4, .int y), (5, .int (w.1.2.1 4)), (6, .int 1)] [] (nN G) (cellOf G S B M) 0 0 := by
  refine x_iload (pc := 147) dL_tries_147 rfl ?_
  refine x_iconst (pc := 149) (4) dL_tries_149 (by decide) ?_
  refine x_cmpne (pc := 150) 161 dL_tries_150 (by decide) (fun c150 => ?_) (fun c150 => absurd c150 hy)
  refine x_iconst (pc := 161) (0) dL_tries_161 (by decide) ?_
  refine x_istore (pc := 162) dL_tries_162 (by decide) ?_
  refine x_iload (pc := 164) dL_tries_164 rfl ?_
  refine x_ifeq (pc := 166) 246 dL_tries_166 (by decide) (fun h => absurd h (by decide)) (fun _ => ?_)
  refine x_iload (pc := 169) dL_tries_169 rfl ?_
  refine x_ifle (pc := 171) 246 dL_tries_171 (by decide) (fun _ => ?_) (fun h => absurd h (by decide))
  exact x_back (t1_tries (G := G) (M := M) hG hw hL) ⟨rfl, rfl, rfl, trivial⟩
set_option maxHeartbeats 4000000 in
set_option maxRecDepth 100000 in
theorem t3_tries (hG : GC S B w) (hL : LV t w) (ht : t ≤ 900000) (hk : k < w.1.1) (h4 : whyV w.1 k = 4) : XJ G YL_tries (fun _ => True) (Zx G (Rx G M (TrP w t)) 0 0) 147 [(0, .ref (gB G + 0)), (3, .int (nI k)), (4, .int (whyV w.1 k)), (5, .int (w.1.2.1 4)), (6, .int 1)] [] (nN G) (cellOf G S B M) 0 0 := by
  have hV := hL.1.1
  refine x_iload (pc := 147) dL_tries_147 rfl ?_
  refine x_iconst (pc := 149) (4) dL_tries_149 (by decide) ?_
  refine x_cmpne (pc := 150) 161 dL_tries_150 (by decide) (fun c150 => absurd h4 c150) (fun c150 => ?_)
  refine x_aload_n (pc := 153) dL_tries_153 rfl ?_
  refine x_iload_n (pc := 154) dL_tries_154 rfl ?_
  refine t_Vi (pc := 155) (k_k hG hk) qV_X3_coolsIn mL_L_75 dL_tries_155 rfl cell_bc (nN_lt (by decide)) rfl rfl rfl ⟨by decide, by decide⟩ (Nat.le_of_ble_eq_true rfl) (Nat.le_of_ble_eq_true rfl) (Nat.le_of_ble_eq_true rfl) ?_
  refine x_goto (pc := 158) 162 dL_tries_158 (by decide) ?_
  refine x_istore (pc := 162) dL_tries_162 (by decide) ?_
  refine x_iload (pc := 164) dL_tries_164 rfl ?_
  refine x_ifeq (pc := 166) 246 dL_tries_166 (by decide) (fun h => absurd h (by decide)) (fun _ => ?_)
  refine x_iload (pc := 169) dL_tries_169 rfl ?_
  refine x_ifle (pc := 171) 246 dL_tries_171 (by decide) (fun c171 => ?_) (fun c171 => ?_)
  · exact x_back (t1_tries (G := G) (M := M) hG rfl hL) ⟨rfl, rfl, rfl, trivial⟩
  · refine x_iload (pc := 174) dL_tries_174 rfl ?_
    refine x_sipush (pc := 176) (1000) dL_tries_176 (by decide) ?_
    refine x_cmpge (pc := 179) 246 dL_tries_179 (by decide) (fun c179 => ?_) (fun c179 => ?_)
    · exact x_back (t1_tries (G := G) (M := M) hG rfl hL) ⟨rfl, rfl, rfl, trivial⟩
    · have hT : 0 < w.1.2.2.2.1 1 := Decidable.by_contra (fun z => by rw [kc_z h4 z] at c171; exact absurd c171 (by decide))
      have k9 := kc_9 hV hk c171
      have k10 : iR (kcV w.1 k) 1 999 := ⟨k9.1, by have := k9.2; omega⟩
      obtain ⟨x1, x2⟩ := wait_X hV k10
      have cc := c_X3_pause (G := G) (M := M) hG (kcV w.1 k)
      rw [x1] at cc
      obtain ⟨u1, u2, u3⟩ := und_rec hL (hist_4 hG) (r := (grV (coolA w.1 (kcV w.1 k)), coolA w.1 (kcV w.1 k))) x2
      refine x_aload_n (pc := 182) dL_tries_182 rfl ?_
      refine x_iload (pc := 183) dL_tries_183 rfl ?_
      refine e_Vi (pc := 185) (cc) qV_X3_pause mL_L_35 dL_tries_185 rfl cell_bc (nN_lt (by decide)) rfl rfl rfl ⟨by decide, by decide⟩ (Nat.le_of_ble_eq_true rfl) (Nat.le_of_ble_eq_true rfl) (Nat.le_of_ble_eq_true rfl) ?_
      intro a q1
      obtain ⟨S1, B1⟩ := a
      dsimp only at q1 ⊢
      refine x_iflt (pc := 188) 243 dL_tries_188 (by decide) (fun c188 => absurd c188 x2) (fun c188 => ?_)
      refine x_aload_n (pc := 191) dL_tries_191 rfl ?_
      refine x_iload_n (pc := 192) dL_tries_192 rfl ?_
      refine t_Vi (pc := 193) (r_k q1 (show k < _ from hk)) qV_X3_reason mL_L_69 dL_tries_193 rfl cell_bc (nN_lt (by decide)) rfl rfl rfl ⟨by decide, by decide⟩ (Nat.le_of_ble_eq_true rfl) (Nat.le_of_ble_eq_true rfl) (Nat.le_of_ble_eq_true rfl) ?_
      refine x_ifne (pc := 196) 243 dL_tries_196 (by decide) (fun c196 => absurd (cool_hit hV hk h4 hT) c196) (fun c196 => ?_)
      refine x_aload_n (pc := 199) dL_tries_199 rfl ?_
      refine e_Vi (pc := 200) (c_X3_undo q1) qV_X3_undo mL_L_85 dL_tries_200 rfl cell_bc (nN_lt (by decide)) rfl rfl rfl ⟨by decide, by decide⟩ (Nat.le_of_ble_eq_true rfl) (Nat.le_of_ble_eq_true rfl) (Nat.le_of_ble_eq_true rfl) ?_
      intro a q2
      obtain ⟨S2, B2⟩ := a
      dsimp only at q2 ⊢
      refine x_iflt (pc := 203) 243 dL_tries_203 (by decide) (fun c203 => absurd c203 u2) (fun c203 => ?_)
      refine x_iload (pc := 206) dL_tries_206 rfl ?_
      refine x_iconst (pc := 208) (1) dL_tries_208 (by decide) ?_
      refine x_cmpeq (pc := 209) 239 dL_tries_209 (by decide) (fun c209 => ?_) (fun c209 => ?_)
      · refine x_iconst (pc := 239) (1) dL_tries_239 (by decide) ?_
        refine x_goto (pc := 240) 244 dL_tries_240 (by decide) ?_
        refine x_istore (pc := 244) dL_tries_244 (by decide) ?_
        exact x_back (t1_tries (G := G) (M := M) q2 u1 u3) ⟨rfl, rfl, rfl, trivial⟩
      · obtain ⟨m1, m2⟩ := cool_miss hV hk h4 hT c209
        obtain ⟨y1, y2⟩ := wait_X hV m2
        have cd := c_X3_pause (G := G) (M := M) q2 (kcV w.1 k - 1)
        rw [u1, y1] at cd
        obtain ⟨v1, v2, v3⟩ := und_rec u3 (hist_4 q2) (r := (grV (coolA w.1 (kcV w.1 k - 1)), coolA w.1 (kcV w.1 k - 1))) y2
        refine x_aload_n (pc := 212) dL_tries_212 rfl ?_
        refine x_iload (pc := 213) dL_tries_213 rfl ?_
        refine x_iconst (pc := 215) (1) dL_tries_215 (by decide) ?_
        refine x_isub (pc := 216) dL_tries_216 ?_
        refine e_Vi (pc := 217) (cd) qV_X3_pause mL_L_35 dL_tries_217 rfl cell_bc (nN_lt (by decide)) rfl rfl rfl ⟨by decide, by decide⟩ (Nat.le_of_ble_eq_true rfl) (Nat.le_of_ble_eq_true rfl) (Nat.le_of_ble_eq_true rfl) ?_
        intro a q3
        obtain ⟨S3, B3⟩ := a
        dsimp only at q3 ⊢
        refine x_iflt (pc := 220) 243 dL_tries_220 (by decide) (fun c220 => absurd c220 y2) (fun c220 => ?_)
        refine x_aload_n (pc := 223) dL_tries_223 rfl ?_
        refine x_iload_n (pc := 224) dL_tries_224 rfl ?_
        refine t_Vi (pc := 225) (r_k q3 (show k < _ from hk)) qV_X3_reason mL_L_69 dL_tries_225 rfl cell_bc (nN_lt (by decide)) rfl rfl rfl ⟨by decide, by decide⟩ (Nat.le_of_ble_eq_true rfl) (Nat.le_of_ble_eq_true rfl) (Nat.le_of_ble_eq_true rfl) ?_
        refine x_iconst (pc := 228) (4) dL_tries_228 (by decide) ?_
        refine x_cmpne (pc := 229) 243 dL_tries_229 (by decide) (fun c229 => absurd m1 c229) (fun c229 => ?_)
        refine x_aload_n (pc := 232) dL_tries_232 rfl ?_
        refine e_Vi (pc := 233) (c_X3_undo q3) qV_X3_undo mL_L_85 dL_tries_233 rfl cell_bc (nN_lt (by decide)) rfl rfl rfl ⟨by decide, by decide⟩ (Nat.le_of_ble_eq_true rfl) (Nat.le_of_ble_eq_true rfl) (Nat.le_of_ble_eq_true rfl) ?_
        intro a q4
        obtain ⟨S4, B4⟩ := a
        dsimp only at q4 ⊢
        refine x_iflt (pc := 236) 243 dL_tries_236 (by decide) (fun c236 => absurd c236 v2) (fun c236 => ?_)
        refine x_iconst (pc := 239) (1) dL_tries_239 (by decide) ?_
        refine x_goto (pc := 240) 244 dL_tries_240 (by decide) ?_
        refine x_istore (pc := 244) dL_tries_244 (by decide) ?_
        exact x_back (t1_tries (G := G) (M := M) q4 (v1.trans u1) v3) ⟨rfl, rfl, rfl, trivial⟩
set_option maxHeartbeats 4000000 in
set_option maxRecDepth 100000 in
theorem t0_tries (hG : GC S B w) (hL : LV t w) (hk : k < w.1.1) (h0 : whyV w.1 k = 0) : XJ G YL_tries (fun _ => True) (Zx G (Rx G M (TrP w t)) 0 0) 37 [(0, .ref (gB G + 0)), (3, .int (nI k)), (4, .int (whyV w.1 k)), (5, .int (w.1.2.1 4)), (6, .int 1)] [] (nN G) (cellOf G S B M) 0 0 := by
  have hV := hL.1.1
  have h5 := why_5 hV hk h0
  obtain ⟨x1, x2⟩ := cut_X hV hk h0
  have cc := c_X3_cut (G := G) (M := M) hG (nI k)
  rw [x1] at cc
  obtain ⟨u1, u2, u3⟩ := und_rec hL (hist_4 hG) (r := (cutN w.1 k, cutA w.1 k)) x2
  refine x_aload_n (pc := 37) dL_tries_37 rfl ?_
  refine x_iload_n (pc := 38) dL_tries_38 rfl ?_
  refine t_Vi (pc := 39) (t_k hG hk) qV_X3_takes mL_L_72 dL_tries_39 rfl cell_bc (nN_lt (by decide)) rfl rfl rfl ⟨by decide, by decide⟩ (Nat.le_of_ble_eq_true rfl) (Nat.le_of_ble_eq_true rfl) (Nat.le_of_ble_eq_true rfl) ?_
  refine x_istore (pc := 42) dL_tries_42 (by decide) ?_
  refine x_aload_n (pc := 44) dL_tries_44 rfl ?_
  refine x_iload_n (pc := 45) dL_tries_45 rfl ?_
  refine x_bipush (pc := 46) (8) dL_tries_46 (by decide) ?_
  refine t_Vi (pc := 48) (s_8 hG hk) qV_X3_shape mL_L_45 dL_tries_48 rfl cell_bc (nN_lt (by decide)) rfl rfl rfl ⟨by decide, by decide⟩ (Nat.le_of_ble_eq_true rfl) (Nat.le_of_ble_eq_true rfl) (Nat.le_of_ble_eq_true rfl) ?_
  refine x_istore (pc := 51) dL_tries_51 (by decide) ?_
  refine x_aload_n (pc := 53) dL_tries_53 rfl ?_
  refine x_bipush (pc := 54) (9) dL_tries_54 (by decide) ?_
  refine t_Vi (pc := 56) (n_9 hG) qV_X3_count mL_L_9 dL_tries_56 rfl cell_bc (nN_lt (by decide)) rfl rfl rfl ⟨by decide, by decide⟩ (Nat.le_of_ble_eq_true rfl) (Nat.le_of_ble_eq_true rfl) (Nat.le_of_ble_eq_true rfl) ?_
  refine x_istore (pc := 59) dL_tries_59 (by decide) ?_
  refine x_aload_n (pc := 61) dL_tries_61 rfl ?_
  refine x_iconst (pc := 62) (5) dL_tries_62 (by decide) ?_
  refine t_Vi (pc := 63) (n_5 hG) qV_X3_count mL_L_9 dL_tries_63 rfl cell_bc (nN_lt (by decide)) rfl rfl rfl ⟨by decide, by decide⟩ (Nat.le_of_ble_eq_true rfl) (Nat.le_of_ble_eq_true rfl) (Nat.le_of_ble_eq_true rfl) ?_
  refine x_istore (pc := 66) dL_tries_66 (by decide) ?_
  refine x_aload_n (pc := 68) dL_tries_68 rfl ?_
  refine x_iload_n (pc := 69) dL_tries_69 rfl ?_
  refine e_Vi (pc := 70) (cc) qV_X3_cut mL_L_29 dL_tries_70 rfl cell_bc (nN_lt (by decide)) rfl rfl rfl ⟨by decide, by decide⟩ (Nat.le_of_ble_eq_true rfl) (Nat.le_of_ble_eq_true rfl) (Nat.le_of_ble_eq_true rfl) ?_
  intro a q1
  obtain ⟨S1, B1⟩ := a
  dsimp only at q1 ⊢
  refine x_iflt (pc := 73) 144 dL_tries_73 (by decide) (fun c73 => absurd c73 x2) (fun c73 => ?_)
  refine x_aload_n (pc := 76) dL_tries_76 rfl ?_
  refine x_bipush (pc := 77) (8) dL_tries_77 (by decide) ?_
  refine t_Vi (pc := 79) (n_8 q1) qV_X3_count mL_L_9 dL_tries_79 rfl cell_bc (nN_lt (by decide)) rfl rfl rfl ⟨by decide, by decide⟩ (Nat.le_of_ble_eq_true rfl) (Nat.le_of_ble_eq_true rfl) (Nat.le_of_ble_eq_true rfl) ?_
  refine x_iload (pc := 82) dL_tries_82 rfl ?_
  refine x_iload (pc := 84) dL_tries_84 rfl ?_
  refine x_iadd (pc := 86) dL_tries_86 ?_
  refine x_cmpne (pc := 87) 144 dL_tries_87 (by decide) (fun c87 => absurd (cut_tk h5) c87) (fun c87 => ?_)
  refine x_aload_n (pc := 90) dL_tries_90 rfl ?_
  refine x_bipush (pc := 91) (9) dL_tries_91 (by decide) ?_
  refine t_Vi (pc := 93) (n_9 q1) qV_X3_count mL_L_9 dL_tries_93 rfl cell_bc (nN_lt (by decide)) rfl rfl rfl ⟨by decide, by decide⟩ (Nat.le_of_ble_eq_true rfl) (Nat.le_of_ble_eq_true rfl) (Nat.le_of_ble_eq_true rfl) ?_
  refine x_iload (pc := 96) dL_tries_96 rfl ?_
  refine x_iconst (pc := 98) (2) dL_tries_98 (by decide) ?_
  refine x_iload (pc := 99) dL_tries_99 rfl ?_
  refine x_iconst (pc := 101) (4) dL_tries_101 (by decide) ?_
  refine x_idiv (pc := 102) dL_tries_102 (by decide) ?_
  refine x_iadd (pc := 103) dL_tries_103 ?_
  refine x_iload (pc := 104) dL_tries_104 rfl ?_
  refine x_imul (pc := 106) dL_tries_106 ?_
  refine x_iadd (pc := 107) dL_tries_107 ?_
  refine x_cmpne (pc := 108) 144 dL_tries_108 (by decide) (fun c108 => absurd (cut_bn w.1) c108) (fun c108 => ?_)
  refine x_aload_n (pc := 111) dL_tries_111 rfl ?_
  refine x_iconst (pc := 112) (5) dL_tries_112 (by decide) ?_
  refine t_Vi (pc := 113) (n_5 q1) qV_X3_count mL_L_9 dL_tries_113 rfl cell_bc (nN_lt (by decide)) rfl rfl rfl ⟨by decide, by decide⟩ (Nat.le_of_ble_eq_true rfl) (Nat.le_of_ble_eq_true rfl) (Nat.le_of_ble_eq_true rfl) ?_
  refine x_iload (pc := 116) dL_tries_116 rfl ?_
  refine x_iconst (pc := 118) (1) dL_tries_118 (by decide) ?_
  refine x_iadd (pc := 119) dL_tries_119 ?_
  refine x_cmpne (pc := 120) 144 dL_tries_120 (by decide) (fun c120 => absurd rfl c120) (fun c120 => ?_)
  refine x_aload_n (pc := 123) dL_tries_123 rfl ?_
  refine x_iload_n (pc := 124) dL_tries_124 rfl ?_
  refine x_iconst (pc := 125) (5) dL_tries_125 (by decide) ?_
  refine t_Vi (pc := 126) (s_5 q1 (show k < _ from hk)) qV_X3_shape mL_L_45 dL_tries_126 rfl cell_bc (nN_lt (by decide)) rfl rfl rfl ⟨by decide, by decide⟩ (Nat.le_of_ble_eq_true rfl) (Nat.le_of_ble_eq_true rfl) (Nat.le_of_ble_eq_true rfl) ?_
  refine x_iconst (pc := 129) (1) dL_tries_129 (by decide) ?_
  refine x_cmpne (pc := 130) 144 dL_tries_130 (by decide) (fun c130 => absurd (cut_5 w.1) c130) (fun c130 => ?_)
  refine x_aload_n (pc := 133) dL_tries_133 rfl ?_
  refine e_Vi (pc := 134) (c_X3_undo q1) qV_X3_undo mL_L_85 dL_tries_134 rfl cell_bc (nN_lt (by decide)) rfl rfl rfl ⟨by decide, by decide⟩ (Nat.le_of_ble_eq_true rfl) (Nat.le_of_ble_eq_true rfl) (Nat.le_of_ble_eq_true rfl) ?_
  intro a q2
  obtain ⟨S2, B2⟩ := a
  dsimp only at q2 ⊢
  refine x_iflt (pc := 137) 144 dL_tries_137 (by decide) (fun c137 => absurd c137 u2) (fun c137 => ?_)
  refine x_iconst (pc := 140) (1) dL_tries_140 (by decide) ?_
  refine x_goto (pc := 141) 145 dL_tries_141 (by decide) ?_
  refine x_istore (pc := 145) dL_tries_145 (by decide) ?_
  exact x_back (t2_tries (G := G) (M := M) q2 u1 u3 (y := whyV w.1 k) (by rw [h0]; decide)) ⟨rfl, rfl, rfl, rfl, trivial⟩
set_option maxHeartbeats 4000000 in
set_option maxRecDepth 100000 in
theorem w_tries (hG : GC S B w) (hL : LV t w) (ht : t ≤ 900000) (x : Int32) : Ct G yL_tries YL_tries 0 0 [.ref (gB G + 0), .int x] (nN G) (cellOf G S B M) (Rx G M (TrP w t)) := by
  refine ct_of (by decide +kernel) rfl rfl (Nat.le_of_ble_eq_true rfl) (by simp [Value.category]) ?_
  refine x_sub (l' := [(0, .ref (gB G + 0)), (1, .int x)]) ⟨rfl, rfl, trivial⟩ ?_
  have h12 := hL.1.1.le
  obtain ⟨k, hk, ek⟩ := low_in x (n := w.1.1 + 1) (by omega) (by omega)
  rw [← inc_nI] at ek
  by_cases hk2 : k < w.1.1
  · refine x_aload_n (pc := 0) dL_tries_0 rfl ?_
    refine x_iconst (pc := 1) (0) dL_tries_1 (by decide) ?_
    refine t_Vi (pc := 2) (n_0 hG) qV_X3_count mL_L_9 dL_tries_2 rfl cell_bc (nN_lt (by decide)) rfl rfl rfl ⟨by decide, by decide⟩ (Nat.le_of_ble_eq_true rfl) (Nat.le_of_ble_eq_true rfl) (Nat.le_of_ble_eq_true rfl) ?_
    refine x_istore_n (pc := 5) dL_tries_5 (by decide) ?_
    refine x_iload_n (pc := 6) dL_tries_6 rfl ?_
    refine x_iload_n (pc := 7) dL_tries_7 rfl ?_
    refine x_iconst (pc := 8) (1) dL_tries_8 (by decide) ?_
    refine x_iadd (pc := 9) dL_tries_9 ?_
    refine t_Si (pc := 10) (l_low _ _ (nz_1 h12)) qS_L_low mL_L_15 dL_tries_10 rfl rfl rfl ⟨by decide, by decide⟩ (Nat.le_of_ble_eq_true rfl) (Nat.le_of_ble_eq_true rfl) (Nat.le_of_ble_eq_true rfl) ?_
    try dsimp only
    rw [ek]
    refine x_istore_n (pc := 13) dL_tries_13 (by decide) ?_
    refine x_aload_n (pc := 14) dL_tries_14 rfl ?_
    refine x_iload_n (pc := 15) dL_tries_15 rfl ?_
    refine t_Vi (pc := 16) (r_k hG hk2) qV_X3_reason mL_L_69 dL_tries_16 rfl cell_bc (nN_lt (by decide)) rfl rfl rfl ⟨by decide, by decide⟩ (Nat.le_of_ble_eq_true rfl) (Nat.le_of_ble_eq_true rfl) (Nat.le_of_ble_eq_true rfl) ?_
    refine x_istore (pc := 19) dL_tries_19 (by decide) ?_
    refine x_aload_n (pc := 21) dL_tries_21 rfl ?_
    refine x_bipush (pc := 22) (8) dL_tries_22 (by decide) ?_
    refine t_Vi (pc := 24) (n_8 hG) qV_X3_count mL_L_9 dL_tries_24 rfl cell_bc (nN_lt (by decide)) rfl rfl rfl ⟨by decide, by decide⟩ (Nat.le_of_ble_eq_true rfl) (Nat.le_of_ble_eq_true rfl) (Nat.le_of_ble_eq_true rfl) ?_
    refine x_istore (pc := 27) dL_tries_27 (by decide) ?_
    refine x_iconst (pc := 29) (1) dL_tries_29 (by decide) ?_
    refine x_istore (pc := 30) dL_tries_30 (by decide) ?_
    refine x_iload (pc := 32) dL_tries_32 rfl ?_
    refine x_ifne (pc := 34) 147 dL_tries_34 (by decide) (fun c34 => ?_) (fun c34 => ?_)
    · by_cases h4 : whyV w.1 k = 4
      · exact x_back (t3_tries (G := G) (M := M) hG hL ht hk2 h4) ⟨rfl, rfl, rfl, rfl, rfl, trivial⟩
      · exact x_back (t2_tries (G := G) (M := M) hG rfl hL h4) ⟨rfl, rfl, rfl, rfl, trivial⟩
    · exact x_back (t0_tries (G := G) (M := M) hG hL hk2 c34) ⟨rfl, rfl, rfl, rfl, rfl, trivial⟩
  · have e0 : k = w.1.1 := by omega
    subst e0
    refine x_aload_n (pc := 0) dL_tries_0 rfl ?_
    refine x_iconst (pc := 1) (0) dL_tries_1 (by decide) ?_
    refine t_Vi (pc := 2) (n_0 hG) qV_X3_count mL_L_9 dL_tries_2 rfl cell_bc (nN_lt (by decide)) rfl rfl rfl ⟨by decide, by decide⟩ (Nat.le_of_ble_eq_true rfl) (Nat.le_of_ble_eq_true rfl) (Nat.le_of_ble_eq_true rfl) ?_
    refine x_istore_n (pc := 5) dL_tries_5 (by decide) ?_
    refine x_iload_n (pc := 6) dL_tries_6 rfl ?_
    refine x_iload_n (pc := 7) dL_tries_7 rfl ?_
    refine x_iconst (pc := 8) (1) dL_tries_8 (by decide) ?_
    refine x_iadd (pc := 9) dL_tries_9 ?_
    refine t_Si (pc := 10) (l_low _ _ (nz_1 h12)) qS_L_low mL_L_15 dL_tries_10 rfl rfl rfl ⟨by decide, by decide⟩ (Nat.le_of_ble_eq_true rfl) (Nat.le_of_ble_eq_true rfl) (Nat.le_of_ble_eq_true rfl) ?_
    try dsimp only
    rw [ek]
    refine x_istore_n (pc := 13) dL_tries_13 (by decide) ?_
    refine x_aload_n (pc := 14) dL_tries_14 rfl ?_
    refine x_iload_n (pc := 15) dL_tries_15 rfl ?_
    refine t_Vi (pc := 16) (r_u hG) qV_X3_reason mL_L_69 dL_tries_16 rfl cell_bc (nN_lt (by decide)) rfl rfl rfl ⟨by decide, by decide⟩ (Nat.le_of_ble_eq_true rfl) (Nat.le_of_ble_eq_true rfl) (Nat.le_of_ble_eq_true rfl) ?_
    refine x_istore (pc := 19) dL_tries_19 (by decide) ?_
    refine x_aload_n (pc := 21) dL_tries_21 rfl ?_
    refine x_bipush (pc := 22) (8) dL_tries_22 (by decide) ?_
    refine t_Vi (pc := 24) (n_8 hG) qV_X3_count mL_L_9 dL_tries_24 rfl cell_bc (nN_lt (by decide)) rfl rfl rfl ⟨by decide, by decide⟩ (Nat.le_of_ble_eq_true rfl) (Nat.le_of_ble_eq_true rfl) (Nat.le_of_ble_eq_true rfl) ?_
    refine x_istore (pc := 27) dL_tries_27 (by decide) ?_
    refine x_iconst (pc := 29) (1) dL_tries_29 (by decide) ?_
    refine x_istore (pc := 30) dL_tries_30 (by decide) ?_
    refine x_iload (pc := 32) dL_tries_32 rfl ?_
    refine x_ifne (pc := 34) 147 dL_tries_34 (by decide) (fun c34 => ?_) (fun c34 => absurd c34 (by decide))
    exact x_back (t2_tries (G := G) (M := M) hG rfl hL (y := -1) (by decide)) ⟨rfl, rfl, rfl, rfl, trivial⟩
end TRIES
