/-! the reference: cuts, couldBe (rows laid by wip/whole/p31.py) -/
theorem vS_los {A : Ab} (h : vS A) (f : Fs) (k : Nat) : vS (wP A (losP A.2.2.2.2 f k)) := by
  intro q hq
  show vF (losP A.2.2.2.2 f k q)
  have hf : vF (A.2.2.2.2 q) := h q hq
  by_cases e : q < k ∧ A.2.2.2.2 q 5 = 0 ∧ insB (A.2.2.2.2 q) f = true
  · simp only [losP, if_pos e]
    exact vF_5 hf (by decide) (by decide)
  · simp only [losP, if_neg e]
    exact hf
theorem los_0 {s : Fs} {A : Ab} (f : Fs) (h : RM s A) : RM s (wP A (losP A.2.2.2.2 f 0)) := by
  rw [losP_0]
  exact h
theorem burK_0 {s : Fs} {A : Ab} {i : Nat} (h : RM s (A.1, upd (upd (upd A.2.1 4 (A.2.1 4 + burV A i)) 5 (A.2.1 5 + burV A i)) 3 (A.2.1 3 + 1), A.2.2)) : RM s (burK A i 0) := by
  unfold burK
  rw [cpF_0]
  exact h
theorem vS_mark {A : Ab} (h : vS A) (i : Nat) : vS (markA A i) := by
  intro q hq
  show vF (updF A.2.2.2.2 i _ q)
  by_cases e : q = i
  · subst e
    rw [updF_same]
    exact vF_6 (vF_7 (vF_5 (h q hq) (by decide) (by decide)) _) _
  · rw [updF_ne _ _ e]
    exact h q hq
theorem why_ge {A : Ab} {i : Nat} : ¬ whyV A i < 0 := by
  rcases why_all (A := A) (i := i) with ⟨-, e⟩ | ⟨-, e⟩ | ⟨-, e | ⟨e, -⟩ | ⟨e, -⟩⟩ <;> rw [e] <;> decide
theorem why_z {A : Ab} {i : Nat} (h : ¬ 0 < whyV A i) : whyV A i = 0 := by
  have a := why_ge (A := A) (i := i)
  rw [ti_lt, t0] at a h
  rw [ti_eq, t0]
  omega
def apR (c r w h : Int32) (g : Fs) : Bool := decide (g 0 + g 2 - 1 < c) || !decide (g 0 < c + w) || decide (g 1 + g 3 - 1 < r) || !decide (g 1 < r + h)
def inR (c r w h : Int32) (g : Fs) : Bool := decide (g 0 < c) && decide (c + w - 1 < g 0 + g 2 - 1) && decide (g 1 < r) && decide (r + h - 1 < g 1 + g 3 - 1)
def ouR (c r w h : Int32) (g : Fs) : Bool := decide (c < g 0) && decide (g 0 + g 2 - 1 < c + w - 1) && decide (r < g 1) && decide (g 1 + g 3 - 1 < r + h - 1)
theorem okR_p (c r w h : Int32) (g : Fs) : okR (plF (fun _ => 0) c r w h) g = (apR c r w h g || ((inR c r w h g || ouR c r w h g) && decide (g 5 = 0))) := rfl
section MCUT
variable {G : GX} {S : Nat → Sh} {B : Bc} {N s : Fs} {T : Fs × Fs × Fs × Fs × Fs × Fs} {A : Ab} {i k : Nat}
set_option maxHeartbeats 4000000 in
set_option maxRecDepth 100000 in
theorem tl3_X4_cuts (h12 : A.1 ≤ 12) (hF : vS A) (hi : i < A.1) : ∀ k, k ≤ A.1 → ∀ u : Fs, RM u (wP A (losP A.2.2.2.2 (A.2.2.2.2 i) k)) → XJ G YX4_cuts (fun _ => True) (Zx G (Re G (some (.int (losN A.2.2.2.2 (A.2.2.2.2 i) A.1))) (fun _ : Fs => S) (fun _ => B) (fun s' : Fs => (N, s', T)) (fun s' => RM s' (losA A i))) 0 0) 224 [(0, .ref (gB G + 247)), (1, .int (nI i)), (2, .int (losN A.2.2.2.2 (A.2.2.2.2 i) k)), (3, .int (nI k))] [] 255 (cellOf G S B (N, u, T)) 0 0 := by
  refine loopD (A.1) ?_
  intro k hk ih u hU
  have hFk := vS_los hF (A.2.2.2.2 i) k
  refine x_iload_n (pc := 224) dX4_cuts_224 rfl ?_
  refine x_aload_n (pc := 225) dX4_cuts_225 rfl ?_
  refine x_get (pc := 226) (ci := 4) (k := 0) (C := RX4) (T := TX4) (N := 21) cell_model rfl (by decide) rfl nX4 (by decide) mF_X4_7 rfl dX4_cuts_226 ?_
  refine x_iconst (pc := 229) (0) dX4_cuts_229 (by decide) ?_
  refine t_ild (pc := 230) 0 cell_s (by decide) rfl (by decide) (by decide) dX4_cuts_230 ?_
  try dsimp only
  rw [hU.told]
  show XJ _ _ _ _ _ _ (.int (nI A.1) :: _) _ _ _ _
  refine x_cmpge (pc := 231) 271 dX4_cuts_231 (by decide) (fun c231 => ?_) (fun c231 => ?_)
  · obtain rfl : k = A.1 := by have := mt (tl_iff h12 hk).mpr c231; omega
    refine x_iload_n (pc := 271) dX4_cuts_271 rfl ?_
    exact x_iret rfl dX4_cuts_272 ⟨u, rfl, rfl, rfl, hU⟩
  · have hkn : k < A.1 := (tl_iff h12 hk).mp c231
    refine x_aload_n (pc := 234) dX4_cuts_234 rfl ?_
    refine x_iload_n (pc := 235) dX4_cuts_235 rfl ?_
    refine x_iload_n (pc := 236) dX4_cuts_236 rfl ?_
    refine t_Vi (pc := 237) (c_X4_isInside (i := k) (k := i) hU hFk hkn hi) qV_X4_isInside mL_X4_62 dX4_cuts_237 rfl cell_model (by decide) rfl rfl rfl ⟨by decide, by decide⟩ (Nat.le_of_ble_eq_true rfl) (Nat.le_of_ble_eq_true rfl) (Nat.le_of_ble_eq_true rfl) ?_
    simp only [wP, losP_ge _ _ (Nat.le_refl k), losP_self]
    refine x_ifeq (pc := 240) 265 dX4_cuts_240 (by decide) (fun c240 => ?_) (fun c240 => ?_)
    · refine x_iinc (pc := 265) (nI (k + 1)) dX4_cuts_265 rfl (iinc_nI k) (by decide) ?_
      refine x_goto (pc := 268) 224 dX4_cuts_268 (by decide) ?_
      have hb := b01_eq c240
      have hn : ¬ (A.2.2.2.2 k 5 = 0 ∧ insB (A.2.2.2.2 k) (A.2.2.2.2 i) = true) := fun z => by rw [hb] at z; cases z.2
      have e := ih hkn u (by rw [losP_no _ _ hn]; exact hU)
      simp only [losN, if_neg hn] at e
      exact x_back e ⟨rfl, rfl, rfl, rfl, trivial⟩
    · refine x_aload_n (pc := 243) dX4_cuts_243 rfl ?_
      refine x_iload_n (pc := 244) dX4_cuts_244 rfl ?_
      refine t_Vi (pc := 245) (c_X4_isWhole (i := k) hU hkn) qV_X4_isWhole mL_X4_66 dX4_cuts_245 rfl cell_model (by decide) rfl rfl rfl ⟨by decide, by decide⟩ (Nat.le_of_ble_eq_true rfl) (Nat.le_of_ble_eq_true rfl) (Nat.le_of_ble_eq_true rfl) ?_
      simp only [wP, losP_ge _ _ (Nat.le_refl k)]
      refine x_ifeq (pc := 248) 265 dX4_cuts_248 (by decide) (fun c248 => ?_) (fun c248 => ?_)
      · refine x_iinc (pc := 265) (nI (k + 1)) dX4_cuts_265 rfl (iinc_nI k) (by decide) ?_
        refine x_goto (pc := 268) 224 dX4_cuts_268 (by decide) ?_
        have hb := of_decide_eq_false (b01_eq c248)
        have hn : ¬ (A.2.2.2.2 k 5 = 0 ∧ insB (A.2.2.2.2 k) (A.2.2.2.2 i) = true) := fun z => hb z.1
        have e := ih hkn u (by rw [losP_no _ _ hn]; exact hU)
        simp only [losN, if_neg hn] at e
        exact x_back e ⟨rfl, rfl, rfl, rfl, trivial⟩
      · refine x_aload_n (pc := 251) dX4_cuts_251 rfl ?_
        refine x_get (pc := 252) (ci := 4) (k := 0) (C := RX4) (T := TX4) (N := 21) cell_model rfl (by decide) rfl nX4 (by decide) mF_X4_7 rfl dX4_cuts_252 ?_
        refine x_iload_n (pc := 255) dX4_cuts_255 rfl ?_
        refine x_iconst (pc := 256) (5) dX4_cuts_256 (by decide) ?_
        refine t_Si (pc := 257) (c_X4_at k 5) qS_X4_at mL_X4_42 dX4_cuts_257 rfl rfl rfl ⟨by decide, by decide⟩ (Nat.le_of_ble_eq_true rfl) (Nat.le_of_ble_eq_true rfl) (Nat.le_of_ble_eq_true rfl) ?_
        refine x_iconst (pc := 260) (2) dX4_cuts_260 (by decide) ?_
        refine t_stS (pc := 261) (23 + 8 * k + 5) (by omega) rfl dX4_cuts_261 ?_
        try dsimp only
        refine x_iinc (pc := 262) (_ + (1)) dX4_cuts_262 rfl rfl (by decide) ?_
        refine x_iinc (pc := 265) (nI (k + 1)) dX4_cuts_265 rfl (iinc_nI k) (by decide) ?_
        refine x_goto (pc := 268) 224 dX4_cuts_268 (by decide) ?_
        have hb := of_decide_eq_true (b01_ne c248)
        have hb2 := b01_ne c240
        have e := ih hkn (upd u (23 + 8 * k + 5) 2) (by rw [losP_yes _ _ hb hb2]; exact RM_shp hU hkn 5 2)
        simp only [losN, if_pos (And.intro hb hb2)] at e
        exact x_back e ⟨rfl, rfl, rfl, rfl, trivial⟩
set_option maxHeartbeats 4000000 in
set_option maxRecDepth 100000 in
theorem tl2_X4_cuts (hM : RM s A) (hF : vS A) (hi : i < A.1) (hH : ∀ k, k < 12 → 0 ≤ (A.2.2.1 k).toInt) (e1 : A.2.1 1 = lcV (A.2.2.2.2 i)) (e2 : A.2.1 2 = lrV (A.2.2.2.2 i)) : XJ G YX4_cuts (fun _ => True) (Zx G (Re G (some (.int (losN (markA A i).2.2.2.2 ((markA A i).2.2.2.2 i) A.1))) (fun _ : Fs => S) (fun _ => B) (fun s' : Fs => (N, s', T)) (fun s' => RM s' (losA (markA A i) i))) 0 0) 128 [(0, .ref (gB G + 247)), (1, .int (nI i))] [] 255 (cellOf G S B (N, s, T)) 0 0 := by
  have h12 := hM.le
  obtain ⟨q, hq, hq2⟩ := lsV_lt (hF i hi)
  refine x_aload_n (pc := 128) dX4_cuts_128 rfl ?_
  refine x_get (pc := 129) (ci := 4) (k := 0) (C := RX4) (T := TX4) (N := 21) cell_model rfl (by decide) rfl nX4 (by decide) mF_X4_7 rfl dX4_cuts_129 ?_
  refine x_iload_n (pc := 132) dX4_cuts_132 rfl ?_
  refine x_iconst (pc := 133) (5) dX4_cuts_133 (by decide) ?_
  refine t_Si (pc := 134) (c_X4_at i 5) qS_X4_at mL_X4_42 dX4_cuts_134 rfl rfl rfl ⟨by decide, by decide⟩ (Nat.le_of_ble_eq_true rfl) (Nat.le_of_ble_eq_true rfl) (Nat.le_of_ble_eq_true rfl) ?_
  refine x_iconst (pc := 137) (1) dX4_cuts_137 (by decide) ?_
  refine t_stS (pc := 138) (23 + 8 * i + 5) (by omega) rfl dX4_cuts_138 ?_
  try dsimp only
  have hM := RM_shp hM hi 5 1
  refine x_aload_n (pc := 139) dX4_cuts_139 rfl ?_
  refine x_get (pc := 140) (ci := 4) (k := 0) (C := RX4) (T := TX4) (N := 21) cell_model rfl (by decide) rfl nX4 (by decide) mF_X4_7 rfl dX4_cuts_140 ?_
  refine x_iload_n (pc := 143) dX4_cuts_143 rfl ?_
  refine x_bipush (pc := 144) (7) dX4_cuts_144 (by decide) ?_
  refine t_Si (pc := 146) (c_X4_at i 7) qS_X4_at mL_X4_42 dX4_cuts_146 rfl rfl rfl ⟨by decide, by decide⟩ (Nat.le_of_ble_eq_true rfl) (Nat.le_of_ble_eq_true rfl) (Nat.le_of_ble_eq_true rfl) ?_
  refine x_aload_n (pc := 149) dX4_cuts_149 rfl ?_
  refine x_get (pc := 150) (ci := 4) (k := 0) (C := RX4) (T := TX4) (N := 21) cell_model rfl (by decide) rfl nX4 (by decide) mF_X4_7 rfl dX4_cuts_150 ?_
  refine x_bipush (pc := 153) (6) dX4_cuts_153 (by decide) ?_
  refine t_ild (pc := 155) 6 cell_s (by decide) rfl (by decide) (by decide) dX4_cuts_155 ?_
  try dsimp only
  rw [hM.int 6]
  show XJ _ _ _ _ _ _ (.int (A.2.1 6) :: _) _ _ _ _
  refine t_stS (pc := 156) (23 + 8 * i + 7) (by omega) rfl dX4_cuts_156 ?_
  try dsimp only
  have hM := RM_shp hM hi 7 (A.2.1 6)
  simp only [updF_upd, updF_same] at hM
  refine x_aload_n (pc := 157) dX4_cuts_157 rfl ?_
  refine x_get (pc := 158) (ci := 4) (k := 0) (C := RX4) (T := TX4) (N := 21) cell_model rfl (by decide) rfl nX4 (by decide) mF_X4_7 rfl dX4_cuts_158 ?_
  refine x_bipush (pc := 161) (6) dX4_cuts_161 (by decide) ?_
  refine x_dup2 (pc := 163) dX4_cuts_163 rfl rfl ?_
  refine t_ild (pc := 164) 6 cell_s (by decide) rfl (by decide) (by decide) dX4_cuts_164 ?_
  try dsimp only
  rw [hM.int 6]
  show XJ _ _ _ _ _ _ (.int (A.2.1 6) :: _) _ _ _ _
  refine x_iconst (pc := 165) (1) dX4_cuts_165 (by decide) ?_
  refine x_iadd (pc := 166) dX4_cuts_166 ?_
  refine t_stS (pc := 167) 6 (by decide) rfl dX4_cuts_167 ?_
  try dsimp only
  have hM := RM_int hM 6 (A.2.1 6 + 1)
  refine x_aload_n (pc := 168) dX4_cuts_168 rfl ?_
  refine x_get (pc := 169) (ci := 4) (k := 0) (C := RX4) (T := TX4) (N := 21) cell_model rfl (by decide) rfl nX4 (by decide) mF_X4_7 rfl dX4_cuts_169 ?_
  refine x_iload_n (pc := 172) dX4_cuts_172 rfl ?_
  refine x_bipush (pc := 173) (6) dX4_cuts_173 (by decide) ?_
  refine t_Si (pc := 175) (c_X4_at i 6) qS_X4_at mL_X4_42 dX4_cuts_175 rfl rfl rfl ⟨by decide, by decide⟩ (Nat.le_of_ble_eq_true rfl) (Nat.le_of_ble_eq_true rfl) (Nat.le_of_ble_eq_true rfl) ?_
  refine x_aload_n (pc := 178) dX4_cuts_178 rfl ?_
  refine x_get (pc := 179) (ci := 4) (k := 0) (C := RX4) (T := TX4) (N := 21) cell_model rfl (by decide) rfl nX4 (by decide) mF_X4_7 rfl dX4_cuts_179 ?_
  refine x_bipush (pc := 182) (11) dX4_cuts_182 (by decide) ?_
  refine x_aload_n (pc := 184) dX4_cuts_184 rfl ?_
  refine x_get (pc := 185) (ci := 4) (k := 0) (C := RX4) (T := TX4) (N := 21) cell_model rfl (by decide) rfl nX4 (by decide) mF_X4_7 rfl dX4_cuts_185 ?_
  refine x_iconst (pc := 188) (1) dX4_cuts_188 (by decide) ?_
  refine t_ild (pc := 189) 1 cell_s (by decide) rfl (by decide) (by decide) dX4_cuts_189 ?_
  try dsimp only
  rw [hM.int 1]
  show XJ _ _ _ _ _ _ (.int (A.2.1 1) :: _) _ _ _ _
  rw [e1]
  refine x_bipush (pc := 190) (8) dX4_cuts_190 (by decide) ?_
  refine x_idiv (pc := 192) dX4_cuts_192 (by decide) ?_
  refine x_iadd (pc := 193) dX4_cuts_193 ?_
  refine x_iconst (pc := 194) (4) dX4_cuts_194 (by decide) ?_
  refine x_aload_n (pc := 195) dX4_cuts_195 rfl ?_
  refine x_get (pc := 196) (ci := 4) (k := 0) (C := RX4) (T := TX4) (N := 21) cell_model rfl (by decide) rfl nX4 (by decide) mF_X4_7 rfl dX4_cuts_196 ?_
  refine x_iconst (pc := 199) (2) dX4_cuts_199 (by decide) ?_
  refine t_ild (pc := 200) 2 cell_s (by decide) rfl (by decide) (by decide) dX4_cuts_200 ?_
  try dsimp only
  rw [hM.int 2]
  show XJ _ _ _ _ _ _ (.int (A.2.1 2) :: _) _ _ _ _
  rw [e2]
  refine x_bipush (pc := 201) (8) dX4_cuts_201 (by decide) ?_
  refine x_idiv (pc := 203) dX4_cuts_203 (by decide) ?_
  refine x_imul (pc := 204) dX4_cuts_204 ?_
  refine x_iadd (pc := 205) dX4_cuts_205 ?_
  refine t_ild (pc := 206) (11 + q) cell_s (by decide) (ls_ix hq2) (by omega) (by decide) dX4_cuts_206 ?_
  try dsimp only
  try dsimp only
  rw [hM.heat q hq]
  show XJ _ _ _ _ _ _ (.int (A.2.2.1 q) :: _) _ _ _ _
  refine x_aload_n (pc := 207) dX4_cuts_207 rfl ?_
  refine t_Vi (pc := 208) (c_X4_hottest hM hH) qV_X4_hottest mL_X4_110 dX4_cuts_208 rfl cell_model (by decide) rfl rfl rfl ⟨by decide, by decide⟩ (Nat.le_of_ble_eq_true rfl) (Nat.le_of_ble_eq_true rfl) (Nat.le_of_ble_eq_true rfl) ?_
  show XJ _ _ _ _ _ _ (.int (grV A) :: _) _ _ _ _
  refine x_cmpne (pc := 211) 218 dX4_cuts_211 (by decide) (fun c211 => ?_) (fun c211 => ?_)
  · refine x_iconst (pc := 218) (0) dX4_cuts_218 (by decide) ?_
    refine t_stS (pc := 219) (23 + 8 * i + 6) (by omega) rfl dX4_cuts_219 ?_
    try dsimp only
    have hM := RM_shp hM hi 6 0
    simp only [updF_upd, updF_same] at hM
    have hm : markA A i = (A.1, upd A.2.1 6 (A.2.1 6 + 1), A.2.2.1, A.2.2.2.1, updF A.2.2.2.2 i (upd (upd (upd (A.2.2.2.2 i) 5 1) 7 (A.2.1 6)) 6 0)) := by unfold markA; rw [hq2, hin_nI hq, if_neg c211]
    rw [← hm] at hM
    refine x_iconst (pc := 220) (0) dX4_cuts_220 (by decide) ?_
    refine x_istore_n (pc := 221) dX4_cuts_221 (by decide) ?_
    refine x_iconst (pc := 222) (0) dX4_cuts_222 (by decide) ?_
    refine x_istore_n (pc := 223) dX4_cuts_223 (by decide) ?_
    exact x_back (tl3_X4_cuts (A := markA A i) h12 (vS_mark hF i) hi 0 (Nat.zero_le _) _ (los_0 _ hM)) ⟨rfl, rfl, rfl, rfl, trivial⟩
  · refine x_iconst (pc := 214) (1) dX4_cuts_214 (by decide) ?_
    refine x_goto (pc := 215) 219 dX4_cuts_215 (by decide) ?_
    refine t_stS (pc := 219) (23 + 8 * i + 6) (by omega) rfl dX4_cuts_219 ?_
    try dsimp only
    have hM := RM_shp hM hi 6 1
    simp only [updF_upd, updF_same] at hM
    have hm : markA A i = (A.1, upd A.2.1 6 (A.2.1 6 + 1), A.2.2.1, A.2.2.2.1, updF A.2.2.2.2 i (upd (upd (upd (A.2.2.2.2 i) 5 1) 7 (A.2.1 6)) 6 1)) := by unfold markA; rw [hq2, hin_nI hq, if_pos c211]
    rw [← hm] at hM
    refine x_iconst (pc := 220) (0) dX4_cuts_220 (by decide) ?_
    refine x_istore_n (pc := 221) dX4_cuts_221 (by decide) ?_
    refine x_iconst (pc := 222) (0) dX4_cuts_222 (by decide) ?_
    refine x_istore_n (pc := 223) dX4_cuts_223 (by decide) ?_
    exact x_back (tl3_X4_cuts (A := markA A i) h12 (vS_mark hF i) hi 0 (Nat.zero_le _) _ (los_0 _ hM)) ⟨rfl, rfl, rfl, rfl, trivial⟩
def preB (A : Ab) (i : Nat) : Ab := markA (burnA (goA A i) i) i
set_option maxHeartbeats 4000000 in
set_option maxRecDepth 100000 in
theorem tl1_X4_cuts (hM : RM s A) (hF : vS A) (hi : i < A.1) (hh : ∀ k, k < 12 → iR (A.2.2.1 k) 0 768) : XJ G YX4_cuts (fun _ => True) (Zx G (Re G (some (.int (losN (preB A i).2.2.2.2 ((preB A i).2.2.2.2 i) A.1))) (fun _ : Fs => S) (fun _ => B) (fun s' : Fs => (N, s', T)) (fun s' => RM s' (losA (preB A i) i))) 0 0) 36 [(0, .ref (gB G + 247)), (1, .int (nI i))] [] 255 (cellOf G S B (N, s, T)) 0 0 := by
  have h12 := hM.le
  have hH : ∀ k, k < 12 → 0 ≤ ((burnA (goA A i) i).2.2.1 k).toInt := by
    intro k hk
    show 0 ≤ (A.2.2.1 k + edgQ (A.2.2.2.2 i) k).toInt
    have a := hh k hk
    have b := edgQ_in (hF i hi) hk
    unfold iR at a
    rw [ti_add (by omega) (by omega)]
    omega
  have lp : ∀ k, k ≤ 12 → ∀ u : Fs, RM u (burK (goA A i) i k) → XJ G YX4_cuts (fun _ => True) (Zx G (Re G (some (.int (losN (preB A i).2.2.2.2 ((preB A i).2.2.2.2 i) A.1))) (fun _ : Fs => S) (fun _ => B) (fun s' : Fs => (N, s', T)) (fun s' => RM s' (losA (preB A i) i))) 0 0) 98 [(0, .ref (gB G + 247)), (1, .int (nI i)), (2, .int (nI k))] [] 255 (cellOf G S B (N, u, T)) 0 0 := by
    refine loopD (12) ?_
    intro k hk ih u hU
    refine x_iload_n (pc := 98) dX4_cuts_98 rfl ?_
    refine x_bipush (pc := 99) (12) dX4_cuts_99 (by decide) ?_
    refine x_cmpge (pc := 101) 128 dX4_cuts_101 (by decide) (fun c101 => ?_) (fun c101 => ?_)
    · obtain rfl : k = 12 := by have := mt (lt_lit (n := 12) rfl (by decide) (by omega)).mpr c101; omega
      have e := tl2_X4_cuts (G := G) (S := S) (B := B) (N := N) (T := T) (A := burnA (goA A i) i) (i := i) (burK_e hU) hF hi hH rfl rfl
      exact x_back e ⟨rfl, rfl, trivial⟩
    · have hkn : k < 12 := (lt_lit rfl (by decide) (by omega)).mp c101
      refine x_aload_n (pc := 104) dX4_cuts_104 rfl ?_
      refine x_get (pc := 105) (ci := 4) (k := 0) (C := RX4) (T := TX4) (N := 21) cell_model rfl (by decide) rfl nX4 (by decide) mF_X4_7 rfl dX4_cuts_105 ?_
      refine x_bipush (pc := 108) (11) dX4_cuts_108 (by decide) ?_
      refine x_iload_n (pc := 110) dX4_cuts_110 rfl ?_
      refine x_iadd (pc := 111) dX4_cuts_111 ?_
      refine x_dup2 (pc := 112) dX4_cuts_112 rfl rfl ?_
      refine t_ild (pc := 113) (11 + k) cell_s (by decide) (nI_11 k) (by omega) (by decide) dX4_cuts_113 ?_
      try dsimp only
      try dsimp only
      rw [hU.heat k hkn, show (burK (goA A i) i k).2.2.1 k = (goA A i).2.2.1 k from cpF_at (goA A i).2.2.1 (fun q => (goA A i).2.2.1 q + edgQ ((goA A i).2.2.2.2 i) q) k]
      refine x_aload_n (pc := 114) dX4_cuts_114 rfl ?_
      refine x_iload_n (pc := 115) dX4_cuts_115 rfl ?_
      refine x_iload_n (pc := 116) dX4_cuts_116 rfl ?_
      refine t_Vi (pc := 117) (c_X4_edgeIn (i := i) (q := k) hU hF hi hkn) qV_X4_edgeIn mL_X4_85 dX4_cuts_117 rfl cell_model (by decide) rfl rfl rfl ⟨by decide, by decide⟩ (Nat.le_of_ble_eq_true rfl) (Nat.le_of_ble_eq_true rfl) (Nat.le_of_ble_eq_true rfl) ?_
      show XJ _ _ _ _ _ _ (.int (edgQ ((goA A i).2.2.2.2 i) k) :: _) _ _ _ _
      refine x_iadd (pc := 120) dX4_cuts_120 ?_
      refine t_stS (pc := 121) (11 + k) (by omega) (nI_11 k) dX4_cuts_121 ?_
      try dsimp only
      have hU2 := RM_heat hU k hkn ((goA A i).2.2.1 k + edgQ ((goA A i).2.2.2.2 i) k)
      have hU3 : RM (upd u (11 + k) ((goA A i).2.2.1 k + edgQ ((goA A i).2.2.2.2 i) k)) (burK (goA A i) i (k + 1)) := by rw [← burK_s]; exact hU2
      refine x_iinc (pc := 122) (nI (k + 1)) dX4_cuts_122 rfl (iinc_nI k) (by decide) ?_
      refine x_goto (pc := 125) 98 dX4_cuts_125 (by decide) ?_
      exact x_back (ih hkn _ hU3) ⟨rfl, rfl, rfl, trivial⟩
  refine x_aload_n (pc := 36) dX4_cuts_36 rfl ?_
  refine x_get (pc := 37) (ci := 4) (k := 0) (C := RX4) (T := TX4) (N := 21) cell_model rfl (by decide) rfl nX4 (by decide) mF_X4_7 rfl dX4_cuts_37 ?_
  refine x_iconst (pc := 40) (1) dX4_cuts_40 (by decide) ?_
  refine x_aload_n (pc := 41) dX4_cuts_41 rfl ?_
  refine x_iload_n (pc := 42) dX4_cuts_42 rfl ?_
  refine t_Vi (pc := 43) (c_X4_leadColumn hM hF hi) qV_X4_leadColumn mL_X4_70 dX4_cuts_43 rfl cell_model (by decide) rfl rfl rfl ⟨by decide, by decide⟩ (Nat.le_of_ble_eq_true rfl) (Nat.le_of_ble_eq_true rfl) (Nat.le_of_ble_eq_true rfl) ?_
  refine t_stS (pc := 46) 1 (by decide) rfl dX4_cuts_46 ?_
  try dsimp only
  have hM := RM_int hM 1 (lcV (A.2.2.2.2 i))
  refine x_aload_n (pc := 47) dX4_cuts_47 rfl ?_
  refine x_get (pc := 48) (ci := 4) (k := 0) (C := RX4) (T := TX4) (N := 21) cell_model rfl (by decide) rfl nX4 (by decide) mF_X4_7 rfl dX4_cuts_48 ?_
  refine x_iconst (pc := 51) (2) dX4_cuts_51 (by decide) ?_
  refine x_aload_n (pc := 52) dX4_cuts_52 rfl ?_
  refine x_iload_n (pc := 53) dX4_cuts_53 rfl ?_
  refine t_Vi (pc := 54) (c_X4_leadRow (i := i) hM hF hi) qV_X4_leadRow mL_X4_76 dX4_cuts_54 rfl cell_model (by decide) rfl rfl rfl ⟨by decide, by decide⟩ (Nat.le_of_ble_eq_true rfl) (Nat.le_of_ble_eq_true rfl) (Nat.le_of_ble_eq_true rfl) ?_
  show XJ _ _ _ _ _ _ (.int (lrV (A.2.2.2.2 i)) :: _) _ _ _ _
  refine t_stS (pc := 57) 2 (by decide) rfl dX4_cuts_57 ?_
  try dsimp only
  have hM : RM _ (goA A i) := RM_int hM 2 (lrV (A.2.2.2.2 i))
  refine x_aload_n (pc := 58) dX4_cuts_58 rfl ?_
  refine x_get (pc := 59) (ci := 4) (k := 0) (C := RX4) (T := TX4) (N := 21) cell_model rfl (by decide) rfl nX4 (by decide) mF_X4_7 rfl dX4_cuts_59 ?_
  refine x_iconst (pc := 62) (4) dX4_cuts_62 (by decide) ?_
  refine x_dup2 (pc := 63) dX4_cuts_63 rfl rfl ?_
  refine t_ild (pc := 64) 4 cell_s (by decide) rfl (by decide) (by decide) dX4_cuts_64 ?_
  try dsimp only
  rw [hM.int 4]
  refine x_aload_n (pc := 65) dX4_cuts_65 rfl ?_
  refine x_iload_n (pc := 66) dX4_cuts_66 rfl ?_
  refine t_Vi (pc := 67) (c_X4_burning (i := i) hM hi) qV_X4_burning mL_X4_107 dX4_cuts_67 rfl cell_model (by decide) rfl rfl rfl ⟨by decide, by decide⟩ (Nat.le_of_ble_eq_true rfl) (Nat.le_of_ble_eq_true rfl) (Nat.le_of_ble_eq_true rfl) ?_
  refine x_iadd (pc := 70) dX4_cuts_70 ?_
  refine t_stS (pc := 71) 4 (by decide) rfl dX4_cuts_71 ?_
  try dsimp only
  have hM := RM_int hM 4 ((goA A i).2.1 4 + burV (goA A i) i)
  refine x_aload_n (pc := 72) dX4_cuts_72 rfl ?_
  refine x_get (pc := 73) (ci := 4) (k := 0) (C := RX4) (T := TX4) (N := 21) cell_model rfl (by decide) rfl nX4 (by decide) mF_X4_7 rfl dX4_cuts_73 ?_
  refine x_iconst (pc := 76) (5) dX4_cuts_76 (by decide) ?_
  refine x_dup2 (pc := 77) dX4_cuts_77 rfl rfl ?_
  refine t_ild (pc := 78) 5 cell_s (by decide) rfl (by decide) (by decide) dX4_cuts_78 ?_
  try dsimp only
  rw [hM.int 5]
  show XJ _ _ _ _ _ _ (.int ((goA A i).2.1 5) :: _) _ _ _ _
  refine x_aload_n (pc := 79) dX4_cuts_79 rfl ?_
  refine x_iload_n (pc := 80) dX4_cuts_80 rfl ?_
  refine t_Vi (pc := 81) (c_X4_burning (i := i) hM hi) qV_X4_burning mL_X4_107 dX4_cuts_81 rfl cell_model (by decide) rfl rfl rfl ⟨by decide, by decide⟩ (Nat.le_of_ble_eq_true rfl) (Nat.le_of_ble_eq_true rfl) (Nat.le_of_ble_eq_true rfl) ?_
  show XJ _ _ _ _ _ _ (.int (burV (goA A i) i) :: _) _ _ _ _
  refine x_iadd (pc := 84) dX4_cuts_84 ?_
  refine t_stS (pc := 85) 5 (by decide) rfl dX4_cuts_85 ?_
  try dsimp only
  have hM := RM_int hM 5 ((goA A i).2.1 5 + burV (goA A i) i)
  refine x_aload_n (pc := 86) dX4_cuts_86 rfl ?_
  refine x_get (pc := 87) (ci := 4) (k := 0) (C := RX4) (T := TX4) (N := 21) cell_model rfl (by decide) rfl nX4 (by decide) mF_X4_7 rfl dX4_cuts_87 ?_
  refine x_iconst (pc := 90) (3) dX4_cuts_90 (by decide) ?_
  refine x_dup2 (pc := 91) dX4_cuts_91 rfl rfl ?_
  refine t_ild (pc := 92) 3 cell_s (by decide) rfl (by decide) (by decide) dX4_cuts_92 ?_
  try dsimp only
  rw [hM.int 3]
  show XJ _ _ _ _ _ _ (.int ((goA A i).2.1 3) :: _) _ _ _ _
  refine x_iconst (pc := 93) (1) dX4_cuts_93 (by decide) ?_
  refine x_iadd (pc := 94) dX4_cuts_94 ?_
  refine t_stS (pc := 95) 3 (by decide) rfl dX4_cuts_95 ?_
  try dsimp only
  have hM := burK_0 (A := (goA A i)) (i := i) (RM_int hM 3 ((goA A i).2.1 3 + 1))
  refine x_iconst (pc := 96) (0) dX4_cuts_96 (by decide) ?_
  refine x_istore_n (pc := 97) dX4_cuts_97 (by decide) ?_
  exact x_back (lp 0 (by omega) _ hM) ⟨rfl, rfl, rfl, trivial⟩
set_option maxHeartbeats 4000000 in
set_option maxRecDepth 100000 in
theorem c_X4_cuts (hM : RM s A) (hV : VA A) (v : Int32) : Ct G yX4_cuts YX4_cuts 0 0 [.ref (gB G + 247), .int v] 255 (cellOf G S B (N, s, T)) (Re G (some (.int (cutX A v).1)) (fun _ : Fs => S) (fun _ => B) (fun s' : Fs => (N, s', T)) (fun s' => RM s' ((cutX A v).2))) := by
  refine ct_of (by decide +kernel) rfl rfl (Nat.le_of_ble_eq_true rfl) (by simp [Value.category]) ?_
  refine x_sub (l' := [(0, .ref (gB G + 247)), (1, .int v)]) ⟨rfl, rfl, trivial⟩ ?_
  refine x_aload_n (pc := 0) dX4_cuts_0 rfl ?_
  refine x_iload_n (pc := 1) dX4_cuts_1 rfl ?_
  refine t_Vi (pc := 2) (c_X4_isShape hM _) qV_X4_isShape mL_X4_97 dX4_cuts_2 rfl cell_model (by decide) rfl rfl rfl ⟨by decide, by decide⟩ (Nat.le_of_ble_eq_true rfl) (Nat.le_of_ble_eq_true rfl) (Nat.le_of_ble_eq_true rfl) ?_
  refine x_ifne (pc := 5) 10 dX4_cuts_5 (by decide) (fun c5 => ?_) (fun c5 => ?_)
  · have hk : knB A v = true := b01_ne c5
    obtain ⟨i, hi, rfl, hcl⟩ := knB_some hM.le hk
    have hF := hV.vS
    refine x_aload_n (pc := 10) dX4_cuts_10 rfl ?_
    refine x_iload_n (pc := 11) dX4_cuts_11 rfl ?_
    refine t_Vi (pc := 12) (c_X4_why hM hV (by first | assumption | omega)) qV_X4_why mL_X4_100 dX4_cuts_12 rfl cell_model (by decide) rfl rfl rfl ⟨by decide, by decide⟩ (Nat.le_of_ble_eq_true rfl) (Nat.le_of_ble_eq_true rfl) (Nat.le_of_ble_eq_true rfl) ?_
    refine x_ifle (pc := 15) 27 dX4_cuts_15 (by decide) (fun c15 => ?_) (fun c15 => ?_)
    · have hw := why_z c15
      have hX := cutX_nI hM.le hi hw
      rw [hX]
      refine x_aload_n (pc := 27) dX4_cuts_27 rfl ?_
      refine x_aload_n (pc := 28) dX4_cuts_28 rfl ?_
      refine x_iload_n (pc := 29) dX4_cuts_29 rfl ?_
      refine t_Vi (pc := 30) (c_X4_going hM hV (by first | assumption | omega)) qV_X4_going mL_X4_91 dX4_cuts_30 rfl cell_model (by decide) rfl rfl rfl ⟨by decide, by decide⟩ (Nat.le_of_ble_eq_true rfl) (Nat.le_of_ble_eq_true rfl) (Nat.le_of_ble_eq_true rfl) ?_
      refine e_Vv (pc := 33) (c_X4_cools hM hV _ (way_9 hV hi)) qV_X4_cools mL_X4_103 dX4_cuts_33 rfl cell_model (by decide) rfl rfl rfl ⟨by decide, by decide⟩ (Nat.le_of_ble_eq_true rfl) (Nat.le_of_ble_eq_true rfl) (Nat.le_of_ble_eq_true rfl) ?_
      intro s1 R1
      have hC := VA_cool hV (way_9 hV hi)
      have e := tl1_X4_cuts (G := G) (S := S) (B := B) (N := N) (T := T) (A := coolA A (wayV A i)) (i := i) R1 hF hi (fun k hk => hC.ht hk)
      exact x_back e ⟨rfl, rfl, trivial⟩
    · have hw : ¬ whyV A i = 0 := fun z => by rw [z] at c15; exact absurd c15 (by decide)
      have hX : cutX A (nI i) = (-10 - whyV A i, A) := by unfold cutX; rw [hk, if_pos rfl, hcl, if_neg hw]
      rw [hX]
      refine x_bipush (pc := 18) (-10) dX4_cuts_18 (by decide) ?_
      refine x_aload_n (pc := 20) dX4_cuts_20 rfl ?_
      refine x_iload_n (pc := 21) dX4_cuts_21 rfl ?_
      refine t_Vi (pc := 22) (c_X4_why hM hV (by first | assumption | omega)) qV_X4_why mL_X4_100 dX4_cuts_22 rfl cell_model (by decide) rfl rfl rfl ⟨by decide, by decide⟩ (Nat.le_of_ble_eq_true rfl) (Nat.le_of_ble_eq_true rfl) (Nat.le_of_ble_eq_true rfl) ?_
      refine x_isub (pc := 25) dX4_cuts_25 ?_
      exact x_iret rfl dX4_cuts_26 ⟨s, rfl, rfl, rfl, hM⟩
  · have hk : knB A v = false := b01_eq c5
    have hX : cutX A v = (-1, A) := by unfold cutX; rw [hk]; rfl
    rw [hX]
    refine x_iconst (pc := 8) (-1) dX4_cuts_8 (by decide) ?_
    exact x_iret rfl dX4_cuts_9 ⟨s, rfl, rfl, rfl, hM⟩
set_option maxHeartbeats 4000000 in
set_option maxRecDepth 100000 in
theorem c_X4_couldBe {c r w h : Int32} (hM : RM s A) (hF : vS A) (hb : badB c r w h = false) : Ct G yX4_couldBe YX4_couldBe 0 0 [.ref (gB G + 247), .int c, .int r, .int w, .int h] 255 (cellOf G S B (N, s, T)) (Rt G (some (.int (b01 (fitB A.2.2.2.2 (plF (fun _ => 0) c r w h) A.1)))) S B (N, s, T)) := by
  refine ct_of (by decide +kernel) rfl rfl (Nat.le_of_ble_eq_true rfl) (by simp [Value.category]) ?_
  refine x_sub (l' := [(0, .ref (gB G + 247)), (1, .int c), (2, .int r), (3, .int w), (4, .int h)]) ⟨rfl, rfl, rfl, rfl, rfl, trivial⟩ ?_
  have h12 := hM.le
  have lp : ∀ k, k ≤ A.1 → XJ G YX4_couldBe (fun _ => True) (Zx G (Rt G (some (.int (b01 (fitB A.2.2.2.2 (plF (fun _ => 0) c r w h) A.1)))) S B (N, s, T)) 0 0) 6 [(0, .ref (gB G + 247)), (1, .int c), (2, .int r), (3, .int w), (4, .int h), (5, .int (b01 (fitB A.2.2.2.2 (plF (fun _ => 0) c r w h) k))), (6, .int (nI k))] [] 255 (cellOf G S B (N, s, T)) 0 0 := by
    refine loopD (A.1) ?_
    intro k hk ih
    have hok : k < A.1 → okB (plF (fun _ => 0) c r w h) (A.2.2.2.2 k) = (apR c r w h (A.2.2.2.2 k) || ((inR c r w h (A.2.2.2.2 k) || ouR c r w h (A.2.2.2.2 k)) && decide (A.2.2.2.2 k 5 = 0))) := fun hk => by rw [← okR_eq (bad_vF hb _) (hF k hk), okR_p]
    have t4 : k < A.1 → ∀ ap im om : Bool, ap = apR c r w h (A.2.2.2.2 k) → im = inR c r w h (A.2.2.2.2 k) → om = ouR c r w h (A.2.2.2.2 k) → XJ G YX4_couldBe (fun _ => True) (Zx G (Rt G (some (.int (b01 (fitB A.2.2.2.2 (plF (fun _ => 0) c r w h) A.1)))) S B (N, s, T)) 0 0) 187 [(0, .ref (gB G + 247)), (1, .int c), (2, .int r), (3, .int w), (4, .int h), (5, .int (b01 (fitB A.2.2.2.2 (plF (fun _ => 0) c r w h) k))), (6, .int (nI k)), (7, .int (b01 ap)), (8, .int (b01 im)), (9, .int (b01 om))] [] 255 (cellOf G S B (N, s, T)) 0 0 := by
      intro hkn ap im om ha hi ho
      have hok := hok hkn
      rw [← ha, ← hi, ← ho] at hok
      refine x_iload (pc := 187) dX4_couldBe_187 rfl ?_
      refine x_ifeq (pc := 189) 220 dX4_couldBe_189 (by decide) (fun c189 => ?_) (fun c189 => ?_)
      · refine x_iconst (pc := 220) (0) dX4_couldBe_220 (by decide) ?_
        refine x_istore (pc := 221) dX4_couldBe_221 (by decide) ?_
        refine x_iinc (pc := 223) (nI (k + 1)) dX4_couldBe_223 rfl (iinc_nI k) (by decide) ?_
        refine x_goto (pc := 226) 6 dX4_couldBe_226 (by decide) ?_
        have ef : fitB A.2.2.2.2 (plF (fun _ => 0) c r w h) (k + 1) = false := by simp only [fitB, hok, b01_eq c189, Bool.true_or, Bool.or_true, Bool.false_or, Bool.or_false, Bool.not_true, Bool.not_false, Bool.and_true, Bool.true_and, Bool.and_false, Bool.false_and, Bool.or_self, Bool.and_self]
        have e := ih hkn
        rw [ef] at e
        exact x_back e ⟨rfl, rfl, rfl, rfl, rfl, rfl, rfl, trivial⟩
      · refine x_iload (pc := 192) dX4_couldBe_192 rfl ?_
        refine x_ifne (pc := 194) 216 dX4_couldBe_194 (by decide) (fun c194 => ?_) (fun c194 => ?_)
        · refine x_iconst (pc := 216) (1) dX4_couldBe_216 (by decide) ?_
          refine x_goto (pc := 217) 221 dX4_couldBe_217 (by decide) ?_
          refine x_istore (pc := 221) dX4_couldBe_221 (by decide) ?_
          refine x_iinc (pc := 223) (nI (k + 1)) dX4_couldBe_223 rfl (iinc_nI k) (by decide) ?_
          refine x_goto (pc := 226) 6 dX4_couldBe_226 (by decide) ?_
          have ef : fitB A.2.2.2.2 (plF (fun _ => 0) c r w h) (k + 1) = true := by simp only [fitB, hok, b01_ne c189, b01_ne c194, Bool.true_or, Bool.or_true, Bool.false_or, Bool.or_false, Bool.not_true, Bool.not_false, Bool.and_true, Bool.true_and, Bool.and_false, Bool.false_and, Bool.or_self, Bool.and_self]
          have e := ih hkn
          rw [ef] at e
          exact x_back e ⟨rfl, rfl, rfl, rfl, rfl, rfl, rfl, trivial⟩
        · refine x_iload (pc := 197) dX4_couldBe_197 rfl ?_
          refine x_ifne (pc := 199) 207 dX4_couldBe_199 (by decide) (fun c199 => ?_) (fun c199 => ?_)
          · refine x_aload_n (pc := 207) dX4_couldBe_207 rfl ?_
            refine x_iload (pc := 208) dX4_couldBe_208 rfl ?_
            refine t_Vi (pc := 210) (c_X4_isWhole hM (by first | assumption | omega)) qV_X4_isWhole mL_X4_66 dX4_couldBe_210 rfl cell_model (by decide) rfl rfl rfl ⟨by decide, by decide⟩ (Nat.le_of_ble_eq_true rfl) (Nat.le_of_ble_eq_true rfl) (Nat.le_of_ble_eq_true rfl) ?_
            refine x_ifeq (pc := 213) 220 dX4_couldBe_213 (by decide) (fun c213 => ?_) (fun c213 => ?_)
            · refine x_iconst (pc := 220) (0) dX4_couldBe_220 (by decide) ?_
              refine x_istore (pc := 221) dX4_couldBe_221 (by decide) ?_
              refine x_iinc (pc := 223) (nI (k + 1)) dX4_couldBe_223 rfl (iinc_nI k) (by decide) ?_
              refine x_goto (pc := 226) 6 dX4_couldBe_226 (by decide) ?_
              have ef : fitB A.2.2.2.2 (plF (fun _ => 0) c r w h) (k + 1) = false := by simp only [fitB, hok, b01_ne c189, b01_eq c194, b01_ne c199, b01_eq c213, Bool.true_or, Bool.or_true, Bool.false_or, Bool.or_false, Bool.not_true, Bool.not_false, Bool.and_true, Bool.true_and, Bool.and_false, Bool.false_and, Bool.or_self, Bool.and_self]
              have e := ih hkn
              rw [ef] at e
              exact x_back e ⟨rfl, rfl, rfl, rfl, rfl, rfl, rfl, trivial⟩
            · refine x_iconst (pc := 216) (1) dX4_couldBe_216 (by decide) ?_
              refine x_goto (pc := 217) 221 dX4_couldBe_217 (by decide) ?_
              refine x_istore (pc := 221) dX4_couldBe_221 (by decide) ?_
              refine x_iinc (pc := 223) (nI (k + 1)) dX4_couldBe_223 rfl (iinc_nI k) (by decide) ?_
              refine x_goto (pc := 226) 6 dX4_couldBe_226 (by decide) ?_
              have ef : fitB A.2.2.2.2 (plF (fun _ => 0) c r w h) (k + 1) = true := by simp only [fitB, hok, b01_ne c189, b01_eq c194, b01_ne c199, b01_ne c213, Bool.true_or, Bool.or_true, Bool.false_or, Bool.or_false, Bool.not_true, Bool.not_false, Bool.and_true, Bool.true_and, Bool.and_false, Bool.false_and, Bool.or_self, Bool.and_self]
              have e := ih hkn
              rw [ef] at e
              exact x_back e ⟨rfl, rfl, rfl, rfl, rfl, rfl, rfl, trivial⟩
          · refine x_iload (pc := 202) dX4_couldBe_202 rfl ?_
            refine x_ifeq (pc := 204) 220 dX4_couldBe_204 (by decide) (fun c204 => ?_) (fun c204 => ?_)
            · refine x_iconst (pc := 220) (0) dX4_couldBe_220 (by decide) ?_
              refine x_istore (pc := 221) dX4_couldBe_221 (by decide) ?_
              refine x_iinc (pc := 223) (nI (k + 1)) dX4_couldBe_223 rfl (iinc_nI k) (by decide) ?_
              refine x_goto (pc := 226) 6 dX4_couldBe_226 (by decide) ?_
              have ef : fitB A.2.2.2.2 (plF (fun _ => 0) c r w h) (k + 1) = false := by simp only [fitB, hok, b01_ne c189, b01_eq c194, b01_eq c199, b01_eq c204, Bool.true_or, Bool.or_true, Bool.false_or, Bool.or_false, Bool.not_true, Bool.not_false, Bool.and_true, Bool.true_and, Bool.and_false, Bool.false_and, Bool.or_self, Bool.and_self]
              have e := ih hkn
              rw [ef] at e
              exact x_back e ⟨rfl, rfl, rfl, rfl, rfl, rfl, rfl, trivial⟩
            · refine x_aload_n (pc := 207) dX4_couldBe_207 rfl ?_
              refine x_iload (pc := 208) dX4_couldBe_208 rfl ?_
              refine t_Vi (pc := 210) (c_X4_isWhole hM (by first | assumption | omega)) qV_X4_isWhole mL_X4_66 dX4_couldBe_210 rfl cell_model (by decide) rfl rfl rfl ⟨by decide, by decide⟩ (Nat.le_of_ble_eq_true rfl) (Nat.le_of_ble_eq_true rfl) (Nat.le_of_ble_eq_true rfl) ?_
              refine x_ifeq (pc := 213) 220 dX4_couldBe_213 (by decide) (fun c213 => ?_) (fun c213 => ?_)
              · refine x_iconst (pc := 220) (0) dX4_couldBe_220 (by decide) ?_
                refine x_istore (pc := 221) dX4_couldBe_221 (by decide) ?_
                refine x_iinc (pc := 223) (nI (k + 1)) dX4_couldBe_223 rfl (iinc_nI k) (by decide) ?_
                refine x_goto (pc := 226) 6 dX4_couldBe_226 (by decide) ?_
                have ef : fitB A.2.2.2.2 (plF (fun _ => 0) c r w h) (k + 1) = false := by simp only [fitB, hok, b01_ne c189, b01_eq c194, b01_eq c199, b01_ne c204, b01_eq c213, Bool.true_or, Bool.or_true, Bool.false_or, Bool.or_false, Bool.not_true, Bool.not_false, Bool.and_true, Bool.true_and, Bool.and_false, Bool.false_and, Bool.or_self, Bool.and_self]
                have e := ih hkn
                rw [ef] at e
                exact x_back e ⟨rfl, rfl, rfl, rfl, rfl, rfl, rfl, trivial⟩
              · refine x_iconst (pc := 216) (1) dX4_couldBe_216 (by decide) ?_
                refine x_goto (pc := 217) 221 dX4_couldBe_217 (by decide) ?_
                refine x_istore (pc := 221) dX4_couldBe_221 (by decide) ?_
                refine x_iinc (pc := 223) (nI (k + 1)) dX4_couldBe_223 rfl (iinc_nI k) (by decide) ?_
                refine x_goto (pc := 226) 6 dX4_couldBe_226 (by decide) ?_
                have ef : fitB A.2.2.2.2 (plF (fun _ => 0) c r w h) (k + 1) = true := by simp only [fitB, hok, b01_ne c189, b01_eq c194, b01_eq c199, b01_ne c204, b01_ne c213, Bool.true_or, Bool.or_true, Bool.false_or, Bool.or_false, Bool.not_true, Bool.not_false, Bool.and_true, Bool.true_and, Bool.and_false, Bool.false_and, Bool.or_self, Bool.and_self]
                have e := ih hkn
                rw [ef] at e
                exact x_back e ⟨rfl, rfl, rfl, rfl, rfl, rfl, rfl, trivial⟩
    have t3 : k < A.1 → ∀ ap im : Bool, ap = apR c r w h (A.2.2.2.2 k) → im = inR c r w h (A.2.2.2.2 k) → XJ G YX4_couldBe (fun _ => True) (Zx G (Rt G (some (.int (b01 (fitB A.2.2.2.2 (plF (fun _ => 0) c r w h) A.1)))) S B (N, s, T)) 0 0) 129 [(0, .ref (gB G + 247)), (1, .int c), (2, .int r), (3, .int w), (4, .int h), (5, .int (b01 (fitB A.2.2.2.2 (plF (fun _ => 0) c r w h) k))), (6, .int (nI k)), (7, .int (b01 ap)), (8, .int (b01 im))] [] 255 (cellOf G S B (N, s, T)) 0 0 := by
      intro hkn ap im ha hi
      refine x_iload_n (pc := 129) dX4_couldBe_129 rfl ?_
      refine x_aload_n (pc := 130) dX4_couldBe_130 rfl ?_
      refine x_iload (pc := 131) dX4_couldBe_131 rfl ?_
      refine x_iconst (pc := 133) (0) dX4_couldBe_133 (by decide) ?_
      refine t_Vi (pc := 134) (c_X4_of hM (by first | assumption | omega) 0 (by decide)) qV_X4_of mL_X4_46 dX4_couldBe_134 rfl cell_model (by decide) rfl rfl rfl ⟨by decide, by decide⟩ (Nat.le_of_ble_eq_true rfl) (Nat.le_of_ble_eq_true rfl) (Nat.le_of_ble_eq_true rfl) ?_
      refine x_cmpge (pc := 137) 184 dX4_couldBe_137 (by decide) (fun c137 => ?_) (fun c137 => ?_)
      · refine x_iconst (pc := 184) (0) dX4_couldBe_184 (by decide) ?_
        refine x_istore (pc := 185) dX4_couldBe_185 (by decide) ?_
        have eo : ouR c r w h (A.2.2.2.2 k) = false := by simp only [ouR, decide_eq_false c137, Bool.true_or, Bool.or_true, Bool.false_or, Bool.or_false, Bool.not_true, Bool.not_false, Bool.and_true, Bool.true_and, Bool.and_false, Bool.false_and, Bool.or_self, Bool.and_self]
        exact x_back (t4 hkn ap im false ha hi eo.symm) ⟨rfl, rfl, rfl, rfl, rfl, rfl, rfl, rfl, rfl, rfl, trivial⟩
      · refine x_iload_n (pc := 140) dX4_couldBe_140 rfl ?_
        refine x_iload_n (pc := 141) dX4_couldBe_141 rfl ?_
        refine x_iadd (pc := 142) dX4_couldBe_142 ?_
        refine x_iconst (pc := 143) (1) dX4_couldBe_143 (by decide) ?_
        refine x_isub (pc := 144) dX4_couldBe_144 ?_
        refine x_aload_n (pc := 145) dX4_couldBe_145 rfl ?_
        refine x_iload (pc := 146) dX4_couldBe_146 rfl ?_
        refine t_Vi (pc := 148) (c_X4_lastColumn hM (by first | assumption | omega)) qV_X4_lastColumn mL_X4_52 dX4_couldBe_148 rfl cell_model (by decide) rfl rfl rfl ⟨by decide, by decide⟩ (Nat.le_of_ble_eq_true rfl) (Nat.le_of_ble_eq_true rfl) (Nat.le_of_ble_eq_true rfl) ?_
        refine x_cmple (pc := 151) 184 dX4_couldBe_151 (by decide) (fun c151 => ?_) (fun c151 => ?_)
        · refine x_iconst (pc := 184) (0) dX4_couldBe_184 (by decide) ?_
          refine x_istore (pc := 185) dX4_couldBe_185 (by decide) ?_
          have eo : ouR c r w h (A.2.2.2.2 k) = false := by simp only [ouR, decide_eq_true c137, decide_eq_false c151, Bool.true_or, Bool.or_true, Bool.false_or, Bool.or_false, Bool.not_true, Bool.not_false, Bool.and_true, Bool.true_and, Bool.and_false, Bool.false_and, Bool.or_self, Bool.and_self]
          exact x_back (t4 hkn ap im false ha hi eo.symm) ⟨rfl, rfl, rfl, rfl, rfl, rfl, rfl, rfl, rfl, rfl, trivial⟩
        · refine x_iload_n (pc := 154) dX4_couldBe_154 rfl ?_
          refine x_aload_n (pc := 155) dX4_couldBe_155 rfl ?_
          refine x_iload (pc := 156) dX4_couldBe_156 rfl ?_
          refine x_iconst (pc := 158) (1) dX4_couldBe_158 (by decide) ?_
          refine t_Vi (pc := 159) (c_X4_of hM (by first | assumption | omega) 1 (by decide)) qV_X4_of mL_X4_46 dX4_couldBe_159 rfl cell_model (by decide) rfl rfl rfl ⟨by decide, by decide⟩ (Nat.le_of_ble_eq_true rfl) (Nat.le_of_ble_eq_true rfl) (Nat.le_of_ble_eq_true rfl) ?_
          refine x_cmpge (pc := 162) 184 dX4_couldBe_162 (by decide) (fun c162 => ?_) (fun c162 => ?_)
          · refine x_iconst (pc := 184) (0) dX4_couldBe_184 (by decide) ?_
            refine x_istore (pc := 185) dX4_couldBe_185 (by decide) ?_
            have eo : ouR c r w h (A.2.2.2.2 k) = false := by simp only [ouR, decide_eq_true c137, decide_eq_true c151, decide_eq_false c162, Bool.true_or, Bool.or_true, Bool.false_or, Bool.or_false, Bool.not_true, Bool.not_false, Bool.and_true, Bool.true_and, Bool.and_false, Bool.false_and, Bool.or_self, Bool.and_self]
            exact x_back (t4 hkn ap im false ha hi eo.symm) ⟨rfl, rfl, rfl, rfl, rfl, rfl, rfl, rfl, rfl, rfl, trivial⟩
          · refine x_iload_n (pc := 165) dX4_couldBe_165 rfl ?_
            refine x_iload (pc := 166) dX4_couldBe_166 rfl ?_
            refine x_iadd (pc := 168) dX4_couldBe_168 ?_
            refine x_iconst (pc := 169) (1) dX4_couldBe_169 (by decide) ?_
            refine x_isub (pc := 170) dX4_couldBe_170 ?_
            refine x_aload_n (pc := 171) dX4_couldBe_171 rfl ?_
            refine x_iload (pc := 172) dX4_couldBe_172 rfl ?_
            refine t_Vi (pc := 174) (c_X4_lastRow hM (by first | assumption | omega)) qV_X4_lastRow mL_X4_56 dX4_couldBe_174 rfl cell_model (by decide) rfl rfl rfl ⟨by decide, by decide⟩ (Nat.le_of_ble_eq_true rfl) (Nat.le_of_ble_eq_true rfl) (Nat.le_of_ble_eq_true rfl) ?_
            refine x_cmple (pc := 177) 184 dX4_couldBe_177 (by decide) (fun c177 => ?_) (fun c177 => ?_)
            · refine x_iconst (pc := 184) (0) dX4_couldBe_184 (by decide) ?_
              refine x_istore (pc := 185) dX4_couldBe_185 (by decide) ?_
              have eo : ouR c r w h (A.2.2.2.2 k) = false := by simp only [ouR, decide_eq_true c137, decide_eq_true c151, decide_eq_true c162, decide_eq_false c177, Bool.true_or, Bool.or_true, Bool.false_or, Bool.or_false, Bool.not_true, Bool.not_false, Bool.and_true, Bool.true_and, Bool.and_false, Bool.false_and, Bool.or_self, Bool.and_self]
              exact x_back (t4 hkn ap im false ha hi eo.symm) ⟨rfl, rfl, rfl, rfl, rfl, rfl, rfl, rfl, rfl, rfl, trivial⟩
            · refine x_iconst (pc := 180) (1) dX4_couldBe_180 (by decide) ?_
              refine x_goto (pc := 181) 185 dX4_couldBe_181 (by decide) ?_
              refine x_istore (pc := 185) dX4_couldBe_185 (by decide) ?_
              have eo : ouR c r w h (A.2.2.2.2 k) = true := by simp only [ouR, decide_eq_true c137, decide_eq_true c151, decide_eq_true c162, decide_eq_true c177, Bool.true_or, Bool.or_true, Bool.false_or, Bool.or_false, Bool.not_true, Bool.not_false, Bool.and_true, Bool.true_and, Bool.and_false, Bool.false_and, Bool.or_self, Bool.and_self]
              exact x_back (t4 hkn ap im true ha hi eo.symm) ⟨rfl, rfl, rfl, rfl, rfl, rfl, rfl, rfl, rfl, rfl, trivial⟩
    have t2 : k < A.1 → ∀ ap : Bool, ap = apR c r w h (A.2.2.2.2 k) → XJ G YX4_couldBe (fun _ => True) (Zx G (Rt G (some (.int (b01 (fitB A.2.2.2.2 (plF (fun _ => 0) c r w h) A.1)))) S B (N, s, T)) 0 0) 71 [(0, .ref (gB G + 247)), (1, .int c), (2, .int r), (3, .int w), (4, .int h), (5, .int (b01 (fitB A.2.2.2.2 (plF (fun _ => 0) c r w h) k))), (6, .int (nI k)), (7, .int (b01 ap))] [] 255 (cellOf G S B (N, s, T)) 0 0 := by
      intro hkn ap ha
      refine x_iload_n (pc := 71) dX4_couldBe_71 rfl ?_
      refine x_aload_n (pc := 72) dX4_couldBe_72 rfl ?_
      refine x_iload (pc := 73) dX4_couldBe_73 rfl ?_
      refine x_iconst (pc := 75) (0) dX4_couldBe_75 (by decide) ?_
      refine t_Vi (pc := 76) (c_X4_of hM (by first | assumption | omega) 0 (by decide)) qV_X4_of mL_X4_46 dX4_couldBe_76 rfl cell_model (by decide) rfl rfl rfl ⟨by decide, by decide⟩ (Nat.le_of_ble_eq_true rfl) (Nat.le_of_ble_eq_true rfl) (Nat.le_of_ble_eq_true rfl) ?_
      refine x_cmple (pc := 79) 126 dX4_couldBe_79 (by decide) (fun c79 => ?_) (fun c79 => ?_)
      · refine x_iconst (pc := 126) (0) dX4_couldBe_126 (by decide) ?_
        refine x_istore (pc := 127) dX4_couldBe_127 (by decide) ?_
        have ei : inR c r w h (A.2.2.2.2 k) = false := by simp only [inR, decide_eq_false c79, Bool.true_or, Bool.or_true, Bool.false_or, Bool.or_false, Bool.not_true, Bool.not_false, Bool.and_true, Bool.true_and, Bool.and_false, Bool.false_and, Bool.or_self, Bool.and_self]
        exact x_back (t3 hkn ap false ha ei.symm) ⟨rfl, rfl, rfl, rfl, rfl, rfl, rfl, rfl, rfl, trivial⟩
      · refine x_iload_n (pc := 82) dX4_couldBe_82 rfl ?_
        refine x_iload_n (pc := 83) dX4_couldBe_83 rfl ?_
        refine x_iadd (pc := 84) dX4_couldBe_84 ?_
        refine x_iconst (pc := 85) (1) dX4_couldBe_85 (by decide) ?_
        refine x_isub (pc := 86) dX4_couldBe_86 ?_
        refine x_aload_n (pc := 87) dX4_couldBe_87 rfl ?_
        refine x_iload (pc := 88) dX4_couldBe_88 rfl ?_
        refine t_Vi (pc := 90) (c_X4_lastColumn hM (by first | assumption | omega)) qV_X4_lastColumn mL_X4_52 dX4_couldBe_90 rfl cell_model (by decide) rfl rfl rfl ⟨by decide, by decide⟩ (Nat.le_of_ble_eq_true rfl) (Nat.le_of_ble_eq_true rfl) (Nat.le_of_ble_eq_true rfl) ?_
        refine x_cmpge (pc := 93) 126 dX4_couldBe_93 (by decide) (fun c93 => ?_) (fun c93 => ?_)
        · refine x_iconst (pc := 126) (0) dX4_couldBe_126 (by decide) ?_
          refine x_istore (pc := 127) dX4_couldBe_127 (by decide) ?_
          have ei : inR c r w h (A.2.2.2.2 k) = false := by simp only [inR, decide_eq_true c79, decide_eq_false c93, Bool.true_or, Bool.or_true, Bool.false_or, Bool.or_false, Bool.not_true, Bool.not_false, Bool.and_true, Bool.true_and, Bool.and_false, Bool.false_and, Bool.or_self, Bool.and_self]
          exact x_back (t3 hkn ap false ha ei.symm) ⟨rfl, rfl, rfl, rfl, rfl, rfl, rfl, rfl, rfl, trivial⟩
        · refine x_iload_n (pc := 96) dX4_couldBe_96 rfl ?_
          refine x_aload_n (pc := 97) dX4_couldBe_97 rfl ?_
          refine x_iload (pc := 98) dX4_couldBe_98 rfl ?_
          refine x_iconst (pc := 100) (1) dX4_couldBe_100 (by decide) ?_
          refine t_Vi (pc := 101) (c_X4_of hM (by first | assumption | omega) 1 (by decide)) qV_X4_of mL_X4_46 dX4_couldBe_101 rfl cell_model (by decide) rfl rfl rfl ⟨by decide, by decide⟩ (Nat.le_of_ble_eq_true rfl) (Nat.le_of_ble_eq_true rfl) (Nat.le_of_ble_eq_true rfl) ?_
          refine x_cmple (pc := 104) 126 dX4_couldBe_104 (by decide) (fun c104 => ?_) (fun c104 => ?_)
          · refine x_iconst (pc := 126) (0) dX4_couldBe_126 (by decide) ?_
            refine x_istore (pc := 127) dX4_couldBe_127 (by decide) ?_
            have ei : inR c r w h (A.2.2.2.2 k) = false := by simp only [inR, decide_eq_true c79, decide_eq_true c93, decide_eq_false c104, Bool.true_or, Bool.or_true, Bool.false_or, Bool.or_false, Bool.not_true, Bool.not_false, Bool.and_true, Bool.true_and, Bool.and_false, Bool.false_and, Bool.or_self, Bool.and_self]
            exact x_back (t3 hkn ap false ha ei.symm) ⟨rfl, rfl, rfl, rfl, rfl, rfl, rfl, rfl, rfl, trivial⟩
          · refine x_iload_n (pc := 107) dX4_couldBe_107 rfl ?_
            refine x_iload (pc := 108) dX4_couldBe_108 rfl ?_
            refine x_iadd (pc := 110) dX4_couldBe_110 ?_
            refine x_iconst (pc := 111) (1) dX4_couldBe_111 (by decide) ?_
            refine x_isub (pc := 112) dX4_couldBe_112 ?_
            refine x_aload_n (pc := 113) dX4_couldBe_113 rfl ?_
            refine x_iload (pc := 114) dX4_couldBe_114 rfl ?_
            refine t_Vi (pc := 116) (c_X4_lastRow hM (by first | assumption | omega)) qV_X4_lastRow mL_X4_56 dX4_couldBe_116 rfl cell_model (by decide) rfl rfl rfl ⟨by decide, by decide⟩ (Nat.le_of_ble_eq_true rfl) (Nat.le_of_ble_eq_true rfl) (Nat.le_of_ble_eq_true rfl) ?_
            refine x_cmpge (pc := 119) 126 dX4_couldBe_119 (by decide) (fun c119 => ?_) (fun c119 => ?_)
            · refine x_iconst (pc := 126) (0) dX4_couldBe_126 (by decide) ?_
              refine x_istore (pc := 127) dX4_couldBe_127 (by decide) ?_
              have ei : inR c r w h (A.2.2.2.2 k) = false := by simp only [inR, decide_eq_true c79, decide_eq_true c93, decide_eq_true c104, decide_eq_false c119, Bool.true_or, Bool.or_true, Bool.false_or, Bool.or_false, Bool.not_true, Bool.not_false, Bool.and_true, Bool.true_and, Bool.and_false, Bool.false_and, Bool.or_self, Bool.and_self]
              exact x_back (t3 hkn ap false ha ei.symm) ⟨rfl, rfl, rfl, rfl, rfl, rfl, rfl, rfl, rfl, trivial⟩
            · refine x_iconst (pc := 122) (1) dX4_couldBe_122 (by decide) ?_
              refine x_goto (pc := 123) 127 dX4_couldBe_123 (by decide) ?_
              refine x_istore (pc := 127) dX4_couldBe_127 (by decide) ?_
              have ei : inR c r w h (A.2.2.2.2 k) = true := by simp only [inR, decide_eq_true c79, decide_eq_true c93, decide_eq_true c104, decide_eq_true c119, Bool.true_or, Bool.or_true, Bool.false_or, Bool.or_false, Bool.not_true, Bool.not_false, Bool.and_true, Bool.true_and, Bool.and_false, Bool.false_and, Bool.or_self, Bool.and_self]
              exact x_back (t3 hkn ap true ha ei.symm) ⟨rfl, rfl, rfl, rfl, rfl, rfl, rfl, rfl, rfl, trivial⟩
    refine x_iload (pc := 6) dX4_couldBe_6 rfl ?_
    refine x_aload_n (pc := 8) dX4_couldBe_8 rfl ?_
    refine x_get (pc := 9) (ci := 4) (k := 0) (C := RX4) (T := TX4) (N := 21) cell_model rfl (by decide) rfl nX4 (by decide) mF_X4_7 rfl dX4_couldBe_9 ?_
    refine x_iconst (pc := 12) (0) dX4_couldBe_12 (by decide) ?_
    refine t_ild (pc := 13) 0 cell_s (by decide) rfl (by decide) (by decide) dX4_couldBe_13 ?_
    try dsimp only
    rw [hM.told]
    refine x_cmpge (pc := 14) 229 dX4_couldBe_14 (by decide) (fun c14 => ?_) (fun c14 => ?_)
    · obtain rfl : k = A.1 := by have := mt (tl_iff hM.le hk).mpr c14; omega
      refine x_iload (pc := 229) dX4_couldBe_229 rfl ?_
      exact x_zret rfl (narrow_b01 _) dX4_couldBe_231 ⟨rfl, rfl, rfl⟩
    · have hkn : k < A.1 := (tl_iff hM.le hk).mp c14
      refine x_iload_n (pc := 17) dX4_couldBe_17 rfl ?_
      refine x_aload_n (pc := 18) dX4_couldBe_18 rfl ?_
      refine x_iload (pc := 19) dX4_couldBe_19 rfl ?_
      refine t_Vi (pc := 21) (c_X4_lastColumn hM (by first | assumption | omega)) qV_X4_lastColumn mL_X4_52 dX4_couldBe_21 rfl cell_model (by decide) rfl rfl rfl ⟨by decide, by decide⟩ (Nat.le_of_ble_eq_true rfl) (Nat.le_of_ble_eq_true rfl) (Nat.le_of_ble_eq_true rfl) ?_
      refine x_cmpgt (pc := 24) 64 dX4_couldBe_24 (by decide) (fun c24 => ?_) (fun c24 => ?_)
      · refine x_iconst (pc := 64) (1) dX4_couldBe_64 (by decide) ?_
        refine x_goto (pc := 65) 69 dX4_couldBe_65 (by decide) ?_
        refine x_istore (pc := 69) dX4_couldBe_69 (by decide) ?_
        have ea : apR c r w h (A.2.2.2.2 k) = true := by simp only [apR, decide_eq_true c24, Bool.true_or, Bool.or_true, Bool.false_or, Bool.or_false, Bool.not_true, Bool.not_false, Bool.and_true, Bool.true_and, Bool.and_false, Bool.false_and, Bool.or_self, Bool.and_self]
        exact x_back (t2 hkn true ea.symm) ⟨rfl, rfl, rfl, rfl, rfl, rfl, rfl, rfl, trivial⟩
      · refine x_iload_n (pc := 27) dX4_couldBe_27 rfl ?_
        refine x_iload_n (pc := 28) dX4_couldBe_28 rfl ?_
        refine x_iadd (pc := 29) dX4_couldBe_29 ?_
        refine x_aload_n (pc := 30) dX4_couldBe_30 rfl ?_
        refine x_iload (pc := 31) dX4_couldBe_31 rfl ?_
        refine x_iconst (pc := 33) (0) dX4_couldBe_33 (by decide) ?_
        refine t_Vi (pc := 34) (c_X4_of hM (by first | assumption | omega) 0 (by decide)) qV_X4_of mL_X4_46 dX4_couldBe_34 rfl cell_model (by decide) rfl rfl rfl ⟨by decide, by decide⟩ (Nat.le_of_ble_eq_true rfl) (Nat.le_of_ble_eq_true rfl) (Nat.le_of_ble_eq_true rfl) ?_
        refine x_cmple (pc := 37) 64 dX4_couldBe_37 (by decide) (fun c37 => ?_) (fun c37 => ?_)
        · refine x_iconst (pc := 64) (1) dX4_couldBe_64 (by decide) ?_
          refine x_goto (pc := 65) 69 dX4_couldBe_65 (by decide) ?_
          refine x_istore (pc := 69) dX4_couldBe_69 (by decide) ?_
          have ea : apR c r w h (A.2.2.2.2 k) = true := by simp only [apR, decide_eq_false c24, decide_eq_false c37, Bool.true_or, Bool.or_true, Bool.false_or, Bool.or_false, Bool.not_true, Bool.not_false, Bool.and_true, Bool.true_and, Bool.and_false, Bool.false_and, Bool.or_self, Bool.and_self]
          exact x_back (t2 hkn true ea.symm) ⟨rfl, rfl, rfl, rfl, rfl, rfl, rfl, rfl, trivial⟩
        · refine x_iload_n (pc := 40) dX4_couldBe_40 rfl ?_
          refine x_aload_n (pc := 41) dX4_couldBe_41 rfl ?_
          refine x_iload (pc := 42) dX4_couldBe_42 rfl ?_
          refine t_Vi (pc := 44) (c_X4_lastRow hM (by first | assumption | omega)) qV_X4_lastRow mL_X4_56 dX4_couldBe_44 rfl cell_model (by decide) rfl rfl rfl ⟨by decide, by decide⟩ (Nat.le_of_ble_eq_true rfl) (Nat.le_of_ble_eq_true rfl) (Nat.le_of_ble_eq_true rfl) ?_
          refine x_cmpgt (pc := 47) 64 dX4_couldBe_47 (by decide) (fun c47 => ?_) (fun c47 => ?_)
          · refine x_iconst (pc := 64) (1) dX4_couldBe_64 (by decide) ?_
            refine x_goto (pc := 65) 69 dX4_couldBe_65 (by decide) ?_
            refine x_istore (pc := 69) dX4_couldBe_69 (by decide) ?_
            have ea : apR c r w h (A.2.2.2.2 k) = true := by simp only [apR, decide_eq_false c24, decide_eq_true c37, decide_eq_true c47, Bool.true_or, Bool.or_true, Bool.false_or, Bool.or_false, Bool.not_true, Bool.not_false, Bool.and_true, Bool.true_and, Bool.and_false, Bool.false_and, Bool.or_self, Bool.and_self]
            exact x_back (t2 hkn true ea.symm) ⟨rfl, rfl, rfl, rfl, rfl, rfl, rfl, rfl, trivial⟩
          · refine x_iload_n (pc := 50) dX4_couldBe_50 rfl ?_
            refine x_iload (pc := 51) dX4_couldBe_51 rfl ?_
            refine x_iadd (pc := 53) dX4_couldBe_53 ?_
            refine x_aload_n (pc := 54) dX4_couldBe_54 rfl ?_
            refine x_iload (pc := 55) dX4_couldBe_55 rfl ?_
            refine x_iconst (pc := 57) (1) dX4_couldBe_57 (by decide) ?_
            refine t_Vi (pc := 58) (c_X4_of hM (by first | assumption | omega) 1 (by decide)) qV_X4_of mL_X4_46 dX4_couldBe_58 rfl cell_model (by decide) rfl rfl rfl ⟨by decide, by decide⟩ (Nat.le_of_ble_eq_true rfl) (Nat.le_of_ble_eq_true rfl) (Nat.le_of_ble_eq_true rfl) ?_
            refine x_cmpgt (pc := 61) 68 dX4_couldBe_61 (by decide) (fun c61 => ?_) (fun c61 => ?_)
            · refine x_iconst (pc := 68) (0) dX4_couldBe_68 (by decide) ?_
              refine x_istore (pc := 69) dX4_couldBe_69 (by decide) ?_
              have ea : apR c r w h (A.2.2.2.2 k) = false := by simp only [apR, decide_eq_false c24, decide_eq_true c37, decide_eq_false c47, decide_eq_true c61, Bool.true_or, Bool.or_true, Bool.false_or, Bool.or_false, Bool.not_true, Bool.not_false, Bool.and_true, Bool.true_and, Bool.and_false, Bool.false_and, Bool.or_self, Bool.and_self]
              exact x_back (t2 hkn false ea.symm) ⟨rfl, rfl, rfl, rfl, rfl, rfl, rfl, rfl, trivial⟩
            · refine x_iconst (pc := 64) (1) dX4_couldBe_64 (by decide) ?_
              refine x_goto (pc := 65) 69 dX4_couldBe_65 (by decide) ?_
              refine x_istore (pc := 69) dX4_couldBe_69 (by decide) ?_
              have ea : apR c r w h (A.2.2.2.2 k) = true := by simp only [apR, decide_eq_false c24, decide_eq_true c37, decide_eq_false c47, decide_eq_false c61, Bool.true_or, Bool.or_true, Bool.false_or, Bool.or_false, Bool.not_true, Bool.not_false, Bool.and_true, Bool.true_and, Bool.and_false, Bool.false_and, Bool.or_self, Bool.and_self]
              exact x_back (t2 hkn true ea.symm) ⟨rfl, rfl, rfl, rfl, rfl, rfl, rfl, rfl, trivial⟩
  refine x_iconst (pc := 0) (1) dX4_couldBe_0 (by decide) ?_
  refine x_istore (pc := 1) dX4_couldBe_1 (by decide) ?_
  refine x_iconst (pc := 3) (0) dX4_couldBe_3 (by decide) ?_
  refine x_istore (pc := 4) dX4_couldBe_4 (by decide) ?_
  exact x_back (lp 0 (by omega)) ⟨rfl, rfl, rfl, rfl, rfl, rfl, rfl, trivial⟩
end MCUT
