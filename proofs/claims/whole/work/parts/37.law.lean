/-! the law (rows laid by wip/whole/p37.py; the words of the claim begin with those of the kit's skeleton) -/
set_option maxRecDepth 20000 in
theorem tA_1 : Cond.arrayOver (.object "BeamCuts$Shape") ∈ lw_tbl := List.mem_of_getElem? (i := 90) rfl
set_option maxRecDepth 20000 in
theorem tA_2 : Cond.arrayOver (.object "BeamCuts$Sheet") ∈ lw_tbl := List.mem_of_getElem? (i := 167) rfl
set_option maxRecDepth 20000 in
theorem tN_2 : Cond.methodLinkNest RX2 51 yX3_isIn RX3 ∈ lw_tbl := List.mem_of_getElem? (i := 246) rfl
set_option maxRecDepth 20000 in
theorem tZ_1 : Cond.laysStatic RX2 "LEAST_SETTINGS" "[I" ∈ lw_tbl := List.mem_of_getElem? (i := 304) rfl
set_option maxRecDepth 20000 in
theorem tZ_2 : Cond.laysStatic RX2 "GREATEST_SETTINGS" "[I" ∈ lw_tbl := List.mem_of_getElem? (i := 306) rfl
set_option maxRecDepth 20000 in
theorem tN_0 : Cond.methodLinkNest RX0 59 yX3_isIn RX3 ∈ lw_tbl := List.mem_of_getElem? (i := 437) rfl
def R_law : String := "BeamCutsLaw"
def lw_P (b : Addr) (xs : List Int32) (args : Array Value) (s : State) : Prop := args = #[.ref b] ∧ s.IntsAt b xs ∧ xs.length ≤ 2560 ∧ (Jvm.Cond.and given_1 narrow_1).before args s = true
def lw_Q (_ : Array Value) (s : State) (o : Outcome) (t : State) : Prop := o = .returned (some (.int 1)) ∧ Framed s o t [] 600000 7302250
def lw_Z (below : List Frame) (a : Array Value) (s : State) : State → Prop := fun t => ∃ o, t.status = .running ∧ Ended t below o ∧ lw_Q a s o t
/-- the law's own end, with 1 on the stack, nothing written that was there before, its room as the claim has it -/
theorem lw_ret {p : Program} {l : Launch} {e : Env} {s : State} {m : MethodId} {args : Array Value} {below : List Frame} {meth : Method} {c : Code} (hx : p.tables.exec = Jvm.exec) (hb : c.code = code) (hr : meth.sig.returnType = ret) (hlocks : meth.locks = false) {pc : Nat} {H : Heap} {ls : Array Slot} (hdg : decode code pc = .ok (.ireturn, 1)) : W p l e room_1 s m args below meth c H [] 600000 7302250 (lw_Z below args s) (F0 m pc ls [.int 1]) := by
  intro T hT X
  obtain ⟨fs, hret, hrun, hended, hW, hframe⟩ := X.leave (v := some (.int 1)) (hlocks := hlocks) (fun h => by rw [hr] at h; cases h)
  have hmeth' : T.vm.method? m = some meth := X.method'
  refine ⟨T.setFrames fs, ?_, .returned (some (.int 1)), hrun, hended, rfl, ⟨_, rfl⟩, hW, hframe⟩
  jvm_step X.here [X.here.top, hx, hb, hdg, hmeth', hr, ret, narrow_b1]
  (try refine ⟨rfl, ?_⟩); (try refine ⟨rfl, ?_⟩)
  first | (intro acts; rw [hret _ acts rfl rfl rfl]) | rw [hret _ _ rfl rfl rfl]
  exact Steps.refl _
/-- what holds at the law's entry: the machine, the code, the tables' words (any of lw_tbl by 'hts w (by decide +kernel)'), the script of L ints xs at the cell b, what the Statement gives of the start (any of its parts by flat_of_before) -/
def lw_At (p : Program) (s : State) (m : MethodId) (meth : Method) (c : Code) (b L : Nat) (xs : Nat → Int32) : Prop :=
  p.tables.exec = Jvm.exec ∧ c.code = code ∧ meth.sig.returnType = ret ∧ c.maxLocals = 4 ∧ s.vm.findClass R_law = some m.cls ∧ (∀ w ∈ lw_tbl, w.before #[Value.ref b] s = true) ∧ va_X b L xs s s.heap ∧ b < s.heap.size ∧ meth.locks = false ∧ (Jvm.Cond.and given_1 narrow_1).before #[Value.ref b] s = true
abbrev YL (nm : String) : YX := (code, 4, RL, room_1, ret, nm)
def lE (G : GX) (b L : Nat) (xs : Nat → Int32) (s : State) : Prop := va_X b L xs s s.heap ∧ b < s.heap.size ∧ gB G = s.heap.size
def lawZ : ZX := fun below args s => lw_Z below args s
section LROWS
variable {G : GX} {y : YX} {Z : ZX} {pc : Nat} {l : List (Nat × Value)} {stk : List Value} {n : Nat} {cs : Nat → va_E} {ck sk : Nat} {b L : Nat} {xs : Nat → Int32}
theorem x_slen (hd : decode y.1 pc = .ok (.arraylength, 1)) (kk : XJ G y (lE G b L xs) Z (pc + 1) l (.int (nI L) :: stk) n cs ck sk) : XJ G y (lE G b L xs) Z pc l (.ref b :: stk) n cs ck sk :=
  fun p e s m args below meth c H locs ls F e1 S P L' => va_slen F.1 F.2.1 e1.1 e1.2.1 (show ¬ gB G ≤ b by rw [e1.2.2]; exact Nat.not_le.mpr e1.2.1) S hd (kk p e s m args below meth c H locs ls F e1 S P L')
theorem x_sld {i : Int32} (k : Nat) (hi : i = nI k) (hk : k < L) (hL : L < 2 ^ 31) (hd : decode y.1 pc = .ok (.iaload, 1)) (kk : XJ G y (lE G b L xs) Z (pc + 1) l (.int (xs k) :: stk) n cs ck sk) : XJ G y (lE G b L xs) Z pc l (.int i :: .ref b :: stk) n cs ck sk :=
  fun p e s m args below meth c H locs ls F e1 S P L' => va_sld F.1 F.2.1 e1.1 e1.2.1 (show ¬ gB G ≤ b by rw [e1.2.2]; exact Nat.not_le.mpr e1.2.1) S (in_of hi hk hL) hd (by rw [cl_of hi hk hL]; exact kk p e s m args below meth c H locs ls F e1 S P L')
theorem x_lawret {nm : String} (hck : ck ≤ 600000) (hsk : sk ≤ 7302250) (hd : decode code pc = .ok (.ireturn, 1)) : XJ G (YL nm) (lE G b L xs) lawZ pc l [.int 1] n cs ck sk := by
  intro p e s m args below meth c H locs ls F e1 S P L'
  refine va_forget (fun q hq => ?_) (W.widen hck hsk ?_)
  · have : gB G ≤ q.base := S.2.2 q hq
    rw [e1.2.2] at this
    exact this
  · exact lw_ret F.1 F.2.1 F.2.2.2.2.2.2.1 F.2.2.2.2.2.1 hd
end LROWS
theorem lt5 {L i : Nat} (hL : L ≤ 2560) (hi : i ≤ 2565) : nI L - 5 < nI i ↔ L < i + 5 := by
  have e1 : (nI L).toInt = L := nI_toInt (by omega)
  have e2 : (nI i).toInt = i := nI_toInt (by omega)
  have e3 : (5 : Int32).toInt = 5 := rfl
  rw [ti_lt, ti_sub (by rw [e1, e3]; omega) (by rw [e1, e3]; omega), e1, e2, e3]
  omega
theorem inc5 (i : Nat) : nI i + Int32.ofInt 5 = nI (i + 5) := nI_add i 5
section LAW
variable {G : GX} {b L : Nat} {xs : Nat → Int32}
set_option maxHeartbeats 4000000 in
set_option maxRecDepth 100000 in
theorem law_loop {nm : String} (hL : L ≤ 2560) : ∀ f i (S : Nat → Sh) (B : Bc) (M : Md) (w : Wt), L ≤ i + 5 * f → i ≤ 2565 → GC S B w → GM M w → VW w → XJ G (YL nm) (lE G b L xs) lawZ 18 [(0, .ref b), (1, .ref (gB G + 0)), (2, .ref (gB G + 247)), (3, .int (nI i))] [] 255 (cellOf G S B M) 255 3712 := by
  intro f
  induction f with
  | zero =>
    intro i S B M w hLi hi hG hM hV
    refine x_iload_n (pc := 18) dL_law_18 rfl ?_
    refine x_aload_n (pc := 19) dL_law_19 rfl ?_
    refine x_slen (pc := 20) dL_law_20 ?_
    refine x_iconst (pc := 21) (5) dL_law_21 (by decide) ?_
    refine x_isub (pc := 22) dL_law_22 ?_
    refine x_cmpgt (pc := 23) 630 dL_law_23 (by decide) (fun c23 => ?_) (fun c23 => absurd ((lt5 hL hi).mpr (by omega)) c23)
    refine x_iconst (pc := 630) (1) dL_law_630 (by decide) ?_
    exact x_lawret (by decide) (by decide) dL_law_631
  | succ f ih =>
    intro i S B M w hLi hi hG hM hV
    obtain ⟨N, s, sd, ah, sn, be, tx, od⟩ := M
    refine x_iload_n (pc := 18) dL_law_18 rfl ?_
    refine x_aload_n (pc := 19) dL_law_19 rfl ?_
    refine x_slen (pc := 20) dL_law_20 ?_
    refine x_iconst (pc := 21) (5) dL_law_21 (by decide) ?_
    refine x_isub (pc := 22) dL_law_22 ?_
    refine x_cmpgt (pc := 23) 630 dL_law_23 (by decide) (fun c23 => ?_) (fun c23 => ?_)
    · refine x_iconst (pc := 630) (1) dL_law_630 (by decide) ?_
      exact x_lawret (by decide) (by decide) dL_law_631
    · have hi5 : i + 5 ≤ L := by
        have := mt (lt5 hL hi).mpr c23
        omega
      refine x_aload_n (pc := 26) dL_law_26 rfl ?_
      refine x_iload_n (pc := 27) dL_law_27 rfl ?_
      refine x_sld (pc := 28) i rfl (by omega) (by omega) dL_law_28 ?_
      refine x_bipush (pc := 29) (31) dL_law_29 (by decide) ?_
      refine x_iand (pc := 31) dL_law_31 ?_
      generalize xs i &&& 31 = v
      by_cases hw : betw v 0 (nI 21) = true
      · obtain ⟨q, hq, rfl, hcq⟩ := betw_some (n := 21) rfl (by decide) hw
        rcases (show q = 0 ∨ q = 1 ∨ q = 2 ∨ q = 3 ∨ q = 4 ∨ q = 5 ∨ q = 6 ∨ q = 7 ∨ q = 8 ∨ q = 9 ∨ q = 10 ∨ q = 11 ∨ q = 12 ∨ q = 13 ∨ q = 14 ∨ q = 15 ∨ q = 16 ∨ q = 17 ∨ q = 18 ∨ q = 19 ∨ q = 20 ∨ q = 21 by omega) with rfl | rfl | rfl | rfl | rfl | rfl | rfl | rfl | rfl | rfl | rfl | rfl | rfl | rfl | rfl | rfl | rfl | rfl | rfl | rfl | rfl | rfl
        · refine x_tableIn (pc := 32) 136 dL_law_32 (by decide) (by decide) rfl (by decide) ?_
          refine x_aload_n (pc := 136) dL_law_136 rfl ?_
          refine x_aload_n (pc := 137) dL_law_137 rfl ?_
          refine x_iload_n (pc := 138) dL_law_138 rfl ?_
          refine x_iconst (pc := 139) (1) dL_law_139 (by decide) ?_
          refine x_iadd (pc := 140) dL_law_140 ?_
          refine x_sld (pc := 141) (i + 1) (nI_add i 1) (by omega) (by omega) dL_law_141 ?_
          refine x_aload_n (pc := 142) dL_law_142 rfl ?_
          refine x_iload_n (pc := 143) dL_law_143 rfl ?_
          refine x_iconst (pc := 144) (2) dL_law_144 (by decide) ?_
          refine x_iadd (pc := 145) dL_law_145 ?_
          refine x_sld (pc := 146) (i + 2) (nI_add i 2) (by omega) (by omega) dL_law_146 ?_
          refine x_aload_n (pc := 147) dL_law_147 rfl ?_
          refine x_iload_n (pc := 148) dL_law_148 rfl ?_
          refine x_iconst (pc := 149) (3) dL_law_149 (by decide) ?_
          refine x_iadd (pc := 150) dL_law_150 ?_
          refine x_sld (pc := 151) (i + 3) (nI_add i 3) (by omega) (by omega) dL_law_151 ?_
          refine x_aload_n (pc := 152) dL_law_152 rfl ?_
          refine x_iload_n (pc := 153) dL_law_153 rfl ?_
          refine x_iconst (pc := 154) (4) dL_law_154 (by decide) ?_
          refine x_iadd (pc := 155) dL_law_155 ?_
          refine x_sld (pc := 156) (i + 4) (nI_add i 4) (by omega) (by omega) dL_law_156 ?_
          refine e_Vi (pc := 157) (c_X3_tell hG _ _ _ _) qV_X3_tell mL_L_13 dL_law_157 rfl cell_bc (by decide) rfl rfl rfl ⟨(Nat.le_of_ble_eq_true rfl), (Nat.le_of_ble_eq_true rfl)⟩ (Nat.le_of_ble_eq_true rfl) (Nat.le_of_ble_eq_true rfl) (Nat.le_of_ble_eq_true rfl) ?_
          intro a hG2
          obtain ⟨S2, B2⟩ := a
          dsimp only at hG2 ⊢
          refine x_aload_n (pc := 160) dL_law_160 rfl ?_
          refine x_aload_n (pc := 161) dL_law_161 rfl ?_
          refine x_iload_n (pc := 162) dL_law_162 rfl ?_
          refine x_iconst (pc := 163) (1) dL_law_163 (by decide) ?_
          refine x_iadd (pc := 164) dL_law_164 ?_
          refine x_sld (pc := 165) (i + 1) (nI_add i 1) (by omega) (by omega) dL_law_165 ?_
          refine x_aload_n (pc := 166) dL_law_166 rfl ?_
          refine x_iload_n (pc := 167) dL_law_167 rfl ?_
          refine x_iconst (pc := 168) (2) dL_law_168 (by decide) ?_
          refine x_iadd (pc := 169) dL_law_169 ?_
          refine x_sld (pc := 170) (i + 2) (nI_add i 2) (by omega) (by omega) dL_law_170 ?_
          refine x_aload_n (pc := 171) dL_law_171 rfl ?_
          refine x_iload_n (pc := 172) dL_law_172 rfl ?_
          refine x_iconst (pc := 173) (3) dL_law_173 (by decide) ?_
          refine x_iadd (pc := 174) dL_law_174 ?_
          refine x_sld (pc := 175) (i + 3) (nI_add i 3) (by omega) (by omega) dL_law_175 ?_
          refine x_aload_n (pc := 176) dL_law_176 rfl ?_
          refine x_iload_n (pc := 177) dL_law_177 rfl ?_
          refine x_iconst (pc := 178) (4) dL_law_178 (by decide) ?_
          refine x_iadd (pc := 179) dL_law_179 ?_
          refine x_sld (pc := 180) (i + 4) (nI_add i 4) (by omega) (by omega) dL_law_180 ?_
          refine e_Vi (pc := 181) (c_X4_tell hM hV _ _ _ _) qV_X4_tell mL_L_17 dL_law_181 rfl cell_model (by decide) rfl rfl rfl ⟨(Nat.le_of_ble_eq_true rfl), (Nat.le_of_ble_eq_true rfl)⟩ (Nat.le_of_ble_eq_true rfl) (Nat.le_of_ble_eq_true rfl) (Nat.le_of_ble_eq_true rfl) ?_
          intro M2 hM2
          refine x_cmpeq (pc := 184) 624 dL_law_184 (by decide) (fun c184 => ?_) (fun c184 => absurd rfl c184)
          refine x_iinc (pc := 624) (nI (i + 5)) dL_law_624 rfl (inc5 i) (Nat.le_of_ble_eq_true rfl) ?_
          refine x_goto (pc := 627) 18 dL_law_627 (by decide) ?_
          exact x_back (ih (i + 5) S2 B2 M2 _ (by omega) (by omega) hG2 hM2 (VW_rec hV (VA_tellX hV.1 _ _ _ _))) ⟨rfl, rfl, rfl, rfl, trivial⟩
        · refine x_tableIn (pc := 32) 189 dL_law_32 (by decide) (by decide) rfl (by decide) ?_
          refine x_aload_n (pc := 189) dL_law_189 rfl ?_
          refine x_aload_n (pc := 190) dL_law_190 rfl ?_
          refine x_iload_n (pc := 191) dL_law_191 rfl ?_
          refine x_iconst (pc := 192) (1) dL_law_192 (by decide) ?_
          refine x_iadd (pc := 193) dL_law_193 ?_
          refine x_sld (pc := 194) (i + 1) (nI_add i 1) (by omega) (by omega) dL_law_194 ?_
          refine x_aload_n (pc := 195) dL_law_195 rfl ?_
          refine x_iload_n (pc := 196) dL_law_196 rfl ?_
          refine x_iconst (pc := 197) (2) dL_law_197 (by decide) ?_
          refine x_iadd (pc := 198) dL_law_198 ?_
          refine x_sld (pc := 199) (i + 2) (nI_add i 2) (by omega) (by omega) dL_law_199 ?_
          refine e_Vi (pc := 200) (c_X3_setLead hG _ _) qV_X3_setLead mL_L_18 dL_law_200 rfl cell_bc (by decide) rfl rfl rfl ⟨(Nat.le_of_ble_eq_true rfl), (Nat.le_of_ble_eq_true rfl)⟩ (Nat.le_of_ble_eq_true rfl) (Nat.le_of_ble_eq_true rfl) (Nat.le_of_ble_eq_true rfl) ?_
          intro a hG2
          obtain ⟨S2, B2⟩ := a
          dsimp only at hG2 ⊢
          refine x_aload_n (pc := 203) dL_law_203 rfl ?_
          refine x_aload_n (pc := 204) dL_law_204 rfl ?_
          refine x_iload_n (pc := 205) dL_law_205 rfl ?_
          refine x_iconst (pc := 206) (1) dL_law_206 (by decide) ?_
          refine x_iadd (pc := 207) dL_law_207 ?_
          refine x_sld (pc := 208) (i + 1) (nI_add i 1) (by omega) (by omega) dL_law_208 ?_
          refine x_aload_n (pc := 209) dL_law_209 rfl ?_
          refine x_iload_n (pc := 210) dL_law_210 rfl ?_
          refine x_iconst (pc := 211) (2) dL_law_211 (by decide) ?_
          refine x_iadd (pc := 212) dL_law_212 ?_
          refine x_sld (pc := 213) (i + 2) (nI_add i 2) (by omega) (by omega) dL_law_213 ?_
          refine e_Vi (pc := 214) (c_X4_setLead hM hV _ _) qV_X4_setLead mL_L_22 dL_law_214 rfl cell_model (by decide) rfl rfl rfl ⟨(Nat.le_of_ble_eq_true rfl), (Nat.le_of_ble_eq_true rfl)⟩ (Nat.le_of_ble_eq_true rfl) (Nat.le_of_ble_eq_true rfl) (Nat.le_of_ble_eq_true rfl) ?_
          intro M2 hM2
          refine x_cmpeq (pc := 217) 624 dL_law_217 (by decide) (fun c217 => ?_) (fun c217 => absurd rfl c217)
          refine x_iinc (pc := 624) (nI (i + 5)) dL_law_624 rfl (inc5 i) (Nat.le_of_ble_eq_true rfl) ?_
          refine x_goto (pc := 627) 18 dL_law_627 (by decide) ?_
          exact x_back (ih (i + 5) S2 B2 M2 _ (by omega) (by omega) hG2 hM2 (VW_rec hV (VA_leadX hV.1 _ _))) ⟨rfl, rfl, rfl, rfl, trivial⟩
        · refine x_tableIn (pc := 32) 222 dL_law_32 (by decide) (by decide) rfl (by decide) ?_
          refine x_aload_n (pc := 222) dL_law_222 rfl ?_
          refine x_aload_n (pc := 223) dL_law_223 rfl ?_
          refine x_iload_n (pc := 224) dL_law_224 rfl ?_
          refine x_iconst (pc := 225) (1) dL_law_225 (by decide) ?_
          refine x_iadd (pc := 226) dL_law_226 ?_
          refine x_sld (pc := 227) (i + 1) (nI_add i 1) (by omega) (by omega) dL_law_227 ?_
          refine x_aload_n (pc := 228) dL_law_228 rfl ?_
          refine x_iload_n (pc := 229) dL_law_229 rfl ?_
          refine x_iconst (pc := 230) (2) dL_law_230 (by decide) ?_
          refine x_iadd (pc := 231) dL_law_231 ?_
          refine x_sld (pc := 232) (i + 2) (nI_add i 2) (by omega) (by omega) dL_law_232 ?_
          refine e_Vi (pc := 233) (c_X3_set hG _ _) qV_X3_set mL_L_23 dL_law_233 rfl cell_bc (by decide) rfl rfl rfl ⟨(Nat.le_of_ble_eq_true rfl), (Nat.le_of_ble_eq_true rfl)⟩ (Nat.le_of_ble_eq_true rfl) (Nat.le_of_ble_eq_true rfl) (Nat.le_of_ble_eq_true rfl) ?_
          intro a hG2
          obtain ⟨S2, B2⟩ := a
          dsimp only at hG2 ⊢
          refine x_aload_n (pc := 236) dL_law_236 rfl ?_
          refine x_aload_n (pc := 237) dL_law_237 rfl ?_
          refine x_iload_n (pc := 238) dL_law_238 rfl ?_
          refine x_iconst (pc := 239) (1) dL_law_239 (by decide) ?_
          refine x_iadd (pc := 240) dL_law_240 ?_
          refine x_sld (pc := 241) (i + 1) (nI_add i 1) (by omega) (by omega) dL_law_241 ?_
          refine x_aload_n (pc := 242) dL_law_242 rfl ?_
          refine x_iload_n (pc := 243) dL_law_243 rfl ?_
          refine x_iconst (pc := 244) (2) dL_law_244 (by decide) ?_
          refine x_iadd (pc := 245) dL_law_245 ?_
          refine x_sld (pc := 246) (i + 2) (nI_add i 2) (by omega) (by omega) dL_law_246 ?_
          refine e_Vi (pc := 247) (c_X4_set hM hV _ _) qV_X4_set mL_L_26 dL_law_247 rfl cell_model (by decide) rfl rfl rfl ⟨(Nat.le_of_ble_eq_true rfl), (Nat.le_of_ble_eq_true rfl)⟩ (Nat.le_of_ble_eq_true rfl) (Nat.le_of_ble_eq_true rfl) (Nat.le_of_ble_eq_true rfl) ?_
          intro M2 hM2
          refine x_cmpeq (pc := 250) 624 dL_law_250 (by decide) (fun c250 => ?_) (fun c250 => absurd rfl c250)
          refine x_iinc (pc := 624) (nI (i + 5)) dL_law_624 rfl (inc5 i) (Nat.le_of_ble_eq_true rfl) ?_
          refine x_goto (pc := 627) 18 dL_law_627 (by decide) ?_
          exact x_back (ih (i + 5) S2 B2 M2 _ (by omega) (by omega) hG2 hM2 (VW_rec hV (VA_setX hV.1 _ _))) ⟨rfl, rfl, rfl, rfl, trivial⟩
        · refine x_tableIn (pc := 32) 255 dL_law_32 (by decide) (by decide) rfl (by decide) ?_
          refine x_aload_n (pc := 255) dL_law_255 rfl ?_
          refine x_aload_n (pc := 256) dL_law_256 rfl ?_
          refine x_iload_n (pc := 257) dL_law_257 rfl ?_
          refine x_iconst (pc := 258) (1) dL_law_258 (by decide) ?_
          refine x_iadd (pc := 259) dL_law_259 ?_
          refine x_sld (pc := 260) (i + 1) (nI_add i 1) (by omega) (by omega) dL_law_260 ?_
          refine e_Vi (pc := 261) (c_X3_cut hG _) qV_X3_cut mL_L_27 dL_law_261 rfl cell_bc (by decide) rfl rfl rfl ⟨(Nat.le_of_ble_eq_true rfl), (Nat.le_of_ble_eq_true rfl)⟩ (Nat.le_of_ble_eq_true rfl) (Nat.le_of_ble_eq_true rfl) (Nat.le_of_ble_eq_true rfl) ?_
          intro a hG2
          obtain ⟨S2, B2⟩ := a
          dsimp only at hG2 ⊢
          refine x_aload_n (pc := 264) dL_law_264 rfl ?_
          refine x_aload_n (pc := 265) dL_law_265 rfl ?_
          refine x_iload_n (pc := 266) dL_law_266 rfl ?_
          refine x_iconst (pc := 267) (1) dL_law_267 (by decide) ?_
          refine x_iadd (pc := 268) dL_law_268 ?_
          refine x_sld (pc := 269) (i + 1) (nI_add i 1) (by omega) (by omega) dL_law_269 ?_
          refine e_Vi (pc := 270) (c_X4_cut hM hV _) qV_X4_cut mL_L_31 dL_law_270 rfl cell_model (by decide) rfl rfl rfl ⟨(Nat.le_of_ble_eq_true rfl), (Nat.le_of_ble_eq_true rfl)⟩ (Nat.le_of_ble_eq_true rfl) (Nat.le_of_ble_eq_true rfl) (Nat.le_of_ble_eq_true rfl) ?_
          intro M2 hM2
          refine x_cmpeq (pc := 273) 624 dL_law_273 (by decide) (fun c273 => ?_) (fun c273 => absurd rfl c273)
          refine x_iinc (pc := 624) (nI (i + 5)) dL_law_624 rfl (inc5 i) (Nat.le_of_ble_eq_true rfl) ?_
          refine x_goto (pc := 627) 18 dL_law_627 (by decide) ?_
          exact x_back (ih (i + 5) S2 B2 M2 _ (by omega) (by omega) hG2 hM2 (VW_rec hV (VA_cutX hV.1 _))) ⟨rfl, rfl, rfl, rfl, trivial⟩
        · refine x_tableIn (pc := 32) 278 dL_law_32 (by decide) (by decide) rfl (by decide) ?_
          refine x_aload_n (pc := 278) dL_law_278 rfl ?_
          refine x_aload_n (pc := 279) dL_law_279 rfl ?_
          refine x_iload_n (pc := 280) dL_law_280 rfl ?_
          refine x_iconst (pc := 281) (1) dL_law_281 (by decide) ?_
          refine x_iadd (pc := 282) dL_law_282 ?_
          refine x_sld (pc := 283) (i + 1) (nI_add i 1) (by omega) (by omega) dL_law_283 ?_
          refine e_Vi (pc := 284) (c_X3_pause hG _) qV_X3_pause mL_L_32 dL_law_284 rfl cell_bc (by decide) rfl rfl rfl ⟨(Nat.le_of_ble_eq_true rfl), (Nat.le_of_ble_eq_true rfl)⟩ (Nat.le_of_ble_eq_true rfl) (Nat.le_of_ble_eq_true rfl) (Nat.le_of_ble_eq_true rfl) ?_
          intro a hG2
          obtain ⟨S2, B2⟩ := a
          dsimp only at hG2 ⊢
          refine x_aload_n (pc := 287) dL_law_287 rfl ?_
          refine x_aload_n (pc := 288) dL_law_288 rfl ?_
          refine x_iload_n (pc := 289) dL_law_289 rfl ?_
          refine x_iconst (pc := 290) (1) dL_law_290 (by decide) ?_
          refine x_iadd (pc := 291) dL_law_291 ?_
          refine x_sld (pc := 292) (i + 1) (nI_add i 1) (by omega) (by omega) dL_law_292 ?_
          refine e_Vi (pc := 293) (c_X4_pause hM hV _) qV_X4_pause mL_L_35 dL_law_293 rfl cell_model (by decide) rfl rfl rfl ⟨(Nat.le_of_ble_eq_true rfl), (Nat.le_of_ble_eq_true rfl)⟩ (Nat.le_of_ble_eq_true rfl) (Nat.le_of_ble_eq_true rfl) (Nat.le_of_ble_eq_true rfl) ?_
          intro M2 hM2
          refine x_cmpeq (pc := 296) 624 dL_law_296 (by decide) (fun c296 => ?_) (fun c296 => absurd rfl c296)
          refine x_iinc (pc := 624) (nI (i + 5)) dL_law_624 rfl (inc5 i) (Nat.le_of_ble_eq_true rfl) ?_
          refine x_goto (pc := 627) 18 dL_law_627 (by decide) ?_
          exact x_back (ih (i + 5) S2 B2 M2 _ (by omega) (by omega) hG2 hM2 (VW_rec hV (VA_waitX hV.1 _))) ⟨rfl, rfl, rfl, rfl, trivial⟩
        · refine x_tableIn (pc := 32) 301 dL_law_32 (by decide) (by decide) rfl (by decide) ?_
          refine x_aload_n (pc := 301) dL_law_301 rfl ?_
          refine e_Vi (pc := 302) (c_X3_clean hG) qV_X3_clean mL_L_36 dL_law_302 rfl cell_bc (by decide) rfl rfl rfl ⟨(Nat.le_of_ble_eq_true rfl), (Nat.le_of_ble_eq_true rfl)⟩ (Nat.le_of_ble_eq_true rfl) (Nat.le_of_ble_eq_true rfl) (Nat.le_of_ble_eq_true rfl) ?_
          intro a hG2
          obtain ⟨S2, B2⟩ := a
          dsimp only at hG2 ⊢
          refine x_aload_n (pc := 305) dL_law_305 rfl ?_
          refine e_Vi (pc := 306) (c_X4_clean hM hV) qV_X4_clean mL_L_40 dL_law_306 rfl cell_model (by decide) rfl rfl rfl ⟨(Nat.le_of_ble_eq_true rfl), (Nat.le_of_ble_eq_true rfl)⟩ (Nat.le_of_ble_eq_true rfl) (Nat.le_of_ble_eq_true rfl) (Nat.le_of_ble_eq_true rfl) ?_
          intro M2 hM2
          refine x_cmpeq (pc := 309) 624 dL_law_309 (by decide) (fun c309 => ?_) (fun c309 => absurd rfl c309)
          refine x_iinc (pc := 624) (nI (i + 5)) dL_law_624 rfl (inc5 i) (Nat.le_of_ble_eq_true rfl) ?_
          refine x_goto (pc := 627) 18 dL_law_627 (by decide) ?_
          exact x_back (ih (i + 5) S2 B2 M2 _ (by omega) (by omega) hG2 hM2 (VW_rec hV (VA_cleanX hV.1))) ⟨rfl, rfl, rfl, rfl, trivial⟩
        · refine x_tableIn (pc := 32) 314 dL_law_32 (by decide) (by decide) rfl (by decide) ?_
          refine x_aload_n (pc := 314) dL_law_314 rfl ?_
          refine x_aload_n (pc := 315) dL_law_315 rfl ?_
          refine x_iload_n (pc := 316) dL_law_316 rfl ?_
          refine x_iconst (pc := 317) (1) dL_law_317 (by decide) ?_
          refine x_iadd (pc := 318) dL_law_318 ?_
          refine x_sld (pc := 319) (i + 1) (nI_add i 1) (by omega) (by omega) dL_law_319 ?_
          refine x_i2c (pc := 320) dL_law_320 ?_
          refine e_Vi (pc := 321) (c_X3_type hG _ (pk_nc _)) qV_X3_type mL_L_41 dL_law_321 rfl cell_bc (by decide) rfl rfl rfl ⟨(Nat.le_of_ble_eq_true rfl), (Nat.le_of_ble_eq_true rfl)⟩ (Nat.le_of_ble_eq_true rfl) (Nat.le_of_ble_eq_true rfl) (Nat.le_of_ble_eq_true rfl) ?_
          intro a hG2
          obtain ⟨S2, B2⟩ := a
          dsimp only at hG2 ⊢
          refine x_aload_n (pc := 324) dL_law_324 rfl ?_
          refine x_aload_n (pc := 325) dL_law_325 rfl ?_
          refine x_iload_n (pc := 326) dL_law_326 rfl ?_
          refine x_iconst (pc := 327) (1) dL_law_327 (by decide) ?_
          refine x_iadd (pc := 328) dL_law_328 ?_
          refine x_sld (pc := 329) (i + 1) (nI_add i 1) (by omega) (by omega) dL_law_329 ?_
          refine x_i2c (pc := 330) dL_law_330 ?_
          refine e_Vi (pc := 331) (c_X4_type hM _) qV_X4_type mL_L_45 dL_law_331 rfl cell_model (by decide) rfl rfl rfl ⟨(Nat.le_of_ble_eq_true rfl), (Nat.le_of_ble_eq_true rfl)⟩ (Nat.le_of_ble_eq_true rfl) (Nat.le_of_ble_eq_true rfl) (Nat.le_of_ble_eq_true rfl) ?_
          intro M2 hM2
          refine x_cmpeq (pc := 334) 624 dL_law_334 (by decide) (fun c334 => ?_) (fun c334 => absurd rfl c334)
          refine x_iinc (pc := 624) (nI (i + 5)) dL_law_624 rfl (inc5 i) (Nat.le_of_ble_eq_true rfl) ?_
          refine x_goto (pc := 627) 18 dL_law_627 (by decide) ?_
          exact x_back (ih (i + 5) S2 B2 M2 _ (by omega) (by omega) hG2 hM2 (VW_typ hV _)) ⟨rfl, rfl, rfl, rfl, trivial⟩
        · refine x_tableIn (pc := 32) 339 dL_law_32 (by decide) (by decide) rfl (by decide) ?_
          refine x_aload_n (pc := 339) dL_law_339 rfl ?_
          refine e_Vi (pc := 340) (c_X3_clearText hG) qV_X3_clearText mL_L_46 dL_law_340 rfl cell_bc (by decide) rfl rfl rfl ⟨(Nat.le_of_ble_eq_true rfl), (Nat.le_of_ble_eq_true rfl)⟩ (Nat.le_of_ble_eq_true rfl) (Nat.le_of_ble_eq_true rfl) (Nat.le_of_ble_eq_true rfl) ?_
          intro a hG2
          obtain ⟨S2, B2⟩ := a
          dsimp only at hG2 ⊢
          refine x_aload_n (pc := 343) dL_law_343 rfl ?_
          refine e_Vi (pc := 344) (c_X4_clearText hM) qV_X4_clearText mL_L_49 dL_law_344 rfl cell_model (by decide) rfl rfl rfl ⟨(Nat.le_of_ble_eq_true rfl), (Nat.le_of_ble_eq_true rfl)⟩ (Nat.le_of_ble_eq_true rfl) (Nat.le_of_ble_eq_true rfl) (Nat.le_of_ble_eq_true rfl) ?_
          intro M2 hM2
          refine x_cmpeq (pc := 347) 624 dL_law_347 (by decide) (fun c347 => ?_) (fun c347 => absurd rfl c347)
          refine x_iinc (pc := 624) (nI (i + 5)) dL_law_624 rfl (inc5 i) (Nat.le_of_ble_eq_true rfl) ?_
          refine x_goto (pc := 627) 18 dL_law_627 (by decide) ?_
          exact x_back (ih (i + 5) S2 B2 M2 _ (by omega) (by omega) hG2 hM2 (VW_clr hV)) ⟨rfl, rfl, rfl, rfl, trivial⟩
        · refine x_tableIn (pc := 32) 352 dL_law_32 (by decide) (by decide) rfl (by decide) ?_
          refine x_aload_n (pc := 352) dL_law_352 rfl ?_
          refine e_Vi (pc := 353) (c_X3_perform hG) qV_X3_perform mL_L_50 dL_law_353 rfl cell_bc (by decide) rfl rfl rfl ⟨(Nat.le_of_ble_eq_true rfl), (Nat.le_of_ble_eq_true rfl)⟩ (Nat.le_of_ble_eq_true rfl) (Nat.le_of_ble_eq_true rfl) (Nat.le_of_ble_eq_true rfl) ?_
          intro a hG2
          obtain ⟨S2, B2⟩ := a
          dsimp only at hG2 ⊢
          refine x_aload_n (pc := 356) dL_law_356 rfl ?_
          refine e_Vi (pc := 357) (c_X4_perform hM hV) qV_X4_perform mL_L_53 dL_law_357 rfl cell_model (by decide) rfl rfl rfl ⟨(Nat.le_of_ble_eq_true rfl), (Nat.le_of_ble_eq_true rfl)⟩ (Nat.le_of_ble_eq_true rfl) (Nat.le_of_ble_eq_true rfl) (Nat.le_of_ble_eq_true rfl) ?_
          intro M2 hM2
          refine x_cmpeq (pc := 360) 624 dL_law_360 (by decide) (fun c360 => ?_) (fun c360 => absurd rfl c360)
          refine x_iinc (pc := 624) (nI (i + 5)) dL_law_624 rfl (inc5 i) (Nat.le_of_ble_eq_true rfl) ?_
          refine x_goto (pc := 627) 18 dL_law_627 (by decide) ?_
          exact x_back (ih (i + 5) S2 B2 M2 _ (by omega) (by omega) hG2 hM2 (VW_per hV)) ⟨rfl, rfl, rfl, rfl, trivial⟩
        · refine x_tableIn (pc := 32) 365 dL_law_32 (by decide) (by decide) rfl (by decide) ?_
          refine x_aload_n (pc := 365) dL_law_365 rfl ?_
          refine x_aload_n (pc := 366) dL_law_366 rfl ?_
          refine x_iload_n (pc := 367) dL_law_367 rfl ?_
          refine x_iconst (pc := 368) (1) dL_law_368 (by decide) ?_
          refine x_iadd (pc := 369) dL_law_369 ?_
          refine x_sld (pc := 370) (i + 1) (nI_add i 1) (by omega) (by omega) dL_law_370 ?_
          refine t_Vi (pc := 371) (c_X3_stopped hG _) qV_X3_stopped mL_L_54 dL_law_371 rfl cell_bc (by decide) rfl rfl rfl ⟨(Nat.le_of_ble_eq_true rfl), (Nat.le_of_ble_eq_true rfl)⟩ (Nat.le_of_ble_eq_true rfl) (Nat.le_of_ble_eq_true rfl) (Nat.le_of_ble_eq_true rfl) ?_
          refine x_aload_n (pc := 374) dL_law_374 rfl ?_
          refine x_aload_n (pc := 375) dL_law_375 rfl ?_
          refine x_iload_n (pc := 376) dL_law_376 rfl ?_
          refine x_iconst (pc := 377) (1) dL_law_377 (by decide) ?_
          refine x_iadd (pc := 378) dL_law_378 ?_
          refine x_sld (pc := 379) (i + 1) (nI_add i 1) (by omega) (by omega) dL_law_379 ?_
          refine t_Vi (pc := 380) (c_X4_stopped hM _) qV_X4_stopped mL_L_57 dL_law_380 rfl cell_model (by decide) rfl rfl rfl ⟨(Nat.le_of_ble_eq_true rfl), (Nat.le_of_ble_eq_true rfl)⟩ (Nat.le_of_ble_eq_true rfl) (Nat.le_of_ble_eq_true rfl) (Nat.le_of_ble_eq_true rfl) ?_
          refine x_cmpeq (pc := 383) 624 dL_law_383 (by decide) (fun c383 => ?_) (fun c383 => absurd rfl c383)
          refine x_iinc (pc := 624) (nI (i + 5)) dL_law_624 rfl (inc5 i) (Nat.le_of_ble_eq_true rfl) ?_
          refine x_goto (pc := 627) 18 dL_law_627 (by decide) ?_
          exact x_back (ih (i + 5) S B _ _ (by omega) (by omega) hG hM hV) ⟨rfl, rfl, rfl, rfl, trivial⟩
        · refine x_tableIn (pc := 32) 388 dL_law_32 (by decide) (by decide) rfl (by decide) ?_
          refine x_aload_n (pc := 388) dL_law_388 rfl ?_
          refine e_Vi (pc := 389) (c_X3_undo hG) qV_X3_undo mL_L_58 dL_law_389 rfl cell_bc (by decide) rfl rfl rfl ⟨(Nat.le_of_ble_eq_true rfl), (Nat.le_of_ble_eq_true rfl)⟩ (Nat.le_of_ble_eq_true rfl) (Nat.le_of_ble_eq_true rfl) (Nat.le_of_ble_eq_true rfl) ?_
          intro a hG2
          obtain ⟨S2, B2⟩ := a
          dsimp only at hG2 ⊢
          refine x_aload_n (pc := 392) dL_law_392 rfl ?_
          refine e_Vi (pc := 393) (c_X4_undo hM) qV_X4_undo mL_L_61 dL_law_393 rfl cell_model (by decide) rfl rfl rfl ⟨(Nat.le_of_ble_eq_true rfl), (Nat.le_of_ble_eq_true rfl)⟩ (Nat.le_of_ble_eq_true rfl) (Nat.le_of_ble_eq_true rfl) (Nat.le_of_ble_eq_true rfl) ?_
          intro M2 hM2
          refine x_cmpeq (pc := 396) 624 dL_law_396 (by decide) (fun c396 => ?_) (fun c396 => absurd rfl c396)
          refine x_iinc (pc := 624) (nI (i + 5)) dL_law_624 rfl (inc5 i) (Nat.le_of_ble_eq_true rfl) ?_
          refine x_goto (pc := 627) 18 dL_law_627 (by decide) ?_
          exact x_back (ih (i + 5) S2 B2 M2 _ (by omega) (by omega) hG2 hM2 (VW_und hV)) ⟨rfl, rfl, rfl, rfl, trivial⟩
        · refine x_tableIn (pc := 32) 401 dL_law_32 (by decide) (by decide) rfl (by decide) ?_
          refine x_aload_n (pc := 401) dL_law_401 rfl ?_
          refine e_Vi (pc := 402) (c_X3_keep hG) qV_X3_keep mL_L_62 dL_law_402 rfl cell_bc (by decide) rfl rfl rfl ⟨(Nat.le_of_ble_eq_true rfl), (Nat.le_of_ble_eq_true rfl)⟩ (Nat.le_of_ble_eq_true rfl) (Nat.le_of_ble_eq_true rfl) (Nat.le_of_ble_eq_true rfl) ?_
          intro a hG2
          obtain ⟨S2, B2⟩ := a
          dsimp only at hG2 ⊢
          refine x_aload_n (pc := 405) dL_law_405 rfl ?_
          refine e_Vi (pc := 406) (c_X4_keep hM) qV_X4_keep mL_L_65 dL_law_406 rfl cell_model (by decide) rfl rfl rfl ⟨(Nat.le_of_ble_eq_true rfl), (Nat.le_of_ble_eq_true rfl)⟩ (Nat.le_of_ble_eq_true rfl) (Nat.le_of_ble_eq_true rfl) (Nat.le_of_ble_eq_true rfl) ?_
          intro M2 hM2
          refine x_cmpeq (pc := 409) 624 dL_law_409 (by decide) (fun c409 => ?_) (fun c409 => absurd rfl c409)
          refine x_iinc (pc := 624) (nI (i + 5)) dL_law_624 rfl (inc5 i) (Nat.le_of_ble_eq_true rfl) ?_
          refine x_goto (pc := 627) 18 dL_law_627 (by decide) ?_
          exact x_back (ih (i + 5) S2 B2 M2 _ (by omega) (by omega) hG2 hM2 (VW_keep hV)) ⟨rfl, rfl, rfl, rfl, trivial⟩
        · refine x_tableIn (pc := 32) 414 dL_law_32 (by decide) (by decide) rfl (by decide) ?_
          refine x_aload_n (pc := 414) dL_law_414 rfl ?_
          refine e_Vi (pc := 415) (c_X3_restore hG) qV_X3_restore mL_L_66 dL_law_415 rfl cell_bc (by decide) rfl rfl rfl ⟨(Nat.le_of_ble_eq_true rfl), (Nat.le_of_ble_eq_true rfl)⟩ (Nat.le_of_ble_eq_true rfl) (Nat.le_of_ble_eq_true rfl) (Nat.le_of_ble_eq_true rfl) ?_
          intro a hG2
          obtain ⟨S2, B2⟩ := a
          dsimp only at hG2 ⊢
          refine x_aload_n (pc := 418) dL_law_418 rfl ?_
          refine e_Vi (pc := 419) (c_X4_restore hM) qV_X4_restore mL_L_69 dL_law_419 rfl cell_model (by decide) rfl rfl rfl ⟨(Nat.le_of_ble_eq_true rfl), (Nat.le_of_ble_eq_true rfl)⟩ (Nat.le_of_ble_eq_true rfl) (Nat.le_of_ble_eq_true rfl) (Nat.le_of_ble_eq_true rfl) ?_
          intro M2 hM2
          refine x_cmpeq (pc := 422) 624 dL_law_422 (by decide) (fun c422 => ?_) (fun c422 => absurd rfl c422)
          refine x_iinc (pc := 624) (nI (i + 5)) dL_law_624 rfl (inc5 i) (Nat.le_of_ble_eq_true rfl) ?_
          refine x_goto (pc := 627) 18 dL_law_627 (by decide) ?_
          exact x_back (ih (i + 5) S2 B2 M2 _ (by omega) (by omega) hG2 hM2 (VW_res hV)) ⟨rfl, rfl, rfl, rfl, trivial⟩
        · refine x_tableIn (pc := 32) 427 dL_law_32 (by decide) (by decide) rfl (by decide) ?_
          refine x_aload_n (pc := 427) dL_law_427 rfl ?_
          refine x_aload_n (pc := 428) dL_law_428 rfl ?_
          refine x_iload_n (pc := 429) dL_law_429 rfl ?_
          refine x_iconst (pc := 430) (1) dL_law_430 (by decide) ?_
          refine x_iadd (pc := 431) dL_law_431 ?_
          refine x_sld (pc := 432) (i + 1) (nI_add i 1) (by omega) (by omega) dL_law_432 ?_
          refine x_aload_n (pc := 433) dL_law_433 rfl ?_
          refine x_iload_n (pc := 434) dL_law_434 rfl ?_
          refine x_iconst (pc := 435) (2) dL_law_435 (by decide) ?_
          refine x_iadd (pc := 436) dL_law_436 ?_
          refine x_sld (pc := 437) (i + 2) (nI_add i 2) (by omega) (by omega) dL_law_437 ?_
          refine t_Vi (pc := 438) (c_X3_shape hG _ _) qV_X3_shape mL_L_70 dL_law_438 rfl cell_bc (by decide) rfl rfl rfl ⟨(Nat.le_of_ble_eq_true rfl), (Nat.le_of_ble_eq_true rfl)⟩ (Nat.le_of_ble_eq_true rfl) (Nat.le_of_ble_eq_true rfl) (Nat.le_of_ble_eq_true rfl) ?_
          refine x_aload_n (pc := 441) dL_law_441 rfl ?_
          refine x_aload_n (pc := 442) dL_law_442 rfl ?_
          refine x_iload_n (pc := 443) dL_law_443 rfl ?_
          refine x_iconst (pc := 444) (1) dL_law_444 (by decide) ?_
          refine x_iadd (pc := 445) dL_law_445 ?_
          refine x_sld (pc := 446) (i + 1) (nI_add i 1) (by omega) (by omega) dL_law_446 ?_
          refine x_aload_n (pc := 447) dL_law_447 rfl ?_
          refine x_iload_n (pc := 448) dL_law_448 rfl ?_
          refine x_iconst (pc := 449) (2) dL_law_449 (by decide) ?_
          refine x_iadd (pc := 450) dL_law_450 ?_
          refine x_sld (pc := 451) (i + 2) (nI_add i 2) (by omega) (by omega) dL_law_451 ?_
          refine t_Vi (pc := 452) (c_X4_shape hM hV _ _) qV_X4_shape mL_L_73 dL_law_452 rfl cell_model (by decide) rfl rfl rfl ⟨(Nat.le_of_ble_eq_true rfl), (Nat.le_of_ble_eq_true rfl)⟩ (Nat.le_of_ble_eq_true rfl) (Nat.le_of_ble_eq_true rfl) (Nat.le_of_ble_eq_true rfl) ?_
          refine x_cmpeq (pc := 455) 624 dL_law_455 (by decide) (fun c455 => ?_) (fun c455 => absurd rfl c455)
          refine x_iinc (pc := 624) (nI (i + 5)) dL_law_624 rfl (inc5 i) (Nat.le_of_ble_eq_true rfl) ?_
          refine x_goto (pc := 627) 18 dL_law_627 (by decide) ?_
          exact x_back (ih (i + 5) S B _ _ (by omega) (by omega) hG hM hV) ⟨rfl, rfl, rfl, rfl, trivial⟩
        · refine x_tableIn (pc := 32) 460 dL_law_32 (by decide) (by decide) rfl (by decide) ?_
          refine x_aload_n (pc := 460) dL_law_460 rfl ?_
          refine x_aload_n (pc := 461) dL_law_461 rfl ?_
          refine x_iload_n (pc := 462) dL_law_462 rfl ?_
          refine x_iconst (pc := 463) (1) dL_law_463 (by decide) ?_
          refine x_iadd (pc := 464) dL_law_464 ?_
          refine x_sld (pc := 465) (i + 1) (nI_add i 1) (by omega) (by omega) dL_law_465 ?_
          refine t_Vi (pc := 466) (c_X3_heat hG _) qV_X3_heat mL_L_74 dL_law_466 rfl cell_bc (by decide) rfl rfl rfl ⟨(Nat.le_of_ble_eq_true rfl), (Nat.le_of_ble_eq_true rfl)⟩ (Nat.le_of_ble_eq_true rfl) (Nat.le_of_ble_eq_true rfl) (Nat.le_of_ble_eq_true rfl) ?_
          refine x_aload_n (pc := 469) dL_law_469 rfl ?_
          refine x_aload_n (pc := 470) dL_law_470 rfl ?_
          refine x_iload_n (pc := 471) dL_law_471 rfl ?_
          refine x_iconst (pc := 472) (1) dL_law_472 (by decide) ?_
          refine x_iadd (pc := 473) dL_law_473 ?_
          refine x_sld (pc := 474) (i + 1) (nI_add i 1) (by omega) (by omega) dL_law_474 ?_
          refine t_Vi (pc := 475) (c_X4_heat hM hV _) qV_X4_heat mL_L_77 dL_law_475 rfl cell_model (by decide) rfl rfl rfl ⟨(Nat.le_of_ble_eq_true rfl), (Nat.le_of_ble_eq_true rfl)⟩ (Nat.le_of_ble_eq_true rfl) (Nat.le_of_ble_eq_true rfl) (Nat.le_of_ble_eq_true rfl) ?_
          refine x_cmpeq (pc := 478) 624 dL_law_478 (by decide) (fun c478 => ?_) (fun c478 => absurd rfl c478)
          refine x_iinc (pc := 624) (nI (i + 5)) dL_law_624 rfl (inc5 i) (Nat.le_of_ble_eq_true rfl) ?_
          refine x_goto (pc := 627) 18 dL_law_627 (by decide) ?_
          exact x_back (ih (i + 5) S B _ _ (by omega) (by omega) hG hM hV) ⟨rfl, rfl, rfl, rfl, trivial⟩
        · refine x_tableIn (pc := 32) 483 dL_law_32 (by decide) (by decide) rfl (by decide) ?_
          refine x_aload_n (pc := 483) dL_law_483 rfl ?_
          refine x_aload_n (pc := 484) dL_law_484 rfl ?_
          refine x_iload_n (pc := 485) dL_law_485 rfl ?_
          refine x_iconst (pc := 486) (1) dL_law_486 (by decide) ?_
          refine x_iadd (pc := 487) dL_law_487 ?_
          refine x_sld (pc := 488) (i + 1) (nI_add i 1) (by omega) (by omega) dL_law_488 ?_
          refine t_Vi (pc := 489) (c_X3_reason hG _) qV_X3_reason mL_L_78 dL_law_489 rfl cell_bc (by decide) rfl rfl rfl ⟨(Nat.le_of_ble_eq_true rfl), (Nat.le_of_ble_eq_true rfl)⟩ (Nat.le_of_ble_eq_true rfl) (Nat.le_of_ble_eq_true rfl) (Nat.le_of_ble_eq_true rfl) ?_
          refine x_aload_n (pc := 492) dL_law_492 rfl ?_
          refine x_aload_n (pc := 493) dL_law_493 rfl ?_
          refine x_iload_n (pc := 494) dL_law_494 rfl ?_
          refine x_iconst (pc := 495) (1) dL_law_495 (by decide) ?_
          refine x_iadd (pc := 496) dL_law_496 ?_
          refine x_sld (pc := 497) (i + 1) (nI_add i 1) (by omega) (by omega) dL_law_497 ?_
          refine t_Vi (pc := 498) (c_X4_reason hM hV _) qV_X4_reason mL_L_81 dL_law_498 rfl cell_model (by decide) rfl rfl rfl ⟨(Nat.le_of_ble_eq_true rfl), (Nat.le_of_ble_eq_true rfl)⟩ (Nat.le_of_ble_eq_true rfl) (Nat.le_of_ble_eq_true rfl) (Nat.le_of_ble_eq_true rfl) ?_
          refine x_cmpeq (pc := 501) 624 dL_law_501 (by decide) (fun c501 => ?_) (fun c501 => absurd rfl c501)
          refine x_iinc (pc := 624) (nI (i + 5)) dL_law_624 rfl (inc5 i) (Nat.le_of_ble_eq_true rfl) ?_
          refine x_goto (pc := 627) 18 dL_law_627 (by decide) ?_
          exact x_back (ih (i + 5) S B _ _ (by omega) (by omega) hG hM hV) ⟨rfl, rfl, rfl, rfl, trivial⟩
        · refine x_tableIn (pc := 32) 506 dL_law_32 (by decide) (by decide) rfl (by decide) ?_
          refine x_aload_n (pc := 506) dL_law_506 rfl ?_
          refine x_aload_n (pc := 507) dL_law_507 rfl ?_
          refine x_iload_n (pc := 508) dL_law_508 rfl ?_
          refine x_iconst (pc := 509) (1) dL_law_509 (by decide) ?_
          refine x_iadd (pc := 510) dL_law_510 ?_
          refine x_sld (pc := 511) (i + 1) (nI_add i 1) (by omega) (by omega) dL_law_511 ?_
          refine t_Vi (pc := 512) (c_X3_takes hG _) qV_X3_takes mL_L_82 dL_law_512 rfl cell_bc (by decide) rfl rfl rfl ⟨(Nat.le_of_ble_eq_true rfl), (Nat.le_of_ble_eq_true rfl)⟩ (Nat.le_of_ble_eq_true rfl) (Nat.le_of_ble_eq_true rfl) (Nat.le_of_ble_eq_true rfl) ?_
          refine x_aload_n (pc := 515) dL_law_515 rfl ?_
          refine x_aload_n (pc := 516) dL_law_516 rfl ?_
          refine x_iload_n (pc := 517) dL_law_517 rfl ?_
          refine x_iconst (pc := 518) (1) dL_law_518 (by decide) ?_
          refine x_iadd (pc := 519) dL_law_519 ?_
          refine x_sld (pc := 520) (i + 1) (nI_add i 1) (by omega) (by omega) dL_law_520 ?_
          refine t_Vi (pc := 521) (c_X4_takes hM hV _) qV_X4_takes mL_L_85 dL_law_521 rfl cell_model (by decide) rfl rfl rfl ⟨(Nat.le_of_ble_eq_true rfl), (Nat.le_of_ble_eq_true rfl)⟩ (Nat.le_of_ble_eq_true rfl) (Nat.le_of_ble_eq_true rfl) (Nat.le_of_ble_eq_true rfl) ?_
          refine x_cmpeq (pc := 524) 624 dL_law_524 (by decide) (fun c524 => ?_) (fun c524 => absurd rfl c524)
          refine x_iinc (pc := 624) (nI (i + 5)) dL_law_624 rfl (inc5 i) (Nat.le_of_ble_eq_true rfl) ?_
          refine x_goto (pc := 627) 18 dL_law_627 (by decide) ?_
          exact x_back (ih (i + 5) S B _ _ (by omega) (by omega) hG hM hV) ⟨rfl, rfl, rfl, rfl, trivial⟩
        · refine x_tableIn (pc := 32) 529 dL_law_32 (by decide) (by decide) rfl (by decide) ?_
          refine x_aload_n (pc := 529) dL_law_529 rfl ?_
          refine x_aload_n (pc := 530) dL_law_530 rfl ?_
          refine x_iload_n (pc := 531) dL_law_531 rfl ?_
          refine x_iconst (pc := 532) (1) dL_law_532 (by decide) ?_
          refine x_iadd (pc := 533) dL_law_533 ?_
          refine x_sld (pc := 534) (i + 1) (nI_add i 1) (by omega) (by omega) dL_law_534 ?_
          refine t_Vi (pc := 535) (c_X3_coolsIn hG _) qV_X3_coolsIn mL_L_86 dL_law_535 rfl cell_bc (by decide) rfl rfl rfl ⟨(Nat.le_of_ble_eq_true rfl), (Nat.le_of_ble_eq_true rfl)⟩ (Nat.le_of_ble_eq_true rfl) (Nat.le_of_ble_eq_true rfl) (Nat.le_of_ble_eq_true rfl) ?_
          refine x_aload_n (pc := 538) dL_law_538 rfl ?_
          refine x_aload_n (pc := 539) dL_law_539 rfl ?_
          refine x_iload_n (pc := 540) dL_law_540 rfl ?_
          refine x_iconst (pc := 541) (1) dL_law_541 (by decide) ?_
          refine x_iadd (pc := 542) dL_law_542 ?_
          refine x_sld (pc := 543) (i + 1) (nI_add i 1) (by omega) (by omega) dL_law_543 ?_
          refine t_Vi (pc := 544) (c_X4_coolsIn hM hV _) qV_X4_coolsIn mL_L_89 dL_law_544 rfl cell_model (by decide) rfl rfl rfl ⟨(Nat.le_of_ble_eq_true rfl), (Nat.le_of_ble_eq_true rfl)⟩ (Nat.le_of_ble_eq_true rfl) (Nat.le_of_ble_eq_true rfl) (Nat.le_of_ble_eq_true rfl) ?_
          refine x_cmpeq (pc := 547) 624 dL_law_547 (by decide) (fun c547 => ?_) (fun c547 => absurd rfl c547)
          refine x_iinc (pc := 624) (nI (i + 5)) dL_law_624 rfl (inc5 i) (Nat.le_of_ble_eq_true rfl) ?_
          refine x_goto (pc := 627) 18 dL_law_627 (by decide) ?_
          exact x_back (ih (i + 5) S B _ _ (by omega) (by omega) hG hM hV) ⟨rfl, rfl, rfl, rfl, trivial⟩
        · refine x_tableIn (pc := 32) 552 dL_law_32 (by decide) (by decide) rfl (by decide) ?_
          refine x_aload_n (pc := 552) dL_law_552 rfl ?_
          refine t_Vi (pc := 553) (c_X3_best hG) qV_X3_best mL_L_90 dL_law_553 rfl cell_bc (by decide) rfl rfl rfl ⟨(Nat.le_of_ble_eq_true rfl), (Nat.le_of_ble_eq_true rfl)⟩ (Nat.le_of_ble_eq_true rfl) (Nat.le_of_ble_eq_true rfl) (Nat.le_of_ble_eq_true rfl) ?_
          refine x_aload_n (pc := 556) dL_law_556 rfl ?_
          refine t_Vi (pc := 557) (c_X4_best hM hV) qV_X4_best mL_L_93 dL_law_557 rfl cell_model (by decide) rfl rfl rfl ⟨(Nat.le_of_ble_eq_true rfl), (Nat.le_of_ble_eq_true rfl)⟩ (Nat.le_of_ble_eq_true rfl) (Nat.le_of_ble_eq_true rfl) (Nat.le_of_ble_eq_true rfl) ?_
          refine x_cmpeq (pc := 560) 624 dL_law_560 (by decide) (fun c560 => ?_) (fun c560 => absurd rfl c560)
          refine x_iinc (pc := 624) (nI (i + 5)) dL_law_624 rfl (inc5 i) (Nat.le_of_ble_eq_true rfl) ?_
          refine x_goto (pc := 627) 18 dL_law_627 (by decide) ?_
          exact x_back (ih (i + 5) S B _ _ (by omega) (by omega) hG hM hV) ⟨rfl, rfl, rfl, rfl, trivial⟩
        · refine x_tableIn (pc := 32) 565 dL_law_32 (by decide) (by decide) rfl (by decide) ?_
          refine x_aload_n (pc := 565) dL_law_565 rfl ?_
          refine x_aload_n (pc := 566) dL_law_566 rfl ?_
          refine x_iload_n (pc := 567) dL_law_567 rfl ?_
          refine x_iconst (pc := 568) (1) dL_law_568 (by decide) ?_
          refine x_iadd (pc := 569) dL_law_569 ?_
          refine x_sld (pc := 570) (i + 1) (nI_add i 1) (by omega) (by omega) dL_law_570 ?_
          refine e_Vi (pc := 571) (c_X3_ordered hG _) qV_X3_ordered mL_L_94 dL_law_571 rfl cell_bc (by decide) rfl rfl rfl ⟨(Nat.le_of_ble_eq_true rfl), (Nat.le_of_ble_eq_true rfl)⟩ (Nat.le_of_ble_eq_true rfl) (Nat.le_of_ble_eq_true rfl) (Nat.le_of_ble_eq_true rfl) ?_
          intro a hG2
          obtain ⟨S2, B2⟩ := a
          dsimp only at hG2 ⊢
          refine x_aload_n (pc := 574) dL_law_574 rfl ?_
          refine x_aload_n (pc := 575) dL_law_575 rfl ?_
          refine x_iload_n (pc := 576) dL_law_576 rfl ?_
          refine x_iconst (pc := 577) (1) dL_law_577 (by decide) ?_
          refine x_iadd (pc := 578) dL_law_578 ?_
          refine x_sld (pc := 579) (i + 1) (nI_add i 1) (by omega) (by omega) dL_law_579 ?_
          refine e_Vi (pc := 580) (c_X4_ordered hM hV _) qV_X4_ordered mL_L_97 dL_law_580 rfl cell_model (by decide) rfl rfl rfl ⟨(Nat.le_of_ble_eq_true rfl), (Nat.le_of_ble_eq_true rfl)⟩ (Nat.le_of_ble_eq_true rfl) (Nat.le_of_ble_eq_true rfl) (Nat.le_of_ble_eq_true rfl) ?_
          intro M2 hM2
          refine x_cmpeq (pc := 583) 624 dL_law_583 (by decide) (fun c583 => ?_) (fun c583 => absurd rfl c583)
          refine x_iinc (pc := 624) (nI (i + 5)) dL_law_624 rfl (inc5 i) (Nat.le_of_ble_eq_true rfl) ?_
          refine x_goto (pc := 627) 18 dL_law_627 (by decide) ?_
          exact x_back (ih (i + 5) S2 B2 M2 _ (by omega) (by omega) hG2 hM2 (hV)) ⟨rfl, rfl, rfl, rfl, trivial⟩
        · refine x_tableIn (pc := 32) 588 dL_law_32 (by decide) (by decide) rfl (by decide) ?_
          refine x_aload_n (pc := 588) dL_law_588 rfl ?_
          refine e_Vi (pc := 589) (c_X3_allTakes hG) qV_X3_allTakes mL_L_98 dL_law_589 rfl cell_bc (by decide) rfl rfl rfl ⟨(Nat.le_of_ble_eq_true rfl), (Nat.le_of_ble_eq_true rfl)⟩ (Nat.le_of_ble_eq_true rfl) (Nat.le_of_ble_eq_true rfl) (Nat.le_of_ble_eq_true rfl) ?_
          intro a hG2
          obtain ⟨S2, B2⟩ := a
          dsimp only at hG2 ⊢
          refine x_aload_n (pc := 592) dL_law_592 rfl ?_
          refine e_Vi (pc := 593) (c_X4_allTakes hM hV) qV_X4_allTakes mL_L_101 dL_law_593 rfl cell_model (by decide) rfl rfl rfl ⟨(Nat.le_of_ble_eq_true rfl), (Nat.le_of_ble_eq_true rfl)⟩ (Nat.le_of_ble_eq_true rfl) (Nat.le_of_ble_eq_true rfl) (Nat.le_of_ble_eq_true rfl) ?_
          intro M2 hM2
          refine x_cmpeq (pc := 596) 624 dL_law_596 (by decide) (fun c596 => ?_) (fun c596 => absurd rfl c596)
          refine x_iinc (pc := 624) (nI (i + 5)) dL_law_624 rfl (inc5 i) (Nat.le_of_ble_eq_true rfl) ?_
          refine x_goto (pc := 627) 18 dL_law_627 (by decide) ?_
          exact x_back (ih (i + 5) S2 B2 M2 _ (by omega) (by omega) hG2 hM2 (hV)) ⟨rfl, rfl, rfl, rfl, trivial⟩
        · refine x_tableIn (pc := 32) 601 dL_law_32 (by decide) (by decide) rfl (by decide) ?_
          refine x_aload_n (pc := 601) dL_law_601 rfl ?_
          refine x_aload_n (pc := 602) dL_law_602 rfl ?_
          refine x_iload_n (pc := 603) dL_law_603 rfl ?_
          refine x_iconst (pc := 604) (1) dL_law_604 (by decide) ?_
          refine x_iadd (pc := 605) dL_law_605 ?_
          refine x_sld (pc := 606) (i + 1) (nI_add i 1) (by omega) (by omega) dL_law_606 ?_
          refine t_Vi (pc := 607) (c_X3_count hG _) qV_X3_count mL_L_102 dL_law_607 rfl cell_bc (by decide) rfl rfl rfl ⟨(Nat.le_of_ble_eq_true rfl), (Nat.le_of_ble_eq_true rfl)⟩ (Nat.le_of_ble_eq_true rfl) (Nat.le_of_ble_eq_true rfl) (Nat.le_of_ble_eq_true rfl) ?_
          refine x_aload_n (pc := 610) dL_law_610 rfl ?_
          refine x_aload_n (pc := 611) dL_law_611 rfl ?_
          refine x_iload_n (pc := 612) dL_law_612 rfl ?_
          refine x_iconst (pc := 613) (1) dL_law_613 (by decide) ?_
          refine x_iadd (pc := 614) dL_law_614 ?_
          refine x_sld (pc := 615) (i + 1) (nI_add i 1) (by omega) (by omega) dL_law_615 ?_
          refine t_Vi (pc := 616) (c_X4_count hM hV _) qV_X4_count mL_L_105 dL_law_616 rfl cell_model (by decide) rfl rfl rfl ⟨(Nat.le_of_ble_eq_true rfl), (Nat.le_of_ble_eq_true rfl)⟩ (Nat.le_of_ble_eq_true rfl) (Nat.le_of_ble_eq_true rfl) (Nat.le_of_ble_eq_true rfl) ?_
          refine x_cmpeq (pc := 619) 624 dL_law_619 (by decide) (fun c619 => ?_) (fun c619 => absurd rfl c619)
          refine x_iinc (pc := 624) (nI (i + 5)) dL_law_624 rfl (inc5 i) (Nat.le_of_ble_eq_true rfl) ?_
          refine x_goto (pc := 627) 18 dL_law_627 (by decide) ?_
          exact x_back (ih (i + 5) S B _ _ (by omega) (by omega) hG hM hV) ⟨rfl, rfl, rfl, rfl, trivial⟩
      · have ho := betw_out rfl (by decide) hw
        refine x_tableOut (pc := 32) 624 dL_law_32 ho (by decide) ?_
        refine x_iinc (pc := 624) (nI (i + 5)) dL_law_624 rfl (inc5 i) (Nat.le_of_ble_eq_true rfl) ?_
        refine x_goto (pc := 627) 18 dL_law_627 (by decide) ?_
        exact x_back (ih (i + 5) S B _ _ (by omega) (by omega) hG hM hV) ⟨rfl, rfl, rfl, rfl, trivial⟩
def s0B : Bc := (fun _ => 0, fun k => 4 + k, fun _ => 0, fun _ => 0, fun _ => 0, fun _ => 0, fun _ => 0)
def s0M : Md := (upd (upd (fun _ => 0) 9 (-5)) 10 (-5), upd (upd (upd (upd (fun _ => 0) 7 20) 8 1) 9 150) 10 1, fun _ => 0, fun _ => 0, fun _ => 0, fun _ => 0, fun _ => 0, fun _ => 0)
def s0A : Ab := (0, fun _ => 0, fun _ => 0, upd (upd (upd (upd (fun _ => 0) 0 20) 1 1) 2 150) 3 1, fun _ => fun _ => 0)
def s0W : Wt := (s0A, [], none, (0, fun _ => 0), none)
theorem s0_GC : GC (fun _ => s0S) s0B s0W := by
  refine ⟨⟨Nat.zero_le _, rfl, fun k _ _ => rfl, fun k _ => rfl, fun k _ => rfl, fun i hi => absurd hi (Nat.not_lt_zero i), fun i hi => absurd hi (Nat.not_lt_zero i)⟩, ⟨rfl, Nat.zero_le _, fun k hk => ⟨Nat.le_add_right 4 k, ?_⟩, fun k q _ _ h => ?_, fun k A h => by cases h⟩, rfl, ⟨rfl, Nat.zero_le _, fun p hp => absurd hp (Nat.not_lt_zero p)⟩, rfl⟩
  · show 4 + k < 8
    omega
  · have h : 4 + k = 4 + q := h
    omega
theorem s0_GM : GM s0M s0W := by
  refine ⟨⟨Nat.zero_le _, rfl, fun k h1 h2 => ?_, fun k h1 => ?_, fun k h1 => ?_, fun i hi => absurd hi (Nat.not_lt_zero i)⟩, ⟨rfl, Nat.zero_le _, fun k A h => by cases h⟩, rfl, ⟨rfl, Nat.zero_le _, fun p hp => absurd hp (Nat.not_lt_zero p)⟩, ⟨rfl, rfl⟩⟩
  · show (upd (upd (upd (upd (fun _ => 0) 7 20) 8 1) 9 150) 10 1 : Fs) k = 0
    rw [upd_ne _ _ (by omega), upd_ne _ _ (by omega), upd_ne _ _ (by omega), upd_ne _ _ (by omega)]
  · show (upd (upd (upd (upd (fun _ => 0) 7 20) 8 1) 9 150) 10 1 : Fs) (11 + k) = 0
    rw [upd_ne _ _ (by omega), upd_ne _ _ (by omega), upd_ne _ _ (by omega), upd_ne _ _ (by omega)]
  · rcases (show k = 0 ∨ k = 1 ∨ k = 2 ∨ k = 3 by omega) with rfl | rfl | rfl | rfl <;> rfl
theorem s0_VW : VW s0W := by
  refine ⟨⟨Nat.zero_le _, fun i hi => absurd hi (Nat.not_lt_zero i), ⟨⟨by decide, by decide⟩, ⟨by decide, by decide⟩⟩, ⟨by decide, by decide⟩, ⟨⟨by decide, by decide⟩, ⟨by decide, by decide⟩, ⟨by decide, by decide⟩, ⟨by decide, by decide⟩⟩, fun k _ => ⟨by show 0 ≤ (0 : Int32).toInt; decide, by show (0 : Int32).toInt ≤ _; decide⟩⟩, (fun A h => by cases h), (fun A h => by cases h)⟩
set_option maxHeartbeats 4000000 in
set_option maxRecDepth 100000 in
theorem law_from {nm : String} (hL : L ≤ 2560) : XJ G (YL nm) (lE G b L xs) lawZ 0 [(0, .ref b)] [] 0 (fun _ => fr3) 0 0 := by
  refine x_new (pc := 0) (ci := 3) (fs := [.null, .null, .null, .null, .null, .null, .int 0, .int 0, .int 0, .int 0]) tyX3 tyX3_ok rfl nX3 mC_L_7 mN_X3 mI_X3 (fun j hj => by rcases (show j = 0 ∨ j = 1 ∨ j = 2 ∨ j = 3 ∨ j = 4 ∨ j = 5 ∨ j = 6 ∨ j = 7 ∨ j = 8 ∨ j = 9 by omega) with rfl | rfl | rfl | rfl | rfl | rfl | rfl | rfl | rfl | rfl <;> rfl) (Nat.le_of_ble_eq_true rfl) (Nat.le_of_ble_eq_true rfl) dL_law_0 (cset (cellOf G (fun _ => s0S) s0B s0M) 0 fr3) (fun q hq => by rw [show q = 0 by omega]; rfl) ?_
  refine x_dup (pc := 3) dL_law_3 rfl ?_
  refine t_I (pc := 4) (c_X3_init (F := (cellOf G (fun _ => s0S) s0B s0M)) rfl (fun j hj r hr => cell_sh hj hr) rfl rfl rfl rfl rfl rfl) qI_X3_init rfl mL_L_9 dL_law_4 rfl rfl rfl ⟨(Nat.le_of_ble_eq_true rfl), (Nat.le_of_ble_eq_true rfl)⟩ (Nat.le_of_ble_eq_true rfl) (Nat.le_of_ble_eq_true rfl) (Nat.le_of_ble_eq_true rfl) ?_
  refine x_astore_n (pc := 7) dL_law_7 (Nat.le_of_ble_eq_true rfl) ?_
  refine x_new (pc := 8) (ci := 4) (fs := [.null, .null, .null, .null, .int 0, .null, .int 0, .null, .int 0, .int 0, .int 0, .int 0, .int 0, .int 0, .int 0, .int 0, .int 0, .null, .int 0, .int 0, .int 0]) tyX4 tyX4_ok rfl nX4 mC_L_10 mN_X4 mI_X4 (fun j hj => by rcases (show j = 0 ∨ j = 1 ∨ j = 2 ∨ j = 3 ∨ j = 4 ∨ j = 5 ∨ j = 6 ∨ j = 7 ∨ j = 8 ∨ j = 9 ∨ j = 10 ∨ j = 11 ∨ j = 12 ∨ j = 13 ∨ j = 14 ∨ j = 15 ∨ j = 16 ∨ j = 17 ∨ j = 18 ∨ j = 19 ∨ j = 20 by omega) with rfl | rfl | rfl | rfl | rfl | rfl | rfl | rfl | rfl | rfl | rfl | rfl | rfl | rfl | rfl | rfl | rfl | rfl | rfl | rfl | rfl <;> rfl) (Nat.le_of_ble_eq_true rfl) (Nat.le_of_ble_eq_true rfl) dL_law_8 (cset (cellOf G (fun _ => s0S) s0B s0M) 247 fr4) (fun _ _ => rfl) ?_
  refine x_dup (pc := 11) dL_law_11 rfl ?_
  refine t_I (pc := 12) (c_X4_init (F := (cellOf G (fun _ => s0S) s0B s0M)) (o := 247) rfl rfl rfl rfl rfl rfl rfl rfl) qI_X4_init rfl mL_L_12 dL_law_12 rfl rfl rfl ⟨(Nat.le_of_ble_eq_true rfl), (Nat.le_of_ble_eq_true rfl)⟩ (Nat.le_of_ble_eq_true rfl) (Nat.le_of_ble_eq_true rfl) (Nat.le_of_ble_eq_true rfl) ?_
  refine x_astore_n (pc := 15) dL_law_15 (Nat.le_of_ble_eq_true rfl) ?_
  refine x_iconst (pc := 16) (0) dL_law_16 (by decide) ?_
  refine x_istore_n (pc := 17) dL_law_17 (Nat.le_of_ble_eq_true rfl) ?_
  refine x_n (n' := 255) rfl ?_
  refine x_cks (ck' := 255) (sk' := 3712) rfl rfl ?_
  exact x_back (law_loop hL 512 0 _ _ _ s0W (by omega) (by omega) s0_GC s0_GM s0_VW) ⟨rfl, rfl, rfl, rfl, trivial⟩
end LAW
