/-! the law (rows laid by wip/p25/p37.py; the words of the claim begin with those of the kit's skeleton) -/
set_option maxRecDepth 20000 in
theorem tA_1 : Cond.arrayOver (.object "BeamCuts$Shape") ∈ lw_tbl := List.mem_of_getElem? (i := 39) rfl
set_option maxRecDepth 20000 in
theorem tA_2 : Cond.arrayOver (.object "BeamCuts$Sheet") ∈ lw_tbl := List.mem_of_getElem? (i := 116) rfl
set_option maxRecDepth 20000 in
theorem tN_2 : Cond.methodLinkNest RX2 51 yX3_isIn RX3 ∈ lw_tbl := List.mem_of_getElem? (i := 294) rfl
set_option maxRecDepth 20000 in
theorem tZ_1 : Cond.laysStatic RX2 "LEAST_SETTINGS" "[I" ∈ lw_tbl := List.mem_of_getElem? (i := 426) rfl
set_option maxRecDepth 20000 in
theorem tZ_2 : Cond.laysStatic RX2 "GREATEST_SETTINGS" "[I" ∈ lw_tbl := List.mem_of_getElem? (i := 428) rfl
def R_law : String := "BeamCutsLaw"
def lw_P (b : Addr) (xs : List Int32) (args : Array Value) (s : State) : Prop := args = #[.ref b] ∧ s.IntsAt b xs ∧ xs.length ≤ 260 ∧ (Jvm.Cond.and given_1 narrow_1).before args s = true
def lw_Q (_ : Array Value) (s : State) (o : Outcome) (t : State) : Prop := o = .returned (some (.int 1)) ∧ Framed s o t [] 600000 7302250
def lw_Z (below : List Frame) (a : Array Value) (s : State) : State → Prop := fun t => ∃ o, t.status = .running ∧ Ended t below o ∧ lw_Q a s o t
/-- the law's own end, with 1 on the stack, nothing written that was there before, its room as the claim has it -/
theorem lw_ret {p : Program} {l : Launch} {e : Env} {s : State} {m : MethodId} {args : Array Value} {below : List Frame} {meth : Method} {c : Code} (hx : p.tables.exec = Jvm.exec) (hb : c.code = code) (hr : meth.sig.returnType = ret) (hlocks : meth.locks = false) {pc : Nat} {H : Heap} {ls : Array Slot} (hdg : decode code pc = .ok (.ireturn, 1)) : W p l e room_1 s m args below meth c H [] 600000 7302250 (lw_Z below args s) (F0 m pc ls [.int 1]) := by
  intro T hT X
  obtain ⟨fs, hret, hrun, hended, hW, hframe⟩ := X.leave (v := some (.int 1)) (hlocks := hlocks) (fun h => by rw [hr] at h; cases h)
  have hmeth' : T.vm.method? m = some meth := X.method'
  refine ⟨T.setFrames fs, ?_, .returned (some (.int 1)), hrun, hended, rfl, ⟨_, rfl⟩, hW, hframe⟩
  jvm_step X.here [X.here.top, hx, hb, hdg, hmeth', hr, ret, narrow_b1]
  (try refine ⟨rfl, ?_⟩); (try refine ⟨rfl, ?_⟩)
  first | (intro acts; rw [hret _ acts rfl rfl rfl]) | rw [hret _ _ rfl rfl rfl]
  exact Steps.refl _
/-- what holds at the law's entry: the machine, the code, the tables' words (any of lw_tbl by 'hts w (by decide +kernel)'), the script of L ints xs at the cell b, what the Statement gives of the start (any of its parts by flat_of_before) -/
def lw_At (p : Program) (s : State) (m : MethodId) (meth : Method) (c : Code) (b L : Nat) (xs : Nat → Int32) : Prop :=
  p.tables.exec = Jvm.exec ∧ c.code = code ∧ meth.sig.returnType = ret ∧ c.maxLocals = 7 ∧ s.vm.findClass R_law = some m.cls ∧ (∀ w ∈ lw_tbl, w.before #[Value.ref b] s = true) ∧ va_X b L xs s s.heap ∧ b < s.heap.size ∧ meth.locks = false ∧ (Jvm.Cond.and given_1 narrow_1).before #[Value.ref b] s = true
abbrev YL (nm : String) : YX := (code, 7, RL, room_1, ret, nm)
def lE (G : GX) (s : State) : Prop := gB G = s.heap.size
def lawZ : ZX := fun below args s => lw_Z below args s
section LAW
variable {G : GX} {S : Nat → Sh} {B : Bc} {M : Md} {w : Wt} {k : Nat} {t : Int}
theorem x_lawret {nm : String} {pc : Nat} {l : List (Nat × Value)} {n : Nat} {cs : Nat → va_E} {ck sk : Nat} (hck : ck ≤ 600000) (hsk : sk ≤ 7302250) (hd : decode code pc = .ok (.ireturn, 1)) : XJ G (YL nm) (lE G) lawZ pc l [.int 1] n cs ck sk := by
  intro p e s m args below meth c H locs ls F e1 S P L'
  refine va_forget (fun q hq => ?_) (W.widen hck hsk ?_)
  · have : gB G ≤ q.base := S.2.2 q hq
    rw [e1] at this
    exact this
  · exact lw_ret F.1 F.2.1 F.2.2.2.2.2.2.1 F.2.2.2.2.2.1 hd
theorem up_L {nm : String} {pc : Nat} {l : List (Nat × Value)} {stk : List Value} {n : Nat} {cs : Nat → va_E} {ck sk : Nat} (h : XJ (upG G) (YL nm) (lE (upG G)) lawZ pc l stk n cs ck sk) : XJ G (YL nm) (lE G) lawZ pc l stk n cs ck sk := h
theorem mul_3 (k : Nat) : (3 : Int32) * nI k = nI (3 * k) := pk_mul 3 k
theorem add_2 (k : Nat) : nI k + (2 : Int32) = nI (k + 2) := nI_add k 2
theorem rec_len {r : Int32 × Ab} (hG : GC S B w) : nI (recX w r).2.2.1.length = if r.1 < 0 then nI w.2.1.length else if nI w.2.1.length = 4 then 4 else nI w.2.1.length + 1 := by
  have h4 := hist_4 hG
  by_cases h : r.1 < 0
  · have e : (recX w r).2.2.1 = w.2.1 := by simp only [recX, if_pos h]
    rw [e, if_pos h]
  · have e : (recX w r).2.2.1 = pushH w.2.1 w.1 := by simp only [recX, if_neg h]
    rw [e, if_neg h, push_len _ h4]
    by_cases h5 : w.2.1.length = 4
    · rw [if_pos h5, if_pos (by rw [h5]; rfl)]; rfl
    · have h6 : ¬ nI w.2.1.length = 4 := by
        intro z
        apply h5
        have e1 : (nI w.2.1.length).toInt = (w.2.1.length : Int) := nI_toInt (by omega)
        rw [z, t4] at e1
        omega
      rw [if_neg h5, if_neg h6, inc_nI]
theorem turn_in {L : Nat} (hL : L ≤ 260) : ∃ T, nI L / 3 = nI T ∧ T ≤ 87 := ⟨L / 3, pk_div (d := 3) (by omega) (by decide) (by decide), by omega⟩
def s0B : Bc := (fun _ => 0, fun k => 4 + k, fun _ => 0, fun _ => 0, fun _ => 0, fun _ => 0, fun _ => 0)
def s0M : Md := fun _ => fr0
def s0A : Ab := (0, fun _ => 0, fun _ => 0, upd (upd (upd (upd (fun _ => 0) 0 20) 1 1) 2 150) 3 1, fun _ => fun _ => 0)
def s0W : Wt := (s0A, [], none, (0, fun _ => 0), none)
theorem s0_GC : GC (fun _ => s0S) s0B s0W := by
  refine ⟨⟨Nat.zero_le _, rfl, fun k _ _ => rfl, fun k _ => rfl, fun k _ => rfl, fun i hi => absurd hi (Nat.not_lt_zero i), fun i hi => absurd hi (Nat.not_lt_zero i)⟩, ⟨rfl, Nat.zero_le _, fun k hk => ⟨Nat.le_add_right 4 k, ?_⟩, fun k q _ _ h => ?_, fun k A h => by cases h⟩, rfl, ⟨rfl, Nat.zero_le _, fun p hp => absurd hp (Nat.not_lt_zero p)⟩, rfl⟩
  · show 4 + k < 8
    omega
  · have h : 4 + k = 4 + q := h
    omega
theorem s0_VB : VB 0 s0A := by
  refine ⟨⟨Nat.zero_le _, fun i hi => absurd hi (Nat.not_lt_zero i), ⟨⟨by decide, by decide⟩, ⟨by decide, by decide⟩⟩, ⟨by decide, by decide⟩, ⟨⟨by decide, by decide⟩, ⟨by decide, by decide⟩, ⟨by decide, by decide⟩, ⟨by decide, by decide⟩⟩, fun k _ => ⟨by show 0 ≤ (0 : Int32).toInt; decide, by show (0 : Int32).toInt ≤ _; decide⟩⟩, fun i j hi => absurd hi (Nat.not_lt_zero i), ⟨fun i hi => absurd hi (Nat.not_lt_zero i), rfl, by decide⟩, ⟨by decide, by decide, by decide⟩⟩
theorem s0_LV : LV 0 s0W := ⟨s0_VB, fun A h => absurd h List.not_mem_nil, rfl⟩
theorem s0_all : allX s0A = 0 := by
  have e : nextX s0A = (none, s0A) := rfl
  have e2 : finA s0A 12 = s0A := by
    show finA s0A (11 + 1) = s0A
    rw [finA_n (by rw [e]), e]
  unfold allX
  rw [e2]
  rfl
set_option maxHeartbeats 4000000 in
set_option maxRecDepth 100000 in
theorem e1_law {nm : String} (hG : GC S B w) (hB : VB (t + 24000) w.1) : XJ G (YL nm) (lE G) lawZ 213 [(1, .ref (gB G + 0)), (2, .int 1)] [] (nN G) (cellOf G S B M) 248 2679 := by
  refine x_aload_n (pc := 213) dL_law_213 rfl ?_
  refine t_Si (pc := 214) (w_holds hG hB) qS_L_holds mL_L_95 dL_law_214 rfl rfl rfl ⟨(Nat.le_of_ble_eq_true rfl), (Nat.le_of_ble_eq_true rfl)⟩ (Nat.le_of_ble_eq_true rfl) (Nat.le_of_ble_eq_true rfl) (Nat.le_of_ble_eq_true rfl) ?_
  refine x_ifeq (pc := 217) 224 dL_law_217 (by decide) (fun c217 => absurd c217 (by decide)) (fun c217 => ?_)
  refine x_iconst (pc := 220) (1) dL_law_220 (by decide) ?_
  refine x_goto (pc := 221) 225 dL_law_221 (by decide) ?_
  exact x_lawret (by decide) (by decide) dL_law_225
set_option maxHeartbeats 4000000 in
set_option maxRecDepth 100000 in
theorem e0_law {nm : String} (hG : GC S B w) (hB : VB t w.1) (ht : t + 24000 ≤ 900000) : XJ G (YL nm) (lE G) lawZ 202 [(1, .ref (gB G + 0)), (2, .int 1)] [] (nN G) (cellOf G S B M) 247 2667 := by
  refine x_iload_n (pc := 202) dL_law_202 rfl ?_
  refine x_ifeq (pc := 203) 224 dL_law_203 (by decide) (fun h => absurd h (by decide)) (fun _ => ?_)
  refine x_aload_n (pc := 206) dL_law_206 rfl ?_
  refine x_callS (pc := 207) (w_goesThrough hG hB ht) qS_L_goesThrough mL_L_113 dL_law_207 rfl rfl rfl ⟨(Nat.le_of_ble_eq_true rfl), (Nat.le_of_ble_eq_true rfl)⟩ (Nat.le_of_ble_eq_true rfl) (Nat.le_of_ble_eq_true rfl) (Nat.le_of_ble_eq_true rfl) ?_
  intro v n' cs' hq
  obtain ⟨S2, B2, M2, w2, rfl, rfl, rfl, hG2, hB2⟩ := hq
  refine up_L ?_
  refine x_ifeq (pc := 210) 224 dL_law_210 (by decide) (fun c210 => absurd c210 (by decide)) (fun c210 => ?_)
  exact x_back (e1_law (G := upG G) (nm := nm) hG2 hB2) ⟨rfl, rfl, trivial⟩
set_option maxHeartbeats 4000000 in
set_option maxRecDepth 100000 in
theorem law_loop {nm : String} {T : Nat} (hL : gL G ≤ 260) (hT : T ≤ 32) : ∀ (d k : Nat) (S : Nat → Sh) (B : Bc) (w : Wt), k + d = T → GC S B w → LV (999 * (k : Int)) w → XJ G (YL nm) (lE G) lawZ 68 [(0, .ref (gb G)), (1, .ref (gB G + 0)), (2, .int 1), (3, .int (nI T)), (4, .int (nI k))] [] (nN G) (cellOf G S B M) 247 2667
  | 0, k, S, B, w, hd, hG, hV => by
    obtain rfl : k = T := by omega
    refine x_iload (pc := 68) dL_law_68 rfl ?_
    refine x_iload_n (pc := 70) dL_law_70 rfl ?_
    refine x_cmpge (pc := 71) 202 dL_law_71 (by decide) (fun c71 => ?_) (fun c71 => absurd c71 (fun z => Int32.lt_irrefl z))
    exact x_back (e0_law (G := G) (nm := nm) hG hV.1 (by omega)) ⟨rfl, rfl, trivial⟩
  | d + 1, k, S, B, w, hd, hG, hV => by
    have hk : k < T := by omega
    have ih := law_loop (nm := nm) hL hT d (k + 1)
    have hc := hV.1
    refine x_iload (pc := 68) dL_law_68 rfl ?_
    refine x_iload_n (pc := 70) dL_law_70 rfl ?_
    refine x_cmpge (pc := 71) 202 dL_law_71 (by decide) (fun c71 => absurd ((nI_ltI (by omega) (by omega)).mpr hk) c71) (fun c71 => ?_)
    refine x_iload_n (pc := 74) dL_law_74 rfl ?_
    refine x_ifeq (pc := 75) 202 dL_law_75 (by decide) (fun h => absurd h (by decide)) (fun _ => ?_)
    refine x_aload_n (pc := 78) dL_law_78 rfl ?_
    refine x_bipush (pc := 79) (17) dL_law_79 (by decide) ?_
    refine t_Vi (pc := 81) (n_17 hG) qV_X3_count mL_L_9 dL_law_81 rfl cell_bc (nN_lt (by decide)) rfl rfl rfl ⟨(Nat.le_of_ble_eq_true rfl), (Nat.le_of_ble_eq_true rfl)⟩ (Nat.le_of_ble_eq_true rfl) (Nat.le_of_ble_eq_true rfl) (Nat.le_of_ble_eq_true rfl) ?_
    refine x_istore (pc := 84) dL_law_84 (Nat.le_of_ble_eq_true rfl) ?_
    refine x_aload_n (pc := 86) dL_law_86 rfl ?_
    refine x_aload_n (pc := 87) dL_law_87 rfl ?_
    refine x_iconst (pc := 88) (3) dL_law_88 (by decide) ?_
    refine x_iload (pc := 89) dL_law_89 rfl ?_
    refine x_imul (pc := 91) dL_law_91 ?_
    try dsimp only
    rw [mul_3]
    refine t_Si (pc := 92) (l_cell (by omega) (by omega)) qS_L_cell mL_L_102 dL_law_92 rfl rfl rfl ⟨(Nat.le_of_ble_eq_true rfl), (Nat.le_of_ble_eq_true rfl)⟩ (Nat.le_of_ble_eq_true rfl) (Nat.le_of_ble_eq_true rfl) (Nat.le_of_ble_eq_true rfl) ?_
    refine x_bipush (pc := 95) (13) dL_law_95 (by decide) ?_
    refine t_Si (pc := 97) (l_low _ _ (by decide)) qS_L_low mL_L_15 dL_law_97 rfl rfl rfl ⟨(Nat.le_of_ble_eq_true rfl), (Nat.le_of_ble_eq_true rfl)⟩ (Nat.le_of_ble_eq_true rfl) (Nat.le_of_ble_eq_true rfl) (Nat.le_of_ble_eq_true rfl) ?_
    refine x_aload_n (pc := 100) dL_law_100 rfl ?_
    refine x_iconst (pc := 101) (3) dL_law_101 (by decide) ?_
    refine x_iload (pc := 102) dL_law_102 rfl ?_
    refine x_imul (pc := 104) dL_law_104 ?_
    try dsimp only
    rw [mul_3]
    refine x_iconst (pc := 105) (1) dL_law_105 (by decide) ?_
    refine x_iadd (pc := 106) dL_law_106 ?_
    try dsimp only
    rw [inc_nI]
    refine t_Si (pc := 107) (l_cell (by omega) (by omega)) qS_L_cell mL_L_102 dL_law_107 rfl rfl rfl ⟨(Nat.le_of_ble_eq_true rfl), (Nat.le_of_ble_eq_true rfl)⟩ (Nat.le_of_ble_eq_true rfl) (Nat.le_of_ble_eq_true rfl) (Nat.le_of_ble_eq_true rfl) ?_
    refine x_aload_n (pc := 110) dL_law_110 rfl ?_
    refine x_iconst (pc := 111) (3) dL_law_111 (by decide) ?_
    refine x_iload (pc := 112) dL_law_112 rfl ?_
    refine x_imul (pc := 114) dL_law_114 ?_
    try dsimp only
    rw [mul_3]
    refine x_iconst (pc := 115) (2) dL_law_115 (by decide) ?_
    refine x_iadd (pc := 116) dL_law_116 ?_
    try dsimp only
    rw [add_2]
    refine t_Si (pc := 117) (l_cell (by omega) (by omega)) qS_L_cell mL_L_102 dL_law_117 rfl rfl rfl ⟨(Nat.le_of_ble_eq_true rfl), (Nat.le_of_ble_eq_true rfl)⟩ (Nat.le_of_ble_eq_true rfl) (Nat.le_of_ble_eq_true rfl) (Nat.le_of_ble_eq_true rfl) ?_
    refine r_Si (pc := 120) (w_act hG hc (by omega) _ _ _) qS_L_act mL_L_106 dL_law_120 rfl rfl rfl ⟨(Nat.le_of_ble_eq_true rfl), (Nat.le_of_ble_eq_true rfl)⟩ (Nat.le_of_ble_eq_true rfl) (Nat.le_of_ble_eq_true rfl) (Nat.le_of_ble_eq_true rfl) ?_
    intro x S2 B2 hx
    obtain ⟨r, rfl, q1, hr⟩ := hx
    have hV2 := LV_rec hV (show 999 * (k : Int) ≤ 999 * (k : Int) + 999 by omega) hr
    have hn := rec_len (r := r) hG
    refine x_istore (pc := 123) dL_law_123 (Nat.le_of_ble_eq_true rfl) ?_
    refine x_aload_n (pc := 125) dL_law_125 rfl ?_
    refine x_bipush (pc := 126) (17) dL_law_126 (by decide) ?_
    refine t_Vi (pc := 128) (n_17 q1) qV_X3_count mL_L_9 dL_law_128 rfl cell_bc (nN_lt (by decide)) rfl rfl rfl ⟨(Nat.le_of_ble_eq_true rfl), (Nat.le_of_ble_eq_true rfl)⟩ (Nat.le_of_ble_eq_true rfl) (Nat.le_of_ble_eq_true rfl) (Nat.le_of_ble_eq_true rfl) ?_
    refine x_iload (pc := 131) dL_law_131 rfl ?_
    refine x_ifge (pc := 133) 141 dL_law_133 (by decide) (fun c133 => ?_) (fun c133 => ?_)
    · refine x_iload (pc := 141) dL_law_141 rfl ?_
      refine x_iconst (pc := 143) (4) dL_law_143 (by decide) ?_
      refine x_cmpne (pc := 144) 151 dL_law_144 (by decide) (fun c144 => ?_) (fun c144 => ?_)
      · refine x_iload (pc := 151) dL_law_151 rfl ?_
        refine x_iconst (pc := 153) (1) dL_law_153 (by decide) ?_
        refine x_iadd (pc := 154) dL_law_154 ?_
        refine x_cmpne (pc := 155) 194 dL_law_155 (by decide) (fun c155 => absurd (by rw [hn, if_neg c133, if_neg c144]) c155) (fun c155 => ?_)
        refine x_aload_n (pc := 158) dL_law_158 rfl ?_
        refine t_Si (pc := 159) (w_holds q1 hV2.1) qS_L_holds mL_L_95 dL_law_159 rfl rfl rfl ⟨(Nat.le_of_ble_eq_true rfl), (Nat.le_of_ble_eq_true rfl)⟩ (Nat.le_of_ble_eq_true rfl) (Nat.le_of_ble_eq_true rfl) (Nat.le_of_ble_eq_true rfl) ?_
        refine x_ifeq (pc := 162) 194 dL_law_162 (by decide) (fun c162 => absurd c162 (by decide)) (fun c162 => ?_)
        refine x_iload (pc := 165) dL_law_165 rfl ?_
        refine x_iconst (pc := 167) (3) dL_law_167 (by decide) ?_
        refine x_irem (pc := 168) dL_law_168 (by decide) ?_
        refine x_iconst (pc := 169) (2) dL_law_169 (by decide) ?_
        refine x_cmpne (pc := 170) 190 dL_law_170 (by decide) (fun c170 => ?_) (fun c170 => ?_)
        · refine x_iconst (pc := 190) (1) dL_law_190 (by decide) ?_
          refine x_goto (pc := 191) 195 dL_law_191 (by decide) ?_
          refine x_istore_n (pc := 195) dL_law_195 (Nat.le_of_ble_eq_true rfl) ?_
          refine x_iinc (pc := 196) (nI (k + 1)) dL_law_196 rfl (iinc_nI k) (Nat.le_of_ble_eq_true rfl) ?_
          refine x_goto (pc := 199) 68 dL_law_199 (by decide) ?_
          exact x_back (ih S2 B2 _ (by omega) q1 (hV2.mono (by omega))) ⟨rfl, rfl, rfl, rfl, rfl, trivial⟩
        · refine x_aload_n (pc := 173) dL_law_173 rfl ?_
          refine x_aload_n (pc := 174) dL_law_174 rfl ?_
          refine x_iconst (pc := 175) (3) dL_law_175 (by decide) ?_
          refine x_iload (pc := 176) dL_law_176 rfl ?_
          refine x_imul (pc := 178) dL_law_178 ?_
          try dsimp only
          rw [mul_3]
          refine x_iconst (pc := 179) (2) dL_law_179 (by decide) ?_
          refine x_iadd (pc := 180) dL_law_180 ?_
          try dsimp only
          rw [add_2]
          refine t_Si (pc := 181) (l_cell (by omega) (by omega)) qS_L_cell mL_L_102 dL_law_181 rfl rfl rfl ⟨(Nat.le_of_ble_eq_true rfl), (Nat.le_of_ble_eq_true rfl)⟩ (Nat.le_of_ble_eq_true rfl) (Nat.le_of_ble_eq_true rfl) (Nat.le_of_ble_eq_true rfl) ?_
          refine r_Si (pc := 184) (w_tries q1 hV2 (by omega) _) qS_L_tries mL_L_110 dL_law_184 rfl rfl rfl ⟨(Nat.le_of_ble_eq_true rfl), (Nat.le_of_ble_eq_true rfl)⟩ (Nat.le_of_ble_eq_true rfl) (Nat.le_of_ble_eq_true rfl) (Nat.le_of_ble_eq_true rfl) ?_
          intro x S3 B3 hx
          obtain ⟨rfl, w3, q2, hw3, hV3⟩ := hx
          refine x_ifeq (pc := 187) 194 dL_law_187 (by decide) (fun c187 => absurd c187 (by decide)) (fun c187 => ?_)
          refine x_iconst (pc := 190) (1) dL_law_190 (by decide) ?_
          refine x_goto (pc := 191) 195 dL_law_191 (by decide) ?_
          refine x_istore_n (pc := 195) dL_law_195 (Nat.le_of_ble_eq_true rfl) ?_
          refine x_iinc (pc := 196) (nI (k + 1)) dL_law_196 rfl (iinc_nI k) (Nat.le_of_ble_eq_true rfl) ?_
          refine x_goto (pc := 199) 68 dL_law_199 (by decide) ?_
          exact x_back (ih S3 B3 _ (by omega) q2 (hV3.mono (by omega))) ⟨rfl, rfl, rfl, rfl, rfl, trivial⟩
      · refine x_iconst (pc := 147) (4) dL_law_147 (by decide) ?_
        refine x_goto (pc := 148) 155 dL_law_148 (by decide) ?_
        refine x_cmpne (pc := 155) 194 dL_law_155 (by decide) (fun c155 => absurd (by rw [hn, if_neg c133, if_pos c144]) c155) (fun c155 => ?_)
        refine x_aload_n (pc := 158) dL_law_158 rfl ?_
        refine t_Si (pc := 159) (w_holds q1 hV2.1) qS_L_holds mL_L_95 dL_law_159 rfl rfl rfl ⟨(Nat.le_of_ble_eq_true rfl), (Nat.le_of_ble_eq_true rfl)⟩ (Nat.le_of_ble_eq_true rfl) (Nat.le_of_ble_eq_true rfl) (Nat.le_of_ble_eq_true rfl) ?_
        refine x_ifeq (pc := 162) 194 dL_law_162 (by decide) (fun c162 => absurd c162 (by decide)) (fun c162 => ?_)
        refine x_iload (pc := 165) dL_law_165 rfl ?_
        refine x_iconst (pc := 167) (3) dL_law_167 (by decide) ?_
        refine x_irem (pc := 168) dL_law_168 (by decide) ?_
        refine x_iconst (pc := 169) (2) dL_law_169 (by decide) ?_
        refine x_cmpne (pc := 170) 190 dL_law_170 (by decide) (fun c170 => ?_) (fun c170 => ?_)
        · refine x_iconst (pc := 190) (1) dL_law_190 (by decide) ?_
          refine x_goto (pc := 191) 195 dL_law_191 (by decide) ?_
          refine x_istore_n (pc := 195) dL_law_195 (Nat.le_of_ble_eq_true rfl) ?_
          refine x_iinc (pc := 196) (nI (k + 1)) dL_law_196 rfl (iinc_nI k) (Nat.le_of_ble_eq_true rfl) ?_
          refine x_goto (pc := 199) 68 dL_law_199 (by decide) ?_
          exact x_back (ih S2 B2 _ (by omega) q1 (hV2.mono (by omega))) ⟨rfl, rfl, rfl, rfl, rfl, trivial⟩
        · refine x_aload_n (pc := 173) dL_law_173 rfl ?_
          refine x_aload_n (pc := 174) dL_law_174 rfl ?_
          refine x_iconst (pc := 175) (3) dL_law_175 (by decide) ?_
          refine x_iload (pc := 176) dL_law_176 rfl ?_
          refine x_imul (pc := 178) dL_law_178 ?_
          try dsimp only
          rw [mul_3]
          refine x_iconst (pc := 179) (2) dL_law_179 (by decide) ?_
          refine x_iadd (pc := 180) dL_law_180 ?_
          try dsimp only
          rw [add_2]
          refine t_Si (pc := 181) (l_cell (by omega) (by omega)) qS_L_cell mL_L_102 dL_law_181 rfl rfl rfl ⟨(Nat.le_of_ble_eq_true rfl), (Nat.le_of_ble_eq_true rfl)⟩ (Nat.le_of_ble_eq_true rfl) (Nat.le_of_ble_eq_true rfl) (Nat.le_of_ble_eq_true rfl) ?_
          refine r_Si (pc := 184) (w_tries q1 hV2 (by omega) _) qS_L_tries mL_L_110 dL_law_184 rfl rfl rfl ⟨(Nat.le_of_ble_eq_true rfl), (Nat.le_of_ble_eq_true rfl)⟩ (Nat.le_of_ble_eq_true rfl) (Nat.le_of_ble_eq_true rfl) (Nat.le_of_ble_eq_true rfl) ?_
          intro x S3 B3 hx
          obtain ⟨rfl, w3, q2, hw3, hV3⟩ := hx
          refine x_ifeq (pc := 187) 194 dL_law_187 (by decide) (fun c187 => absurd c187 (by decide)) (fun c187 => ?_)
          refine x_iconst (pc := 190) (1) dL_law_190 (by decide) ?_
          refine x_goto (pc := 191) 195 dL_law_191 (by decide) ?_
          refine x_istore_n (pc := 195) dL_law_195 (Nat.le_of_ble_eq_true rfl) ?_
          refine x_iinc (pc := 196) (nI (k + 1)) dL_law_196 rfl (iinc_nI k) (Nat.le_of_ble_eq_true rfl) ?_
          refine x_goto (pc := 199) 68 dL_law_199 (by decide) ?_
          exact x_back (ih S3 B3 _ (by omega) q2 (hV3.mono (by omega))) ⟨rfl, rfl, rfl, rfl, rfl, trivial⟩
    · refine x_iload (pc := 136) dL_law_136 rfl ?_
      refine x_goto (pc := 138) 155 dL_law_138 (by decide) ?_
      refine x_cmpne (pc := 155) 194 dL_law_155 (by decide) (fun c155 => absurd (by rw [hn, if_pos c133]) c155) (fun c155 => ?_)
      refine x_aload_n (pc := 158) dL_law_158 rfl ?_
      refine t_Si (pc := 159) (w_holds q1 hV2.1) qS_L_holds mL_L_95 dL_law_159 rfl rfl rfl ⟨(Nat.le_of_ble_eq_true rfl), (Nat.le_of_ble_eq_true rfl)⟩ (Nat.le_of_ble_eq_true rfl) (Nat.le_of_ble_eq_true rfl) (Nat.le_of_ble_eq_true rfl) ?_
      refine x_ifeq (pc := 162) 194 dL_law_162 (by decide) (fun c162 => absurd c162 (by decide)) (fun c162 => ?_)
      refine x_iload (pc := 165) dL_law_165 rfl ?_
      refine x_iconst (pc := 167) (3) dL_law_167 (by decide) ?_
      refine x_irem (pc := 168) dL_law_168 (by decide) ?_
      refine x_iconst (pc := 169) (2) dL_law_169 (by decide) ?_
      refine x_cmpne (pc := 170) 190 dL_law_170 (by decide) (fun c170 => ?_) (fun c170 => ?_)
      · refine x_iconst (pc := 190) (1) dL_law_190 (by decide) ?_
        refine x_goto (pc := 191) 195 dL_law_191 (by decide) ?_
        refine x_istore_n (pc := 195) dL_law_195 (Nat.le_of_ble_eq_true rfl) ?_
        refine x_iinc (pc := 196) (nI (k + 1)) dL_law_196 rfl (iinc_nI k) (Nat.le_of_ble_eq_true rfl) ?_
        refine x_goto (pc := 199) 68 dL_law_199 (by decide) ?_
        exact x_back (ih S2 B2 _ (by omega) q1 (hV2.mono (by omega))) ⟨rfl, rfl, rfl, rfl, rfl, trivial⟩
      · refine x_aload_n (pc := 173) dL_law_173 rfl ?_
        refine x_aload_n (pc := 174) dL_law_174 rfl ?_
        refine x_iconst (pc := 175) (3) dL_law_175 (by decide) ?_
        refine x_iload (pc := 176) dL_law_176 rfl ?_
        refine x_imul (pc := 178) dL_law_178 ?_
        try dsimp only
        rw [mul_3]
        refine x_iconst (pc := 179) (2) dL_law_179 (by decide) ?_
        refine x_iadd (pc := 180) dL_law_180 ?_
        try dsimp only
        rw [add_2]
        refine t_Si (pc := 181) (l_cell (by omega) (by omega)) qS_L_cell mL_L_102 dL_law_181 rfl rfl rfl ⟨(Nat.le_of_ble_eq_true rfl), (Nat.le_of_ble_eq_true rfl)⟩ (Nat.le_of_ble_eq_true rfl) (Nat.le_of_ble_eq_true rfl) (Nat.le_of_ble_eq_true rfl) ?_
        refine r_Si (pc := 184) (w_tries q1 hV2 (by omega) _) qS_L_tries mL_L_110 dL_law_184 rfl rfl rfl ⟨(Nat.le_of_ble_eq_true rfl), (Nat.le_of_ble_eq_true rfl)⟩ (Nat.le_of_ble_eq_true rfl) (Nat.le_of_ble_eq_true rfl) (Nat.le_of_ble_eq_true rfl) ?_
        intro x S3 B3 hx
        obtain ⟨rfl, w3, q2, hw3, hV3⟩ := hx
        refine x_ifeq (pc := 187) 194 dL_law_187 (by decide) (fun c187 => absurd c187 (by decide)) (fun c187 => ?_)
        refine x_iconst (pc := 190) (1) dL_law_190 (by decide) ?_
        refine x_goto (pc := 191) 195 dL_law_191 (by decide) ?_
        refine x_istore_n (pc := 195) dL_law_195 (Nat.le_of_ble_eq_true rfl) ?_
        refine x_iinc (pc := 196) (nI (k + 1)) dL_law_196 rfl (iinc_nI k) (Nat.le_of_ble_eq_true rfl) ?_
        refine x_goto (pc := 199) 68 dL_law_199 (by decide) ?_
        exact x_back (ih S3 B3 _ (by omega) q2 (hV3.mono (by omega))) ⟨rfl, rfl, rfl, rfl, rfl, trivial⟩
set_option maxHeartbeats 4000000 in
set_option maxRecDepth 100000 in
theorem law_from {nm : String} (hL : gL G ≤ 260) (hx : gx G = 0) : XJ G (YL nm) (lE G) lawZ 0 [(0, .ref (gb G))] [] 0 (fun _ => fr3) 0 0 := by
  obtain ⟨T0, hT0, hT87⟩ := turn_in hL
  refine x_new (pc := 0) (ci := 3) (fs := [.null, .null, .null, .null, .null, .null, .int 0, .int 0, .int 0, .int 0]) tyX3 tyX3_ok rfl nX3 mC_L_10 mN_X3 mI_X3 (fun j hj => by rcases (show j = 0 ∨ j = 1 ∨ j = 2 ∨ j = 3 ∨ j = 4 ∨ j = 5 ∨ j = 6 ∨ j = 7 ∨ j = 8 ∨ j = 9 by omega) with rfl | rfl | rfl | rfl | rfl | rfl | rfl | rfl | rfl | rfl <;> rfl) (Nat.le_of_ble_eq_true rfl) (Nat.le_of_ble_eq_true rfl) dL_law_0 (cset (cellOf G (fun _ => s0S) s0B s0M) 0 fr3) (fun q hq => by rw [show q = 0 by omega]; rfl) ?_
  refine x_dup (pc := 3) dL_law_3 rfl ?_
  refine t_I (pc := 4) (c_X3_init (F := (cellOf G (fun _ => s0S) s0B s0M)) rfl (fun j hj r hr => cell_sh hj hr) rfl rfl rfl rfl rfl rfl) qI_X3_init rfl mL_L_94 dL_law_4 rfl rfl rfl ⟨(Nat.le_of_ble_eq_true rfl), (Nat.le_of_ble_eq_true rfl)⟩ (Nat.le_of_ble_eq_true rfl) (Nat.le_of_ble_eq_true rfl) (Nat.le_of_ble_eq_true rfl) ?_
  refine x_n (n' := nN G) (by unfold nN; rw [hx]) ?_
  refine x_cks (ck' := 247) (sk' := 2667) rfl rfl ?_
  refine x_astore_n (pc := 7) dL_law_7 (Nat.le_of_ble_eq_true rfl) ?_
  refine x_aload_n (pc := 8) dL_law_8 rfl ?_
  refine t_Si (pc := 9) (w_holds s0_GC s0_VB) qS_L_holds mL_L_95 dL_law_9 rfl rfl rfl ⟨(Nat.le_of_ble_eq_true rfl), (Nat.le_of_ble_eq_true rfl)⟩ (Nat.le_of_ble_eq_true rfl) (Nat.le_of_ble_eq_true rfl) (Nat.le_of_ble_eq_true rfl) ?_
  refine x_ifeq (pc := 12) 44 dL_law_12 (by decide) (fun c12 => absurd c12 (by decide)) (fun c12 => ?_)
  refine x_aload_n (pc := 15) dL_law_15 rfl ?_
  refine e_Vi (pc := 16) (c_X3_undo s0_GC) qV_X3_undo mL_L_85 dL_law_16 rfl cell_bc (nN_lt (by decide)) rfl rfl rfl ⟨(Nat.le_of_ble_eq_true rfl), (Nat.le_of_ble_eq_true rfl)⟩ (Nat.le_of_ble_eq_true rfl) (Nat.le_of_ble_eq_true rfl) (Nat.le_of_ble_eq_true rfl) ?_
  intro a q1
  obtain ⟨S1, B1⟩ := a
  dsimp only at q1 ⊢
  refine x_bipush (pc := 19) (-5) dL_law_19 (by decide) ?_
  refine x_cmpne (pc := 21) 44 dL_law_21 (by decide) (fun c21 => absurd rfl c21) (fun c21 => ?_)
  refine x_aload_n (pc := 24) dL_law_24 rfl ?_
  refine e_Vi (pc := 25) (c_X3_restore q1) qV_X3_restore mL_L_99 dL_law_25 rfl cell_bc (nN_lt (by decide)) rfl rfl rfl ⟨(Nat.le_of_ble_eq_true rfl), (Nat.le_of_ble_eq_true rfl)⟩ (Nat.le_of_ble_eq_true rfl) (Nat.le_of_ble_eq_true rfl) (Nat.le_of_ble_eq_true rfl) ?_
  intro a q2
  obtain ⟨S2, B2⟩ := a
  dsimp only at q2 ⊢
  refine x_bipush (pc := 28) (-5) dL_law_28 (by decide) ?_
  refine x_cmpne (pc := 30) 44 dL_law_30 (by decide) (fun c30 => absurd rfl c30) (fun c30 => ?_)
  refine x_aload_n (pc := 33) dL_law_33 rfl ?_
  refine e_Vi (pc := 34) (c_X3_allTakes q2) qV_X3_allTakes mL_L_88 dL_law_34 rfl cell_bc (nN_lt (by decide)) rfl rfl rfl ⟨(Nat.le_of_ble_eq_true rfl), (Nat.le_of_ble_eq_true rfl)⟩ (Nat.le_of_ble_eq_true rfl) (Nat.le_of_ble_eq_true rfl) (Nat.le_of_ble_eq_true rfl) ?_
  intro a q3
  obtain ⟨S3, B3⟩ := a
  dsimp only at q3 ⊢
  refine x_ifne (pc := 37) 44 dL_law_37 (by decide) (fun c37 => absurd s0_all c37) (fun c37 => ?_)
  refine x_iconst (pc := 40) (1) dL_law_40 (by decide) ?_
  refine x_goto (pc := 41) 45 dL_law_41 (by decide) ?_
  refine x_istore_n (pc := 45) dL_law_45 (Nat.le_of_ble_eq_true rfl) ?_
  refine x_aload_n (pc := 46) dL_law_46 rfl ?_
  refine x_slen (pc := 47) dL_law_47 ?_
  refine x_iconst (pc := 48) (3) dL_law_48 (by decide) ?_
  refine x_idiv (pc := 49) dL_law_49 (by decide) ?_
  refine x_bipush (pc := 50) (32) dL_law_50 (by decide) ?_
  refine x_cmple (pc := 52) 60 dL_law_52 (by decide) (fun c52 => ?_) (fun c52 => ?_)
  · refine x_aload_n (pc := 60) dL_law_60 rfl ?_
    refine x_slen (pc := 61) dL_law_61 ?_
    refine x_iconst (pc := 62) (3) dL_law_62 (by decide) ?_
    refine x_idiv (pc := 63) dL_law_63 (by decide) ?_
    try dsimp only
    rw [hT0]
    refine x_istore_n (pc := 64) dL_law_64 (Nat.le_of_ble_eq_true rfl) ?_
    refine x_iconst (pc := 65) (0) dL_law_65 (by decide) ?_
    refine x_istore (pc := 66) dL_law_66 (Nat.le_of_ble_eq_true rfl) ?_
    have hT : T0 ≤ 32 := by
      have e1 : (nI T0).toInt = (T0 : Int) := nI_toInt (by omega)
      have e2 : (32 : Int32).toInt = 32 := rfl
      rw [hT0, ti_lt, e1, e2] at c52
      omega
    exact x_back (law_loop (G := G) (nm := nm) hL hT T0 0 S3 B3 _ (by omega) q3 s0_LV) ⟨rfl, rfl, rfl, rfl, rfl, trivial⟩
  · refine x_bipush (pc := 55) (32) dL_law_55 (by decide) ?_
    refine x_goto (pc := 57) 64 dL_law_57 (by decide) ?_
    refine x_istore_n (pc := 64) dL_law_64 (Nat.le_of_ble_eq_true rfl) ?_
    refine x_iconst (pc := 65) (0) dL_law_65 (by decide) ?_
    refine x_istore (pc := 66) dL_law_66 (Nat.le_of_ble_eq_true rfl) ?_
    exact x_back (law_loop (G := G) (nm := nm) (T := 32) hL (by decide) 32 0 S3 B3 _ (by omega) q3 s0_LV) ⟨rfl, rfl, rfl, rfl, rfl, trivial⟩
end LAW
