/-! the law's own methods: what is asked of the object; cell, low, isInside, isEdge, edgeIn, off, goes (rows laid by wip/p25/p28.py) -/
theorem x_iincW {G : GX} {y : YX} {E : State → Prop} {Z : ZX} {pc : Nat} {l : List (Nat × Value)} {stk : List Value} {n : Nat} {cs : Nat → va_E} {ck sk : Nat} {k : Nat} {q : Int} {v : Int32} (w : Int32) (hd : decode y.1 pc = .ok (.iinc k q, 6)) (hl : lk l k = some (.int v)) (hw : v + Int32.ofInt q = w) (hn : k < y.2.1) (kk : XJ G y E Z (pc + 6) ((k, .int w) :: l) stk n cs ck sk) : XJ G y E Z pc l stk n cs ck sk := by
  intro p e s m args below meth c H locs ls F e1 S P L
  obtain ⟨j, hj⟩ := ldd_get hl
  exact lv_iincW F.1 F.2.1 hd L.has hj hw hn rfl (fun ls' h' => kk p e s m args below meth c H locs ls' F e1 S P (L.put rfl h'))
/-- an answer and a state that are told by a property -/
def Rx (G : GX) (M : Md) (Pp : Int32 → (Nat → Sh) → Bc → Prop) : Option Value → Nat → (Nat → va_E) → Prop := fun v n cs => ∃ (x : Int32) (S : Nat → Sh) (B : Bc), v = some (.int x) ∧ n = nN G ∧ cs = cellOf G S B M ∧ Pp x S B
section RXR
variable {G : GX} {y : YX} {E : State → Prop} {Z : ZX} {pc : Nat} {l : List (Nat × Value)} {stk : List Value} {ck sk : Nat}
variable {S : Nat → Sh} {B : Bc} {M : Md}
theorem r_Vi {ynm : MethodName} {yc : YX} {idx o ci : Nat} {fs As rest : List Value} {T : u_T} {N : Nat} {Pp : Int32 → (Nat → Sh) → Bc → Prop} (hM : Ct G ynm yc 0 0 (.ref (gB G + o) :: As) (nN G) (cellOf G S B M) (Rx G M Pp)) (hq : MqV ynm yc As.length) (hlink : Cond.methodLink y.2.2.1 idx ynm ∈ WS) (hd : decode y.1 pc = .ok (.invokevirtual idx, 3)) (hstk : stk = As.reverse ++ .ref (gB G + o) :: rest) (hcell : cellOf G S B M o = .inr (ci, fs)) (ho : o < nN G) (hc : vwCl[ci]? = some (ynm.cls, T, N)) (hrc : yc.2.2.2.1.cells = 0) (hrs : yc.2.2.2.1.slots = 0) (hR : yc.2.2.2.1.frames + 1 ≤ y.2.2.2.1.frames ∧ 8 + (yc.2.1 + 11) + yc.2.2.2.1.locals ≤ y.2.2.2.1.locals) (hW : (rest.map fun v => v.category).sum ≤ 8) (h1 : ck ≤ y.2.2.2.1.cells) (h2 : sk ≤ y.2.2.2.1.slots)
    (kk : ∀ x S' B', Pp x S' B' → XJ G y E Z (pc + 3) l (.int x :: rest) (nN G) (cellOf G S' B' M) ck sk) : XJ G y E Z pc l stk (nN G) (cellOf G S B M) ck sk :=
  x_callV hM hq hlink hd hstk hcell ho hc hrc hrs hR hW h1 h2 (fun v n' cs' h => by obtain ⟨x, S', B', rfl, rfl, rfl, h⟩ := h; exact kk x S' B' h)
theorem r_Si {ynm : MethodName} {yc : YX} {idx : Nat} {As rest : List Value} {Pp : Int32 → (Nat → Sh) → Bc → Prop} (hM : Ct G ynm yc 0 0 As (nN G) (cellOf G S B M) (Rx G M Pp)) (hq : MqS ynm yc As.length) (hlink : Cond.methodLink y.2.2.1 idx ynm ∈ WS) (hd : decode y.1 pc = .ok (.invokestatic idx, 3)) (hstk : stk = As.reverse ++ rest) (hrc : yc.2.2.2.1.cells = 0) (hrs : yc.2.2.2.1.slots = 0) (hR : yc.2.2.2.1.frames + 1 ≤ y.2.2.2.1.frames ∧ 8 + (yc.2.1 + 11) + yc.2.2.2.1.locals ≤ y.2.2.2.1.locals) (hW : (rest.map fun v => v.category).sum ≤ 8) (h1 : ck ≤ y.2.2.2.1.cells) (h2 : sk ≤ y.2.2.2.1.slots)
    (kk : ∀ x S' B', Pp x S' B' → XJ G y E Z (pc + 3) l (.int x :: rest) (nN G) (cellOf G S' B' M) ck sk) : XJ G y E Z pc l stk (nN G) (cellOf G S B M) ck sk :=
  x_callS hM hq hlink hd hstk hrc hrs hR hW h1 h2 (fun v n' cs' h => by obtain ⟨x, S', B', rfl, rfl, rfl, h⟩ := h; exact kk x S' B' h)
/-- a call of the object whose answer is known -/
theorem ct_ans {ynm : MethodName} {yc : YX} {As : List Value} {v v' : Int32} (h : Ct G ynm yc 0 0 As (nN G) (cellOf G S B M) (Rt G (some (.int v)) S B M)) (e : v = v') : Ct G ynm yc 0 0 As (nN G) (cellOf G S B M) (Rt G (some (.int v')) S B M) := by
  subst e; exact h
end RXR
section ASK
variable {G : GX} {S : Nat → Sh} {B : Bc} {M : Md} {w : Wt} {k : Nat}
theorem kn_t {A : Ab} (h12 : A.1 ≤ 12) (hk : k < A.1) : knB A (nI k) = true ∧ (nI k).toNatClampNeg = k := ⟨knB_nI h12 hk, nI_clamp (by omega)⟩
theorem kn_f (A : Ab) : knB A (nI A.1) = false := by
  have h : ¬ nI A.1 < nI A.1 := fun h => Int32.lt_irrefl h
  simp only [knB, h, decide_false, Bool.and_false, Bool.false_and]
theorem s_0 (hG : GC S B w) (hk : k < w.1.1) : Ct G yX3_shape YX3_shape 0 0 [.ref (gB G + 0), .int (nI k), .int 0] (nN G) (cellOf G S B M) (Rt G (some (.int (w.1.2.2.2.2 k 0))) S B M) := by
  obtain ⟨e1, e2⟩ := kn_t hG.1.le hk
  refine ct_ans (c_X3_shape hG (nI k) 0) ?_
  unfold factX
  rw [if_pos e1, e2]
  rfl
theorem s_1 (hG : GC S B w) (hk : k < w.1.1) : Ct G yX3_shape YX3_shape 0 0 [.ref (gB G + 0), .int (nI k), .int 1] (nN G) (cellOf G S B M) (Rt G (some (.int (w.1.2.2.2.2 k 1))) S B M) := by
  obtain ⟨e1, e2⟩ := kn_t hG.1.le hk
  refine ct_ans (c_X3_shape hG (nI k) 1) ?_
  unfold factX
  rw [if_pos e1, e2]
  rfl
theorem s_2 (hG : GC S B w) (hk : k < w.1.1) : Ct G yX3_shape YX3_shape 0 0 [.ref (gB G + 0), .int (nI k), .int 2] (nN G) (cellOf G S B M) (Rt G (some (.int (w.1.2.2.2.2 k 2))) S B M) := by
  obtain ⟨e1, e2⟩ := kn_t hG.1.le hk
  refine ct_ans (c_X3_shape hG (nI k) 2) ?_
  unfold factX
  rw [if_pos e1, e2]
  rfl
theorem s_3 (hG : GC S B w) (hk : k < w.1.1) : Ct G yX3_shape YX3_shape 0 0 [.ref (gB G + 0), .int (nI k), .int 3] (nN G) (cellOf G S B M) (Rt G (some (.int (w.1.2.2.2.2 k 3))) S B M) := by
  obtain ⟨e1, e2⟩ := kn_t hG.1.le hk
  refine ct_ans (c_X3_shape hG (nI k) 3) ?_
  unfold factX
  rw [if_pos e1, e2]
  rfl
theorem s_4 (hG : GC S B w) (hk : k < w.1.1) : Ct G yX3_shape YX3_shape 0 0 [.ref (gB G + 0), .int (nI k), .int 4] (nN G) (cellOf G S B M) (Rt G (some (.int (w.1.2.2.2.2 k 4))) S B M) := by
  obtain ⟨e1, e2⟩ := kn_t hG.1.le hk
  refine ct_ans (c_X3_shape hG (nI k) 4) ?_
  unfold factX
  rw [if_pos e1, e2]
  rfl
theorem s_5 (hG : GC S B w) (hk : k < w.1.1) : Ct G yX3_shape YX3_shape 0 0 [.ref (gB G + 0), .int (nI k), .int 5] (nN G) (cellOf G S B M) (Rt G (some (.int (w.1.2.2.2.2 k 5))) S B M) := by
  obtain ⟨e1, e2⟩ := kn_t hG.1.le hk
  refine ct_ans (c_X3_shape hG (nI k) 5) ?_
  unfold factX
  rw [if_pos e1, e2]
  rfl
theorem s_6 (hG : GC S B w) (hk : k < w.1.1) : Ct G yX3_shape YX3_shape 0 0 [.ref (gB G + 0), .int (nI k), .int 6] (nN G) (cellOf G S B M) (Rt G (some (.int (oV (outO w.1.2.2.2.2 (w.1.2.2.2.2 k) w.1.1)))) S B M) := by
  obtain ⟨e1, e2⟩ := kn_t hG.1.le hk
  refine ct_ans (c_X3_shape hG (nI k) 6) ?_
  unfold factX
  rw [if_pos e1, e2]
  rfl
theorem s_7 (hG : GC S B w) (hk : k < w.1.1) : Ct G yX3_shape YX3_shape 0 0 [.ref (gB G + 0), .int (nI k), .int 7] (nN G) (cellOf G S B M) (Rt G (some (.int (setN w.1.2.2.2.2 (w.1.2.2.2.2 k) w.1.1))) S B M) := by
  obtain ⟨e1, e2⟩ := kn_t hG.1.le hk
  refine ct_ans (c_X3_shape hG (nI k) 7) ?_
  unfold factX
  rw [if_pos e1, e2]
  rfl
theorem s_8 (hG : GC S B w) (hk : k < w.1.1) : Ct G yX3_shape YX3_shape 0 0 [.ref (gB G + 0), .int (nI k), .int 8] (nN G) (cellOf G S B M) (Rt G (some (.int (edgV (w.1.2.2.2.2 k)))) S B M) := by
  obtain ⟨e1, e2⟩ := kn_t hG.1.le hk
  refine ct_ans (c_X3_shape hG (nI k) 8) ?_
  unfold factX
  rw [if_pos e1, e2]
  rfl
theorem s_9 (hG : GC S B w) (hk : k < w.1.1) : Ct G yX3_shape YX3_shape 0 0 [.ref (gB G + 0), .int (nI k), .int 9] (nN G) (cellOf G S B M) (Rt G (some (.int (w.1.2.2.2.2 k 6))) S B M) := by
  obtain ⟨e1, e2⟩ := kn_t hG.1.le hk
  refine ct_ans (c_X3_shape hG (nI k) 9) ?_
  unfold factX
  rw [if_pos e1, e2]
  rfl
theorem s_10 (hG : GC S B w) (hk : k < w.1.1) : Ct G yX3_shape YX3_shape 0 0 [.ref (gB G + 0), .int (nI k), .int 10] (nN G) (cellOf G S B M) (Rt G (some (.int (w.1.2.2.2.2 k 7))) S B M) := by
  obtain ⟨e1, e2⟩ := kn_t hG.1.le hk
  refine ct_ans (c_X3_shape hG (nI k) 10) ?_
  unfold factX
  rw [if_pos e1, e2]
  rfl
theorem s_u (hG : GC S B w) : Ct G yX3_shape YX3_shape 0 0 [.ref (gB G + 0), .int (nI w.1.1), .int 0] (nN G) (cellOf G S B M) (Rt G (some (.int (-1))) S B M) := by
  refine ct_ans (c_X3_shape hG (nI w.1.1) 0) ?_
  unfold factX
  rw [kn_f]
  rfl
theorem n_0 (hG : GC S B w) : Ct G yX3_count YX3_count 0 0 [.ref (gB G + 0), .int 0] (nN G) (cellOf G S B M) (Rt G (some (.int (nI w.1.1))) S B M) := ct_ans (c_X3_count hG 0) rfl
theorem n_1 (hG : GC S B w) : Ct G yX3_count YX3_count 0 0 [.ref (gB G + 0), .int 1] (nN G) (cellOf G S B M) (Rt G (some (.int (cntN w.1.2.2.2.2 0 w.1.1))) S B M) := ct_ans (c_X3_count hG 1) rfl
theorem n_2 (hG : GC S B w) : Ct G yX3_count YX3_count 0 0 [.ref (gB G + 0), .int 2] (nN G) (cellOf G S B M) (Rt G (some (.int (cntN w.1.2.2.2.2 1 w.1.1))) S B M) := ct_ans (c_X3_count hG 2) rfl
theorem n_3 (hG : GC S B w) : Ct G yX3_count YX3_count 0 0 [.ref (gB G + 0), .int 3] (nN G) (cellOf G S B M) (Rt G (some (.int (cntN w.1.2.2.2.2 2 w.1.1))) S B M) := ct_ans (c_X3_count hG 3) rfl
theorem n_4 (hG : GC S B w) : Ct G yX3_count YX3_count 0 0 [.ref (gB G + 0), .int 4] (nN G) (cellOf G S B M) (Rt G (some (.int (tilN w.1.2.2.2.2 w.1.1))) S B M) := ct_ans (c_X3_count hG 4) rfl
theorem n_5 (hG : GC S B w) : Ct G yX3_count YX3_count 0 0 [.ref (gB G + 0), .int 5] (nN G) (cellOf G S B M) (Rt G (some (.int (w.1.2.1 3))) S B M) := ct_ans (c_X3_count hG 5) rfl
theorem n_6 (hG : GC S B w) : Ct G yX3_count YX3_count 0 0 [.ref (gB G + 0), .int 6] (nN G) (cellOf G S B M) (Rt G (some (.int (w.1.2.1 1))) S B M) := ct_ans (c_X3_count hG 6) rfl
theorem n_7 (hG : GC S B w) : Ct G yX3_count YX3_count 0 0 [.ref (gB G + 0), .int 7] (nN G) (cellOf G S B M) (Rt G (some (.int (w.1.2.1 2))) S B M) := ct_ans (c_X3_count hG 7) rfl
theorem n_8 (hG : GC S B w) : Ct G yX3_count YX3_count 0 0 [.ref (gB G + 0), .int 8] (nN G) (cellOf G S B M) (Rt G (some (.int (w.1.2.1 4))) S B M) := ct_ans (c_X3_count hG 8) rfl
theorem n_9 (hG : GC S B w) : Ct G yX3_count YX3_count 0 0 [.ref (gB G + 0), .int 9] (nN G) (cellOf G S B M) (Rt G (some (.int (w.1.2.1 5))) S B M) := ct_ans (c_X3_count hG 9) rfl
theorem n_10 (hG : GC S B w) : Ct G yX3_count YX3_count 0 0 [.ref (gB G + 0), .int 10] (nN G) (cellOf G S B M) (Rt G (some (.int (grV w.1))) S B M) := ct_ans (c_X3_count hG 10) rfl
theorem n_11 (hG : GC S B w) : Ct G yX3_count YX3_count 0 0 [.ref (gB G + 0), .int 11] (nN G) (cellOf G S B M) (Rt G (some (.int (nI (hotN w.1.2.2.1 12)))) S B M) := ct_ans (c_X3_count hG 11) rfl
theorem n_12 (hG : GC S B w) : Ct G yX3_count YX3_count 0 0 [.ref (gB G + 0), .int 12] (nN G) (cellOf G S B M) (Rt G (some (.int (sumN w.1.2.2.1 12))) S B M) := ct_ans (c_X3_count hG 12) rfl
theorem n_14 (hG : GC S B w) : Ct G yX3_count YX3_count 0 0 [.ref (gB G + 0), .int 14] (nN G) (cellOf G S B M) (Rt G (some (.int (w.1.2.2.2.1 1))) S B M) := ct_ans (c_X3_count hG 14) rfl
theorem n_15 (hG : GC S B w) : Ct G yX3_count YX3_count 0 0 [.ref (gB G + 0), .int 15] (nN G) (cellOf G S B M) (Rt G (some (.int (w.1.2.2.2.1 2))) S B M) := ct_ans (c_X3_count hG 15) rfl
theorem n_16 (hG : GC S B w) : Ct G yX3_count YX3_count 0 0 [.ref (gB G + 0), .int 16] (nN G) (cellOf G S B M) (Rt G (some (.int (w.1.2.2.2.1 3))) S B M) := ct_ans (c_X3_count hG 16) rfl
theorem n_17 (hG : GC S B w) : Ct G yX3_count YX3_count 0 0 [.ref (gB G + 0), .int 17] (nN G) (cellOf G S B M) (Rt G (some (.int (nI w.2.1.length))) S B M) := ct_ans (c_X3_count hG 17) rfl
theorem h_q (hG : GC S B w) (hk : k < 12) : Ct G yX3_heat YX3_heat 0 0 [.ref (gB G + 0), .int (nI k)] (nN G) (cellOf G S B M) (Rt G (some (.int (w.1.2.2.1 k))) S B M) := by
  refine ct_ans (c_X3_heat hG (nI k)) ?_
  have e : betw (nI k) 0 11 = true := by
    have a1 : ¬ nI k < 0 := nI_pos (by omega)
    have a2 : ¬ (11 : Int32) < nI k := by
      rw [show (11 : Int32) = nI 11 from rfl, nI_ltI (by omega) (by omega)]; omega
    simp only [betw, a1, a2, decide_false, Bool.not_false, Bool.and_true]
  unfold hinV
  rw [if_pos e, nI_clamp (by omega)]
theorem h_12 (hG : GC S B w) : Ct G yX3_heat YX3_heat 0 0 [.ref (gB G + 0), .int 12] (nN G) (cellOf G S B M) (Rt G (some (.int (-1))) S B M) := ct_ans (c_X3_heat hG 12) rfl
theorem r_k (hG : GC S B w) (hk : k < w.1.1) : Ct G yX3_reason YX3_reason 0 0 [.ref (gB G + 0), .int (nI k)] (nN G) (cellOf G S B M) (Rt G (some (.int (whyV w.1 k))) S B M) := by
  obtain ⟨e1, e2⟩ := kn_t hG.1.le hk
  refine ct_ans (c_X3_reason hG (nI k)) ?_
  unfold reaX
  rw [if_pos e1, e2]
theorem r_u (hG : GC S B w) : Ct G yX3_reason YX3_reason 0 0 [.ref (gB G + 0), .int (nI w.1.1)] (nN G) (cellOf G S B M) (Rt G (some (.int (-1))) S B M) := by
  refine ct_ans (c_X3_reason hG (nI w.1.1)) ?_
  unfold reaX
  rw [kn_f]
  rfl
theorem t_k (hG : GC S B w) (hk : k < w.1.1) : Ct G yX3_takes YX3_takes 0 0 [.ref (gB G + 0), .int (nI k)] (nN G) (cellOf G S B M) (Rt G (some (.int (tcV w.1 k))) S B M) := by
  obtain ⟨e1, e2⟩ := kn_t hG.1.le hk
  refine ct_ans (c_X3_takes hG (nI k)) ?_
  unfold tcX
  rw [if_pos e1, e2]
theorem k_k (hG : GC S B w) (hk : k < w.1.1) : Ct G yX3_coolsIn YX3_coolsIn 0 0 [.ref (gB G + 0), .int (nI k)] (nN G) (cellOf G S B M) (Rt G (some (.int (kcV w.1 k))) S B M) := by
  obtain ⟨e1, e2⟩ := kn_t hG.1.le hk
  refine ct_ans (c_X3_coolsIn hG (nI k)) ?_
  unfold kcX
  rw [if_pos e1, e2]
def celV (G : GX) (k : Int32) : Int32 := if k < nI (gL G) then gs G k.toNatClampNeg else 40503 * k + 977
def lowV (v n : Int32) : Int32 := (v &&& 2147483647) - (v &&& 2147483647) / n * n
set_option maxHeartbeats 4000000 in
set_option maxRecDepth 100000 in
theorem l_cell (hL : gL G < 2 ^ 31) {k : Nat} (hk : k < 2 ^ 31) : Ct G yL_cell YL_cell 0 0 [.ref (gb G), .int (nI k)] (nN G) (cellOf G S B M) (Rt G (some (.int (celV G (nI k)))) S B M) := by
  refine ct_of (by decide +kernel) rfl rfl (Nat.le_of_ble_eq_true rfl) (by simp [Value.category]) ?_
  refine x_sub (l' := [(0, .ref (gb G)), (1, .int (nI k))]) ⟨rfl, rfl, trivial⟩ ?_
  refine x_iload_n (pc := 0) dL_cell_0 rfl ?_
  refine x_aload_n (pc := 1) dL_cell_1 rfl ?_
  refine x_slen (pc := 2) dL_cell_2 ?_
  refine x_cmpge (pc := 3) 12 dL_cell_3 (by decide) (fun c3 => ?_) (fun c3 => ?_)
  · refine x_ldc (pc := 12) 40503 mV_L_7 dL_cell_12 ?_
    refine x_iload_n (pc := 14) dL_cell_14 rfl ?_
    refine x_imul (pc := 15) dL_cell_15 ?_
    refine x_sipush (pc := 16) (977) dL_cell_16 (by decide) ?_
    refine x_iadd (pc := 19) dL_cell_19 ?_
    exact x_iret rfl dL_cell_20 ⟨by simp only [celV, c3, if_true, if_false, not_false_eq_true, nI_clamp hk]; try rfl, rfl, rfl⟩
  · refine x_aload_n (pc := 6) dL_cell_6 rfl ?_
    refine x_iload_n (pc := 7) dL_cell_7 rfl ?_
    refine x_sld (pc := 8) k rfl ((nI_ltI hk hL).mp c3) (by omega) dL_cell_8 ?_
    refine x_goto (pc := 9) 20 dL_cell_9 (by decide) ?_
    exact x_iret rfl dL_cell_20 ⟨by simp only [celV, c3, if_true, if_false, not_false_eq_true, nI_clamp hk]; try rfl, rfl, rfl⟩
set_option maxHeartbeats 4000000 in
set_option maxRecDepth 100000 in
theorem l_low (v n : Int32) (hn : ¬ n = 0) : Ct G yL_low YL_low 0 0 [.int v, .int n] (nN G) (cellOf G S B M) (Rt G (some (.int (lowV v n))) S B M) := by
  refine ct_of (by decide +kernel) rfl rfl (Nat.le_of_ble_eq_true rfl) (by simp [Value.category]) ?_
  refine x_sub (l' := [(0, .int v), (1, .int n)]) ⟨rfl, rfl, trivial⟩ ?_
  refine x_iload_n (pc := 0) dL_low_0 rfl ?_
  refine x_ldc (pc := 1) 2147483647 mV_L_8 dL_low_1 ?_
  refine x_iand (pc := 3) dL_low_3 ?_
  refine x_iload_n (pc := 4) dL_low_4 rfl ?_
  refine x_irem (pc := 5) dL_low_5 hn ?_
  exact x_iret rfl dL_low_6 ⟨by rfl, rfl, rfl⟩
set_option maxHeartbeats 4000000 in
set_option maxRecDepth 100000 in
theorem l_isInside {j : Nat} (hG : GC S B w) (hk : k < w.1.1) (hj : j < w.1.1) : Ct G yL_isInside YL_isInside 0 0 [.ref (gB G + 0), .int (nI k), .int (nI j)] (nN G) (cellOf G S B M) (Rt G (some (.int (b01 (insB (w.1.2.2.2.2 k) (w.1.2.2.2.2 j))))) S B M) := by
  refine ct_of (by decide +kernel) rfl rfl (Nat.le_of_ble_eq_true rfl) (by simp [Value.category]) ?_
  refine x_sub (l' := [(0, .ref (gB G + 0)), (1, .int (nI k)), (2, .int (nI j))]) ⟨rfl, rfl, rfl, trivial⟩ ?_
  refine x_aload_n (pc := 0) dL_isInside_0 rfl ?_
  refine x_iload_n (pc := 1) dL_isInside_1 rfl ?_
  refine x_iconst (pc := 2) (0) dL_isInside_2 (by decide) ?_
  refine t_Vi (pc := 3) (s_0 hG hk) qV_X3_shape mL_L_45 dL_isInside_3 rfl cell_bc (nN_lt (by decide)) rfl rfl rfl ⟨by decide, by decide⟩ (Nat.le_of_ble_eq_true rfl) (Nat.le_of_ble_eq_true rfl) (Nat.le_of_ble_eq_true rfl) ?_
  refine x_aload_n (pc := 6) dL_isInside_6 rfl ?_
  refine x_iload_n (pc := 7) dL_isInside_7 rfl ?_
  refine x_iconst (pc := 8) (0) dL_isInside_8 (by decide) ?_
  refine t_Vi (pc := 9) (s_0 hG hj) qV_X3_shape mL_L_45 dL_isInside_9 rfl cell_bc (nN_lt (by decide)) rfl rfl rfl ⟨by decide, by decide⟩ (Nat.le_of_ble_eq_true rfl) (Nat.le_of_ble_eq_true rfl) (Nat.le_of_ble_eq_true rfl) ?_
  refine x_cmple (pc := 12) 48 dL_isInside_12 (by decide) (fun c12 => ?_) (fun c12 => ?_)
  · refine x_iconst (pc := 48) (0) dL_isInside_48 (by decide) ?_
    refine x_istore_n (pc := 49) dL_isInside_49 (by decide) ?_
    refine x_iload_n (pc := 50) dL_isInside_50 rfl ?_
    refine x_ifeq (pc := 51) 102 dL_isInside_51 (by decide) (fun _ => ?_) (fun h => absurd h (by decide))
    refine x_iconst (pc := 102) (0) dL_isInside_102 (by decide) ?_
    exact x_zret rfl rfl dL_isInside_103 ⟨by simp only [b01, insB, *, decide_true, decide_false, decide_not, Bool.and_true, Bool.true_and, Bool.and_false, Bool.false_and, Bool.or_true, Bool.true_or, Bool.or_false, Bool.false_or, Bool.not_true, Bool.not_false, if_true, if_false, not_true, not_false_eq_true, not_false_iff, Bool.false_eq_true, reduceIte, or_true, true_or, or_false, false_or, and_true, true_and, and_false, false_and, ite_self], rfl, rfl⟩
  · refine x_aload_n (pc := 15) dL_isInside_15 rfl ?_
    refine x_iload_n (pc := 16) dL_isInside_16 rfl ?_
    refine x_iconst (pc := 17) (0) dL_isInside_17 (by decide) ?_
    refine t_Vi (pc := 18) (s_0 hG hk) qV_X3_shape mL_L_45 dL_isInside_18 rfl cell_bc (nN_lt (by decide)) rfl rfl rfl ⟨by decide, by decide⟩ (Nat.le_of_ble_eq_true rfl) (Nat.le_of_ble_eq_true rfl) (Nat.le_of_ble_eq_true rfl) ?_
    refine x_aload_n (pc := 21) dL_isInside_21 rfl ?_
    refine x_iload_n (pc := 22) dL_isInside_22 rfl ?_
    refine x_iconst (pc := 23) (2) dL_isInside_23 (by decide) ?_
    refine t_Vi (pc := 24) (s_2 hG hk) qV_X3_shape mL_L_45 dL_isInside_24 rfl cell_bc (nN_lt (by decide)) rfl rfl rfl ⟨by decide, by decide⟩ (Nat.le_of_ble_eq_true rfl) (Nat.le_of_ble_eq_true rfl) (Nat.le_of_ble_eq_true rfl) ?_
    refine x_iadd (pc := 27) dL_isInside_27 ?_
    refine x_aload_n (pc := 28) dL_isInside_28 rfl ?_
    refine x_iload_n (pc := 29) dL_isInside_29 rfl ?_
    refine x_iconst (pc := 30) (0) dL_isInside_30 (by decide) ?_
    refine t_Vi (pc := 31) (s_0 hG hj) qV_X3_shape mL_L_45 dL_isInside_31 rfl cell_bc (nN_lt (by decide)) rfl rfl rfl ⟨by decide, by decide⟩ (Nat.le_of_ble_eq_true rfl) (Nat.le_of_ble_eq_true rfl) (Nat.le_of_ble_eq_true rfl) ?_
    refine x_aload_n (pc := 34) dL_isInside_34 rfl ?_
    refine x_iload_n (pc := 35) dL_isInside_35 rfl ?_
    refine x_iconst (pc := 36) (2) dL_isInside_36 (by decide) ?_
    refine t_Vi (pc := 37) (s_2 hG hj) qV_X3_shape mL_L_45 dL_isInside_37 rfl cell_bc (nN_lt (by decide)) rfl rfl rfl ⟨by decide, by decide⟩ (Nat.le_of_ble_eq_true rfl) (Nat.le_of_ble_eq_true rfl) (Nat.le_of_ble_eq_true rfl) ?_
    refine x_iadd (pc := 40) dL_isInside_40 ?_
    refine x_cmpge (pc := 41) 48 dL_isInside_41 (by decide) (fun c41 => ?_) (fun c41 => ?_)
    · refine x_iconst (pc := 48) (0) dL_isInside_48 (by decide) ?_
      refine x_istore_n (pc := 49) dL_isInside_49 (by decide) ?_
      refine x_iload_n (pc := 50) dL_isInside_50 rfl ?_
      refine x_ifeq (pc := 51) 102 dL_isInside_51 (by decide) (fun _ => ?_) (fun h => absurd h (by decide))
      refine x_iconst (pc := 102) (0) dL_isInside_102 (by decide) ?_
      exact x_zret rfl rfl dL_isInside_103 ⟨by simp only [b01, insB, *, decide_true, decide_false, decide_not, Bool.and_true, Bool.true_and, Bool.and_false, Bool.false_and, Bool.or_true, Bool.true_or, Bool.or_false, Bool.false_or, Bool.not_true, Bool.not_false, if_true, if_false, not_true, not_false_eq_true, not_false_iff, Bool.false_eq_true, reduceIte, or_true, true_or, or_false, false_or, and_true, true_and, and_false, false_and, ite_self], rfl, rfl⟩
    · refine x_iconst (pc := 44) (1) dL_isInside_44 (by decide) ?_
      refine x_goto (pc := 45) 49 dL_isInside_45 (by decide) ?_
      refine x_istore_n (pc := 49) dL_isInside_49 (by decide) ?_
      refine x_iload_n (pc := 50) dL_isInside_50 rfl ?_
      refine x_ifeq (pc := 51) 102 dL_isInside_51 (by decide) (fun h => absurd h (by decide)) (fun _ => ?_)
      refine x_aload_n (pc := 54) dL_isInside_54 rfl ?_
      refine x_iload_n (pc := 55) dL_isInside_55 rfl ?_
      refine x_iconst (pc := 56) (1) dL_isInside_56 (by decide) ?_
      refine t_Vi (pc := 57) (s_1 hG hk) qV_X3_shape mL_L_45 dL_isInside_57 rfl cell_bc (nN_lt (by decide)) rfl rfl rfl ⟨by decide, by decide⟩ (Nat.le_of_ble_eq_true rfl) (Nat.le_of_ble_eq_true rfl) (Nat.le_of_ble_eq_true rfl) ?_
      refine x_aload_n (pc := 60) dL_isInside_60 rfl ?_
      refine x_iload_n (pc := 61) dL_isInside_61 rfl ?_
      refine x_iconst (pc := 62) (1) dL_isInside_62 (by decide) ?_
      refine t_Vi (pc := 63) (s_1 hG hj) qV_X3_shape mL_L_45 dL_isInside_63 rfl cell_bc (nN_lt (by decide)) rfl rfl rfl ⟨by decide, by decide⟩ (Nat.le_of_ble_eq_true rfl) (Nat.le_of_ble_eq_true rfl) (Nat.le_of_ble_eq_true rfl) ?_
      refine x_cmple (pc := 66) 102 dL_isInside_66 (by decide) (fun c66 => ?_) (fun c66 => ?_)
      · refine x_iconst (pc := 102) (0) dL_isInside_102 (by decide) ?_
        exact x_zret rfl rfl dL_isInside_103 ⟨by simp only [b01, insB, *, decide_true, decide_false, decide_not, Bool.and_true, Bool.true_and, Bool.and_false, Bool.false_and, Bool.or_true, Bool.true_or, Bool.or_false, Bool.false_or, Bool.not_true, Bool.not_false, if_true, if_false, not_true, not_false_eq_true, not_false_iff, Bool.false_eq_true, reduceIte, or_true, true_or, or_false, false_or, and_true, true_and, and_false, false_and, ite_self], rfl, rfl⟩
      · refine x_aload_n (pc := 69) dL_isInside_69 rfl ?_
        refine x_iload_n (pc := 70) dL_isInside_70 rfl ?_
        refine x_iconst (pc := 71) (1) dL_isInside_71 (by decide) ?_
        refine t_Vi (pc := 72) (s_1 hG hk) qV_X3_shape mL_L_45 dL_isInside_72 rfl cell_bc (nN_lt (by decide)) rfl rfl rfl ⟨by decide, by decide⟩ (Nat.le_of_ble_eq_true rfl) (Nat.le_of_ble_eq_true rfl) (Nat.le_of_ble_eq_true rfl) ?_
        refine x_aload_n (pc := 75) dL_isInside_75 rfl ?_
        refine x_iload_n (pc := 76) dL_isInside_76 rfl ?_
        refine x_iconst (pc := 77) (3) dL_isInside_77 (by decide) ?_
        refine t_Vi (pc := 78) (s_3 hG hk) qV_X3_shape mL_L_45 dL_isInside_78 rfl cell_bc (nN_lt (by decide)) rfl rfl rfl ⟨by decide, by decide⟩ (Nat.le_of_ble_eq_true rfl) (Nat.le_of_ble_eq_true rfl) (Nat.le_of_ble_eq_true rfl) ?_
        refine x_iadd (pc := 81) dL_isInside_81 ?_
        refine x_aload_n (pc := 82) dL_isInside_82 rfl ?_
        refine x_iload_n (pc := 83) dL_isInside_83 rfl ?_
        refine x_iconst (pc := 84) (1) dL_isInside_84 (by decide) ?_
        refine t_Vi (pc := 85) (s_1 hG hj) qV_X3_shape mL_L_45 dL_isInside_85 rfl cell_bc (nN_lt (by decide)) rfl rfl rfl ⟨by decide, by decide⟩ (Nat.le_of_ble_eq_true rfl) (Nat.le_of_ble_eq_true rfl) (Nat.le_of_ble_eq_true rfl) ?_
        refine x_aload_n (pc := 88) dL_isInside_88 rfl ?_
        refine x_iload_n (pc := 89) dL_isInside_89 rfl ?_
        refine x_iconst (pc := 90) (3) dL_isInside_90 (by decide) ?_
        refine t_Vi (pc := 91) (s_3 hG hj) qV_X3_shape mL_L_45 dL_isInside_91 rfl cell_bc (nN_lt (by decide)) rfl rfl rfl ⟨by decide, by decide⟩ (Nat.le_of_ble_eq_true rfl) (Nat.le_of_ble_eq_true rfl) (Nat.le_of_ble_eq_true rfl) ?_
        refine x_iadd (pc := 94) dL_isInside_94 ?_
        refine x_cmpge (pc := 95) 102 dL_isInside_95 (by decide) (fun c95 => ?_) (fun c95 => ?_)
        · refine x_iconst (pc := 102) (0) dL_isInside_102 (by decide) ?_
          exact x_zret rfl rfl dL_isInside_103 ⟨by simp only [b01, insB, *, decide_true, decide_false, decide_not, Bool.and_true, Bool.true_and, Bool.and_false, Bool.false_and, Bool.or_true, Bool.true_or, Bool.or_false, Bool.false_or, Bool.not_true, Bool.not_false, if_true, if_false, not_true, not_false_eq_true, not_false_iff, Bool.false_eq_true, reduceIte, or_true, true_or, or_false, false_or, and_true, true_and, and_false, false_and, ite_self], rfl, rfl⟩
        · refine x_iconst (pc := 98) (1) dL_isInside_98 (by decide) ?_
          refine x_goto (pc := 99) 103 dL_isInside_99 (by decide) ?_
          exact x_zret rfl rfl dL_isInside_103 ⟨by simp only [b01, insB, *, decide_true, decide_false, decide_not, Bool.and_true, Bool.true_and, Bool.and_false, Bool.false_and, Bool.or_true, Bool.true_or, Bool.or_false, Bool.false_or, Bool.not_true, Bool.not_false, if_true, if_false, not_true, not_false_eq_true, not_false_iff, Bool.false_eq_true, reduceIte, or_true, true_or, or_false, false_or, and_true, true_and, and_false, false_and, ite_self], rfl, rfl⟩
def onL (f : Fs) (c r : Int32) : Bool := (!decide (c - f 0 < 0) && !decide (r - f 1 < 0) && decide (c - f 0 < f 2) && decide (r - f 1 < f 3)) && (decide (c - f 0 = 0) || decide (r - f 1 = 0) || decide (c - f 0 = f 2 - 1) || decide (r - f 1 = f 3 - 1))
set_option maxHeartbeats 4000000 in
set_option maxRecDepth 100000 in
theorem l_isEdge (hG : GC S B w) (hk : k < w.1.1) (c r : Int32) : Ct G yL_isEdge YL_isEdge 0 0 [.ref (gB G + 0), .int (nI k), .int c, .int r] (nN G) (cellOf G S B M) (Rt G (some (.int (b01 (onL (w.1.2.2.2.2 k) c r)))) S B M) := by
  refine ct_of (by decide +kernel) rfl rfl (Nat.le_of_ble_eq_true rfl) (by simp [Value.category]) ?_
  refine x_sub (l' := [(0, .ref (gB G + 0)), (1, .int (nI k)), (2, .int c), (3, .int r)]) ⟨rfl, rfl, rfl, rfl, trivial⟩ ?_
  refine x_iload_n (pc := 0) dL_isEdge_0 rfl ?_
  refine x_aload_n (pc := 1) dL_isEdge_1 rfl ?_
  refine x_iload_n (pc := 2) dL_isEdge_2 rfl ?_
  refine x_iconst (pc := 3) (0) dL_isEdge_3 (by decide) ?_
  refine t_Vi (pc := 4) (s_0 hG hk) qV_X3_shape mL_L_45 dL_isEdge_4 rfl cell_bc (nN_lt (by decide)) rfl rfl rfl ⟨by decide, by decide⟩ (Nat.le_of_ble_eq_true rfl) (Nat.le_of_ble_eq_true rfl) (Nat.le_of_ble_eq_true rfl) ?_
  refine x_isub (pc := 7) dL_isEdge_7 ?_
  refine x_istore (pc := 8) dL_isEdge_8 (by decide) ?_
  refine x_iload_n (pc := 10) dL_isEdge_10 rfl ?_
  refine x_aload_n (pc := 11) dL_isEdge_11 rfl ?_
  refine x_iload_n (pc := 12) dL_isEdge_12 rfl ?_
  refine x_iconst (pc := 13) (1) dL_isEdge_13 (by decide) ?_
  refine t_Vi (pc := 14) (s_1 hG hk) qV_X3_shape mL_L_45 dL_isEdge_14 rfl cell_bc (nN_lt (by decide)) rfl rfl rfl ⟨by decide, by decide⟩ (Nat.le_of_ble_eq_true rfl) (Nat.le_of_ble_eq_true rfl) (Nat.le_of_ble_eq_true rfl) ?_
  refine x_isub (pc := 17) dL_isEdge_17 ?_
  refine x_istore (pc := 18) dL_isEdge_18 (by decide) ?_
  refine x_iload (pc := 20) dL_isEdge_20 rfl ?_
  refine x_iflt (pc := 22) 56 dL_isEdge_22 (by decide) (fun c22 => ?_) (fun c22 => ?_)
  · refine x_iconst (pc := 56) (0) dL_isEdge_56 (by decide) ?_
    refine x_istore (pc := 57) dL_isEdge_57 (by decide) ?_
    refine x_iload (pc := 59) dL_isEdge_59 rfl ?_
    refine x_ifeq (pc := 61) 104 dL_isEdge_61 (by decide) (fun _ => ?_) (fun h => absurd h (by decide))
    refine x_iconst (pc := 104) (0) dL_isEdge_104 (by decide) ?_
    exact x_zret rfl rfl dL_isEdge_105 ⟨by simp only [b01, onL, c22, decide_true, decide_false, decide_not, Bool.and_true, Bool.true_and, Bool.and_false, Bool.false_and, Bool.or_true, Bool.true_or, Bool.or_false, Bool.false_or, Bool.not_true, Bool.not_false, if_true, if_false, not_true, not_false_eq_true, not_false_iff, Bool.false_eq_true, reduceIte, or_true, true_or, or_false, false_or, and_true, true_and, and_false, false_and, ite_self]; try rfl, rfl, rfl⟩
  · refine x_iload (pc := 25) dL_isEdge_25 rfl ?_
    refine x_iflt (pc := 27) 56 dL_isEdge_27 (by decide) (fun c27 => ?_) (fun c27 => ?_)
    · refine x_iconst (pc := 56) (0) dL_isEdge_56 (by decide) ?_
      refine x_istore (pc := 57) dL_isEdge_57 (by decide) ?_
      refine x_iload (pc := 59) dL_isEdge_59 rfl ?_
      refine x_ifeq (pc := 61) 104 dL_isEdge_61 (by decide) (fun _ => ?_) (fun h => absurd h (by decide))
      refine x_iconst (pc := 104) (0) dL_isEdge_104 (by decide) ?_
      exact x_zret rfl rfl dL_isEdge_105 ⟨by simp only [b01, onL, c22, c27, decide_true, decide_false, decide_not, Bool.and_true, Bool.true_and, Bool.and_false, Bool.false_and, Bool.or_true, Bool.true_or, Bool.or_false, Bool.false_or, Bool.not_true, Bool.not_false, if_true, if_false, not_true, not_false_eq_true, not_false_iff, Bool.false_eq_true, reduceIte, or_true, true_or, or_false, false_or, and_true, true_and, and_false, false_and, ite_self]; try rfl, rfl, rfl⟩
    · refine x_iload (pc := 30) dL_isEdge_30 rfl ?_
      refine x_aload_n (pc := 32) dL_isEdge_32 rfl ?_
      refine x_iload_n (pc := 33) dL_isEdge_33 rfl ?_
      refine x_iconst (pc := 34) (2) dL_isEdge_34 (by decide) ?_
      refine t_Vi (pc := 35) (s_2 hG hk) qV_X3_shape mL_L_45 dL_isEdge_35 rfl cell_bc (nN_lt (by decide)) rfl rfl rfl ⟨by decide, by decide⟩ (Nat.le_of_ble_eq_true rfl) (Nat.le_of_ble_eq_true rfl) (Nat.le_of_ble_eq_true rfl) ?_
      refine x_cmpge (pc := 38) 56 dL_isEdge_38 (by decide) (fun c38 => ?_) (fun c38 => ?_)
      · refine x_iconst (pc := 56) (0) dL_isEdge_56 (by decide) ?_
        refine x_istore (pc := 57) dL_isEdge_57 (by decide) ?_
        refine x_iload (pc := 59) dL_isEdge_59 rfl ?_
        refine x_ifeq (pc := 61) 104 dL_isEdge_61 (by decide) (fun _ => ?_) (fun h => absurd h (by decide))
        refine x_iconst (pc := 104) (0) dL_isEdge_104 (by decide) ?_
        exact x_zret rfl rfl dL_isEdge_105 ⟨by simp only [b01, onL, c22, c27, c38, decide_true, decide_false, decide_not, Bool.and_true, Bool.true_and, Bool.and_false, Bool.false_and, Bool.or_true, Bool.true_or, Bool.or_false, Bool.false_or, Bool.not_true, Bool.not_false, if_true, if_false, not_true, not_false_eq_true, not_false_iff, Bool.false_eq_true, reduceIte, or_true, true_or, or_false, false_or, and_true, true_and, and_false, false_and, ite_self]; try rfl, rfl, rfl⟩
      · refine x_iload (pc := 41) dL_isEdge_41 rfl ?_
        refine x_aload_n (pc := 43) dL_isEdge_43 rfl ?_
        refine x_iload_n (pc := 44) dL_isEdge_44 rfl ?_
        refine x_iconst (pc := 45) (3) dL_isEdge_45 (by decide) ?_
        refine t_Vi (pc := 46) (s_3 hG hk) qV_X3_shape mL_L_45 dL_isEdge_46 rfl cell_bc (nN_lt (by decide)) rfl rfl rfl ⟨by decide, by decide⟩ (Nat.le_of_ble_eq_true rfl) (Nat.le_of_ble_eq_true rfl) (Nat.le_of_ble_eq_true rfl) ?_
        refine x_cmpge (pc := 49) 56 dL_isEdge_49 (by decide) (fun c49 => ?_) (fun c49 => ?_)
        · refine x_iconst (pc := 56) (0) dL_isEdge_56 (by decide) ?_
          refine x_istore (pc := 57) dL_isEdge_57 (by decide) ?_
          refine x_iload (pc := 59) dL_isEdge_59 rfl ?_
          refine x_ifeq (pc := 61) 104 dL_isEdge_61 (by decide) (fun _ => ?_) (fun h => absurd h (by decide))
          refine x_iconst (pc := 104) (0) dL_isEdge_104 (by decide) ?_
          exact x_zret rfl rfl dL_isEdge_105 ⟨by simp only [b01, onL, c22, c27, c38, c49, decide_true, decide_false, decide_not, Bool.and_true, Bool.true_and, Bool.and_false, Bool.false_and, Bool.or_true, Bool.true_or, Bool.or_false, Bool.false_or, Bool.not_true, Bool.not_false, if_true, if_false, not_true, not_false_eq_true, not_false_iff, Bool.false_eq_true, reduceIte, or_true, true_or, or_false, false_or, and_true, true_and, and_false, false_and, ite_self]; try rfl, rfl, rfl⟩
        · refine x_iconst (pc := 52) (1) dL_isEdge_52 (by decide) ?_
          refine x_goto (pc := 53) 57 dL_isEdge_53 (by decide) ?_
          refine x_istore (pc := 57) dL_isEdge_57 (by decide) ?_
          refine x_iload (pc := 59) dL_isEdge_59 rfl ?_
          refine x_ifeq (pc := 61) 104 dL_isEdge_61 (by decide) (fun h => absurd h (by decide)) (fun _ => ?_)
          refine x_iload (pc := 64) dL_isEdge_64 rfl ?_
          refine x_ifeq (pc := 66) 100 dL_isEdge_66 (by decide) (fun c66 => ?_) (fun c66 => ?_)
          · refine x_iconst (pc := 100) (1) dL_isEdge_100 (by decide) ?_
            refine x_goto (pc := 101) 105 dL_isEdge_101 (by decide) ?_
            exact x_zret rfl rfl dL_isEdge_105 ⟨by simp only [b01, onL, c22, c27, c38, c49, eq_true c66, decide_true, decide_false, decide_not, Bool.and_true, Bool.true_and, Bool.and_false, Bool.false_and, Bool.or_true, Bool.true_or, Bool.or_false, Bool.false_or, Bool.not_true, Bool.not_false, if_true, if_false, not_true, not_false_eq_true, not_false_iff, Bool.false_eq_true, reduceIte, or_true, true_or, or_false, false_or, and_true, true_and, and_false, false_and, ite_self]; try rfl, rfl, rfl⟩
          · refine x_iload (pc := 69) dL_isEdge_69 rfl ?_
            refine x_ifeq (pc := 71) 100 dL_isEdge_71 (by decide) (fun c71 => ?_) (fun c71 => ?_)
            · refine x_iconst (pc := 100) (1) dL_isEdge_100 (by decide) ?_
              refine x_goto (pc := 101) 105 dL_isEdge_101 (by decide) ?_
              exact x_zret rfl rfl dL_isEdge_105 ⟨by simp only [b01, onL, c22, c27, c38, c49, c66, eq_true c71, decide_true, decide_false, decide_not, Bool.and_true, Bool.true_and, Bool.and_false, Bool.false_and, Bool.or_true, Bool.true_or, Bool.or_false, Bool.false_or, Bool.not_true, Bool.not_false, if_true, if_false, not_true, not_false_eq_true, not_false_iff, Bool.false_eq_true, reduceIte, or_true, true_or, or_false, false_or, and_true, true_and, and_false, false_and, ite_self]; try rfl, rfl, rfl⟩
            · refine x_iload (pc := 74) dL_isEdge_74 rfl ?_
              refine x_aload_n (pc := 76) dL_isEdge_76 rfl ?_
              refine x_iload_n (pc := 77) dL_isEdge_77 rfl ?_
              refine x_iconst (pc := 78) (2) dL_isEdge_78 (by decide) ?_
              refine t_Vi (pc := 79) (s_2 hG hk) qV_X3_shape mL_L_45 dL_isEdge_79 rfl cell_bc (nN_lt (by decide)) rfl rfl rfl ⟨by decide, by decide⟩ (Nat.le_of_ble_eq_true rfl) (Nat.le_of_ble_eq_true rfl) (Nat.le_of_ble_eq_true rfl) ?_
              refine x_iconst (pc := 82) (1) dL_isEdge_82 (by decide) ?_
              refine x_isub (pc := 83) dL_isEdge_83 ?_
              refine x_cmpeq (pc := 84) 100 dL_isEdge_84 (by decide) (fun c84 => ?_) (fun c84 => ?_)
              · refine x_iconst (pc := 100) (1) dL_isEdge_100 (by decide) ?_
                refine x_goto (pc := 101) 105 dL_isEdge_101 (by decide) ?_
                exact x_zret rfl rfl dL_isEdge_105 ⟨by simp only [b01, onL, c22, c27, c38, c49, c66, c71, eq_true c84, decide_true, decide_false, decide_not, Bool.and_true, Bool.true_and, Bool.and_false, Bool.false_and, Bool.or_true, Bool.true_or, Bool.or_false, Bool.false_or, Bool.not_true, Bool.not_false, if_true, if_false, not_true, not_false_eq_true, not_false_iff, Bool.false_eq_true, reduceIte, or_true, true_or, or_false, false_or, and_true, true_and, and_false, false_and, ite_self]; try rfl, rfl, rfl⟩
              · refine x_iload (pc := 87) dL_isEdge_87 rfl ?_
                refine x_aload_n (pc := 89) dL_isEdge_89 rfl ?_
                refine x_iload_n (pc := 90) dL_isEdge_90 rfl ?_
                refine x_iconst (pc := 91) (3) dL_isEdge_91 (by decide) ?_
                refine t_Vi (pc := 92) (s_3 hG hk) qV_X3_shape mL_L_45 dL_isEdge_92 rfl cell_bc (nN_lt (by decide)) rfl rfl rfl ⟨by decide, by decide⟩ (Nat.le_of_ble_eq_true rfl) (Nat.le_of_ble_eq_true rfl) (Nat.le_of_ble_eq_true rfl) ?_
                refine x_iconst (pc := 95) (1) dL_isEdge_95 (by decide) ?_
                refine x_isub (pc := 96) dL_isEdge_96 ?_
                refine x_cmpne (pc := 97) 104 dL_isEdge_97 (by decide) (fun c97 => ?_) (fun c97 => ?_)
                · refine x_iconst (pc := 104) (0) dL_isEdge_104 (by decide) ?_
                  exact x_zret rfl rfl dL_isEdge_105 ⟨by simp only [b01, onL, c22, c27, c38, c49, c66, c71, c84, c97, decide_true, decide_false, decide_not, Bool.and_true, Bool.true_and, Bool.and_false, Bool.false_and, Bool.or_true, Bool.true_or, Bool.or_false, Bool.false_or, Bool.not_true, Bool.not_false, if_true, if_false, not_true, not_false_eq_true, not_false_iff, Bool.false_eq_true, reduceIte, or_true, true_or, or_false, false_or, and_true, true_and, and_false, false_and, ite_self]; try rfl, rfl, rfl⟩
                · refine x_iconst (pc := 100) (1) dL_isEdge_100 (by decide) ?_
                  refine x_goto (pc := 101) 105 dL_isEdge_101 (by decide) ?_
                  exact x_zret rfl rfl dL_isEdge_105 ⟨by simp only [b01, onL, c22, c27, c38, c49, c66, c71, c84, eq_true c97, decide_true, decide_false, decide_not, Bool.and_true, Bool.true_and, Bool.and_false, Bool.false_and, Bool.or_true, Bool.true_or, Bool.or_false, Bool.false_or, Bool.not_true, Bool.not_false, if_true, if_false, not_true, not_false_eq_true, not_false_iff, Bool.false_eq_true, reduceIte, or_true, true_or, or_false, false_or, and_true, true_and, and_false, false_and, ite_self]; try rfl, rfl, rfl⟩
theorem onL_eq {f : Fs} (h : vF f) {c r : Int32} (hc : iR c 0 40) (hr : iR r 0 40) : onL f c r = onR f c r := by
  have e1 := h.xl
  have e2 := h.yl
  obtain ⟨c1, c2⟩ := hc
  obtain ⟨r1, r2⟩ := hr
  obtain ⟨h, -⟩ := h
  have a1 : (c - f 0).toInt = c.toInt - (f 0).toInt := ti_sub (by omega) (by omega)
  have a2 : (r - f 1).toInt = r.toInt - (f 1).toInt := ti_sub (by omega) (by omega)
  have a3 : (f 2 - 1).toInt = (f 2).toInt - 1 := by rw [ti_sub (by rw [t1]; omega) (by rw [t1]; omega), t1]
  have a4 : (f 3 - 1).toInt = (f 3).toInt - 1 := by rw [ti_sub (by rw [t1]; omega) (by rw [t1]; omega), t1]
  unfold onL onR betw
  rw [Bool.eq_iff_iff]
  simp only [Bool.and_eq_true, Bool.or_eq_true, Bool.not_eq_true', decide_eq_true_eq, decide_eq_false_iff_not, ti_lt, ti_eq, e1, e2, a1, a2, a3, a4, t0]
  omega
theorem ixL : ∀ q, q < 12 → ∀ k, k < 64 → (nI q - nI q / 4 * 4) * 8 + (nI k - nI k / 8 * 8) = 8 * (nI q % 4) + nI k % 8 ∧ nI q / 4 * 8 + nI k / 8 = 8 * (nI q / 4) + nI k / 8 := by decide +kernel
theorem edgL_c {f : Fs} (h : vF f) {q : Nat} (hq : q < 12) {k : Nat} (hk : k < 64) : onL f ((nI q - nI q / 4 * 4) * 8 + (nI k - nI k / 8 * 8)) (nI q / 4 * 8 + nI k / 8) = onR f (8 * (nI q % 4) + nI k % 8) (8 * (nI q / 4) + nI k / 8) := by
  obtain ⟨e1, e2⟩ := ixL q hq k hk
  obtain ⟨i1, i2⟩ := ix8 q hq k hk
  rw [e1, e2]
  exact onL_eq h (by unfold iR; omega) (by unfold iR; omega)
def edgL (f : Fs) (q : Nat) : Nat → Int32 := cb (fun k => onL f ((nI q - nI q / 4 * 4) * 8 + (nI k - nI k / 8 * 8)) (nI q / 4 * 8 + nI k / 8))
theorem cb_c {P Q : Nat → Bool} : ∀ n, (∀ k, k < n → P k = Q k) → cb P n = cb Q n
  | 0, _ => rfl
  | n + 1, h => by simp only [cb, cb_c n (fun k hk => h k (by omega)), h n (by omega)]
theorem edgL_eq {f : Fs} (h : vF f) {q : Nat} (hq : q < 12) : edgL f q 64 = edgQ f q := by
  rw [← edgR_eq h hq]
  exact cb_c 64 (fun k hk => edgL_c h hq hk)
set_option maxHeartbeats 4000000 in
set_option maxRecDepth 100000 in
theorem l_edgeIn {q : Nat} (hG : GC S B w) (hv : vF (w.1.2.2.2.2 k)) (hk : k < w.1.1) (hq : q < 12) : Ct G yL_edgeIn YL_edgeIn 0 0 [.ref (gB G + 0), .int (nI k), .int (nI q)] (nN G) (cellOf G S B M) (Rt G (some (.int (edgQ (w.1.2.2.2.2 k) q))) S B M) := by
  refine ct_of (by decide +kernel) rfl rfl (Nat.le_of_ble_eq_true rfl) (by simp [Value.category]) ?_
  refine x_sub (l' := [(0, .ref (gB G + 0)), (1, .int (nI k)), (2, .int (nI q))]) ⟨rfl, rfl, rfl, trivial⟩ ?_
  have lp : ∀ j, j ≤ 64 → XJ G YL_edgeIn (fun _ => True) (Zx G (Rt G (some (.int (edgQ (w.1.2.2.2.2 k) q))) S B M) 0 0) 5 [(0, .ref (gB G + 0)), (1, .int (nI k)), (2, .int (nI q)), (3, .int (edgL (w.1.2.2.2.2 k) q j)), (4, .int (nI j))] [] (nN G) (cellOf G S B M) 0 0 := by
    refine loopD (64) ?_
    intro j hj ih
    refine x_iload (pc := 5) dL_edgeIn_5 rfl ?_
    refine x_bipush (pc := 7) (64) dL_edgeIn_7 (by decide) ?_
    refine x_cmpge (pc := 9) 58 dL_edgeIn_9 (by decide) (fun c9 => ?_) (fun c9 => ?_)
    · obtain rfl : j = 64 := by have := mt (lt_lit (n := 64) rfl (by decide) (by omega)).mpr c9; omega
      refine x_iload_n (pc := 58) dL_edgeIn_58 rfl ?_
      exact x_iret rfl dL_edgeIn_59 ⟨by rw [edgL_eq hv hq], rfl, rfl⟩
    · have hjn : j < 64 := (lt_lit rfl (by decide) (by omega)).mp c9
      refine x_iload_n (pc := 12) dL_edgeIn_12 rfl ?_
      refine x_aload_n (pc := 13) dL_edgeIn_13 rfl ?_
      refine x_iload_n (pc := 14) dL_edgeIn_14 rfl ?_
      refine x_iload_n (pc := 15) dL_edgeIn_15 rfl ?_
      refine x_iconst (pc := 16) (4) dL_edgeIn_16 (by decide) ?_
      refine x_irem (pc := 17) dL_edgeIn_17 (by decide) ?_
      refine x_bipush (pc := 18) (8) dL_edgeIn_18 (by decide) ?_
      refine x_imul (pc := 20) dL_edgeIn_20 ?_
      refine x_iload (pc := 21) dL_edgeIn_21 rfl ?_
      refine x_bipush (pc := 23) (8) dL_edgeIn_23 (by decide) ?_
      refine x_irem (pc := 25) dL_edgeIn_25 (by decide) ?_
      refine x_iadd (pc := 26) dL_edgeIn_26 ?_
      refine x_iload_n (pc := 27) dL_edgeIn_27 rfl ?_
      refine x_iconst (pc := 28) (4) dL_edgeIn_28 (by decide) ?_
      refine x_idiv (pc := 29) dL_edgeIn_29 (by decide) ?_
      refine x_bipush (pc := 30) (8) dL_edgeIn_30 (by decide) ?_
      refine x_imul (pc := 32) dL_edgeIn_32 ?_
      refine x_iload (pc := 33) dL_edgeIn_33 rfl ?_
      refine x_bipush (pc := 35) (8) dL_edgeIn_35 (by decide) ?_
      refine x_idiv (pc := 37) dL_edgeIn_37 (by decide) ?_
      refine x_iadd (pc := 38) dL_edgeIn_38 ?_
      refine t_Si (pc := 39) (l_isEdge hG hk _ _) qS_L_isEdge mL_L_48 dL_edgeIn_39 rfl rfl rfl ⟨by decide, by decide⟩ (Nat.le_of_ble_eq_true rfl) (Nat.le_of_ble_eq_true rfl) (Nat.le_of_ble_eq_true rfl) ?_
      refine x_ifeq (pc := 42) 49 dL_edgeIn_42 (by decide) (fun c42 => ?_) (fun c42 => ?_)
      · refine x_iconst (pc := 49) (0) dL_edgeIn_49 (by decide) ?_
        refine x_iadd (pc := 50) dL_edgeIn_50 ?_
        refine x_istore_n (pc := 51) dL_edgeIn_51 (by decide) ?_
        refine x_iinc (pc := 52) (nI (j + 1)) dL_edgeIn_52 rfl (iinc_nI j) (by decide) ?_
        refine x_goto (pc := 55) 5 dL_edgeIn_55 (by decide) ?_
        have e := ih hjn
        exact x_eq rfl rfl (x_back e ⟨rfl, rfl, rfl, by simp only [edgL, cb]; simp only [b01_eq c42]; rfl, rfl, trivial⟩)
      · refine x_iconst (pc := 45) (1) dL_edgeIn_45 (by decide) ?_
        refine x_goto (pc := 46) 50 dL_edgeIn_46 (by decide) ?_
        refine x_iadd (pc := 50) dL_edgeIn_50 ?_
        refine x_istore_n (pc := 51) dL_edgeIn_51 (by decide) ?_
        refine x_iinc (pc := 52) (nI (j + 1)) dL_edgeIn_52 rfl (iinc_nI j) (by decide) ?_
        refine x_goto (pc := 55) 5 dL_edgeIn_55 (by decide) ?_
        have e := ih hjn
        exact x_eq rfl rfl (x_back e ⟨rfl, rfl, rfl, by simp only [edgL, cb]; simp only [b01_ne c42]; rfl, rfl, trivial⟩)
  refine x_iconst (pc := 0) (0) dL_edgeIn_0 (by decide) ?_
  refine x_istore_n (pc := 1) dL_edgeIn_1 (by decide) ?_
  refine x_iconst (pc := 2) (0) dL_edgeIn_2 (by decide) ?_
  refine x_istore (pc := 3) dL_edgeIn_3 (by decide) ?_
  exact x_back (lp 0 (by decide)) ⟨rfl, rfl, rfl, rfl, rfl, trivial⟩
set_option maxHeartbeats 4000000 in
set_option maxRecDepth 100000 in
theorem l_off (a b : Int32) : Ct G yL_off YL_off 0 0 [.int a, .int b] (nN G) (cellOf G S B M) (Rt G (some (.int (offV a b))) S B M) := by
  refine ct_of (by decide +kernel) rfl rfl (Nat.le_of_ble_eq_true rfl) (by simp [Value.category]) ?_
  refine x_sub (l' := [(0, .int a), (1, .int b)]) ⟨rfl, rfl, trivial⟩ ?_
  refine x_iload_n (pc := 0) dL_off_0 rfl ?_
  refine x_iload_n (pc := 1) dL_off_1 rfl ?_
  refine x_cmple (pc := 2) 11 dL_off_2 (by decide) (fun c2 => ?_) (fun c2 => ?_)
  · refine x_iload_n (pc := 11) dL_off_11 rfl ?_
    refine x_iload_n (pc := 12) dL_off_12 rfl ?_
    refine x_isub (pc := 13) dL_off_13 ?_
    exact x_iret rfl dL_off_14 ⟨by simp only [offV, *, decide_true, decide_false, decide_not, Bool.and_true, Bool.true_and, Bool.and_false, Bool.false_and, Bool.or_true, Bool.true_or, Bool.or_false, Bool.false_or, Bool.not_true, Bool.not_false, if_true, if_false, not_true, not_false_eq_true, not_false_iff, Bool.false_eq_true, reduceIte, or_true, true_or, or_false, false_or, and_true, true_and, and_false, false_and, ite_self], rfl, rfl⟩
  · refine x_iload_n (pc := 5) dL_off_5 rfl ?_
    refine x_iload_n (pc := 6) dL_off_6 rfl ?_
    refine x_isub (pc := 7) dL_off_7 ?_
    refine x_goto (pc := 8) 14 dL_off_8 (by decide) ?_
    exact x_iret rfl dL_off_14 ⟨by simp only [offV, *, decide_true, decide_false, decide_not, Bool.and_true, Bool.true_and, Bool.and_false, Bool.false_and, Bool.or_true, Bool.true_or, Bool.or_false, Bool.false_or, Bool.not_true, Bool.not_false, if_true, if_false, not_true, not_false_eq_true, not_false_iff, Bool.false_eq_true, reduceIte, or_true, true_or, or_false, false_or, and_true, true_and, and_false, false_and, ite_self], rfl, rfl⟩
theorem as_1 (a b c : Int32) : a + (b - c) = a + b - c := by simp only [Int32.sub_eq_add_neg, Int32.add_assoc]
theorem lead_4 {f : Fs} (h : vF f) : (f 4 = 0 ∨ f 4 = 1) ∨ f 4 = 2 ∨ f 4 = 3 := by
  have h := h.2.1
  simp only [ti_eq, t0, t1, t2, t3]
  omega
set_option maxHeartbeats 4000000 in
set_option maxRecDepth 100000 in
theorem l_goes (hG : GC S B w) (hV : VA w.1) (hk : k < w.1.1) : Ct G yL_goes YL_goes 0 0 [.ref (gB G + 0), .int (nI k)] (nN G) (cellOf G S B M) (Rt G (some (.int (wayV w.1 k))) S B M) := by
  refine ct_of (by decide +kernel) rfl rfl (Nat.le_of_ble_eq_true rfl) (by simp [Value.category]) ?_
  refine x_sub (l' := [(0, .ref (gB G + 0)), (1, .int (nI k))]) ⟨rfl, rfl, trivial⟩ ?_
  have h4 := lead_4 (hV.sh hk)
  have e4 := wayR_eq hV hk
  refine x_aload_n (pc := 0) dL_goes_0 rfl ?_
  refine x_iload_n (pc := 1) dL_goes_1 rfl ?_
  refine x_iconst (pc := 2) (4) dL_goes_2 (by decide) ?_
  refine t_Vi (pc := 3) (s_4 hG hk) qV_X3_shape mL_L_45 dL_goes_3 rfl cell_bc (nN_lt (by decide)) rfl rfl rfl ⟨by decide, by decide⟩ (Nat.le_of_ble_eq_true rfl) (Nat.le_of_ble_eq_true rfl) (Nat.le_of_ble_eq_true rfl) ?_
  refine x_istore_n (pc := 6) dL_goes_6 (by decide) ?_
  refine x_aload_n (pc := 7) dL_goes_7 rfl ?_
  refine x_iload_n (pc := 8) dL_goes_8 rfl ?_
  refine x_iconst (pc := 9) (0) dL_goes_9 (by decide) ?_
  refine t_Vi (pc := 10) (s_0 hG hk) qV_X3_shape mL_L_45 dL_goes_10 rfl cell_bc (nN_lt (by decide)) rfl rfl rfl ⟨by decide, by decide⟩ (Nat.le_of_ble_eq_true rfl) (Nat.le_of_ble_eq_true rfl) (Nat.le_of_ble_eq_true rfl) ?_
  refine x_iload_n (pc := 13) dL_goes_13 rfl ?_
  refine x_iconst (pc := 14) (1) dL_goes_14 (by decide) ?_
  refine x_cmpeq (pc := 15) 23 dL_goes_15 (by decide) (fun c15 => ?_) (fun c15 => ?_)
  · refine x_aload_n (pc := 23) dL_goes_23 rfl ?_
    refine x_iload_n (pc := 24) dL_goes_24 rfl ?_
    refine x_iconst (pc := 25) (2) dL_goes_25 (by decide) ?_
    refine t_Vi (pc := 26) (s_2 hG hk) qV_X3_shape mL_L_45 dL_goes_26 rfl cell_bc (nN_lt (by decide)) rfl rfl rfl ⟨by decide, by decide⟩ (Nat.le_of_ble_eq_true rfl) (Nat.le_of_ble_eq_true rfl) (Nat.le_of_ble_eq_true rfl) ?_
    refine x_iconst (pc := 29) (1) dL_goes_29 (by decide) ?_
    refine x_isub (pc := 30) dL_goes_30 ?_
    refine x_goto (pc := 31) 35 dL_goes_31 (by decide) ?_
    refine x_iadd (pc := 35) dL_goes_35 ?_
    refine x_istore_n (pc := 36) dL_goes_36 (by decide) ?_
    refine x_aload_n (pc := 37) dL_goes_37 rfl ?_
    refine x_iload_n (pc := 38) dL_goes_38 rfl ?_
    refine x_iconst (pc := 39) (1) dL_goes_39 (by decide) ?_
    refine t_Vi (pc := 40) (s_1 hG hk) qV_X3_shape mL_L_45 dL_goes_40 rfl cell_bc (nN_lt (by decide)) rfl rfl rfl ⟨by decide, by decide⟩ (Nat.le_of_ble_eq_true rfl) (Nat.le_of_ble_eq_true rfl) (Nat.le_of_ble_eq_true rfl) ?_
    refine x_iload_n (pc := 43) dL_goes_43 rfl ?_
    refine x_iconst (pc := 44) (1) dL_goes_44 (by decide) ?_
    refine x_cmple (pc := 45) 59 dL_goes_45 (by decide) (fun c45 => ?_) (fun c45 => ?_)
    · refine x_iconst (pc := 59) (0) dL_goes_59 (by decide) ?_
      refine x_iadd (pc := 60) dL_goes_60 ?_
      refine x_istore (pc := 61) dL_goes_61 (by decide) ?_
      refine x_iload_n (pc := 63) dL_goes_63 rfl ?_
      refine x_aload_n (pc := 64) dL_goes_64 rfl ?_
      refine x_bipush (pc := 65) (6) dL_goes_65 (by decide) ?_
      refine t_Vi (pc := 67) (n_6 hG) qV_X3_count mL_L_9 dL_goes_67 rfl cell_bc (nN_lt (by decide)) rfl rfl rfl ⟨by decide, by decide⟩ (Nat.le_of_ble_eq_true rfl) (Nat.le_of_ble_eq_true rfl) (Nat.le_of_ble_eq_true rfl) ?_
      refine t_Si (pc := 70) (l_off _ _) qS_L_off mL_L_52 dL_goes_70 rfl rfl rfl ⟨by decide, by decide⟩ (Nat.le_of_ble_eq_true rfl) (Nat.le_of_ble_eq_true rfl) (Nat.le_of_ble_eq_true rfl) ?_
      refine x_iload (pc := 73) dL_goes_73 rfl ?_
      refine x_aload_n (pc := 75) dL_goes_75 rfl ?_
      refine x_bipush (pc := 76) (7) dL_goes_76 (by decide) ?_
      refine t_Vi (pc := 78) (n_7 hG) qV_X3_count mL_L_9 dL_goes_78 rfl cell_bc (nN_lt (by decide)) rfl rfl rfl ⟨by decide, by decide⟩ (Nat.le_of_ble_eq_true rfl) (Nat.le_of_ble_eq_true rfl) (Nat.le_of_ble_eq_true rfl) ?_
      refine t_Si (pc := 81) (l_off _ _) qS_L_off mL_L_52 dL_goes_81 rfl rfl rfl ⟨by decide, by decide⟩ (Nat.le_of_ble_eq_true rfl) (Nat.le_of_ble_eq_true rfl) (Nat.le_of_ble_eq_true rfl) ?_
      refine x_iadd (pc := 84) dL_goes_84 ?_
      have e5 : wayV w.1 k = offV (lcV (w.1.2.2.2.2 k)) (w.1.2.1 1) + offV (lrV (w.1.2.2.2.2 k)) (w.1.2.1 2) := e4.symm
      refine x_iret rfl dL_goes_85 ⟨?_, rfl, rfl⟩
      rw [e5]
      unfold lcV lrV
      rcases h4 with (h4 | h4) | h4 | h4 <;> simp only [h4] at c15 c45 ⊢ <;> first | (exfalso; revert c15 c45; decide) | (simp only [as_1, Int32.add_zero]; rfl)
    · refine x_aload_n (pc := 48) dL_goes_48 rfl ?_
      refine x_iload_n (pc := 49) dL_goes_49 rfl ?_
      refine x_iconst (pc := 50) (3) dL_goes_50 (by decide) ?_
      refine t_Vi (pc := 51) (s_3 hG hk) qV_X3_shape mL_L_45 dL_goes_51 rfl cell_bc (nN_lt (by decide)) rfl rfl rfl ⟨by decide, by decide⟩ (Nat.le_of_ble_eq_true rfl) (Nat.le_of_ble_eq_true rfl) (Nat.le_of_ble_eq_true rfl) ?_
      refine x_iconst (pc := 54) (1) dL_goes_54 (by decide) ?_
      refine x_isub (pc := 55) dL_goes_55 ?_
      refine x_goto (pc := 56) 60 dL_goes_56 (by decide) ?_
      refine x_iadd (pc := 60) dL_goes_60 ?_
      refine x_istore (pc := 61) dL_goes_61 (by decide) ?_
      refine x_iload_n (pc := 63) dL_goes_63 rfl ?_
      refine x_aload_n (pc := 64) dL_goes_64 rfl ?_
      refine x_bipush (pc := 65) (6) dL_goes_65 (by decide) ?_
      refine t_Vi (pc := 67) (n_6 hG) qV_X3_count mL_L_9 dL_goes_67 rfl cell_bc (nN_lt (by decide)) rfl rfl rfl ⟨by decide, by decide⟩ (Nat.le_of_ble_eq_true rfl) (Nat.le_of_ble_eq_true rfl) (Nat.le_of_ble_eq_true rfl) ?_
      refine t_Si (pc := 70) (l_off _ _) qS_L_off mL_L_52 dL_goes_70 rfl rfl rfl ⟨by decide, by decide⟩ (Nat.le_of_ble_eq_true rfl) (Nat.le_of_ble_eq_true rfl) (Nat.le_of_ble_eq_true rfl) ?_
      refine x_iload (pc := 73) dL_goes_73 rfl ?_
      refine x_aload_n (pc := 75) dL_goes_75 rfl ?_
      refine x_bipush (pc := 76) (7) dL_goes_76 (by decide) ?_
      refine t_Vi (pc := 78) (n_7 hG) qV_X3_count mL_L_9 dL_goes_78 rfl cell_bc (nN_lt (by decide)) rfl rfl rfl ⟨by decide, by decide⟩ (Nat.le_of_ble_eq_true rfl) (Nat.le_of_ble_eq_true rfl) (Nat.le_of_ble_eq_true rfl) ?_
      refine t_Si (pc := 81) (l_off _ _) qS_L_off mL_L_52 dL_goes_81 rfl rfl rfl ⟨by decide, by decide⟩ (Nat.le_of_ble_eq_true rfl) (Nat.le_of_ble_eq_true rfl) (Nat.le_of_ble_eq_true rfl) ?_
      refine x_iadd (pc := 84) dL_goes_84 ?_
      have e5 : wayV w.1 k = offV (lcV (w.1.2.2.2.2 k)) (w.1.2.1 1) + offV (lrV (w.1.2.2.2.2 k)) (w.1.2.1 2) := e4.symm
      refine x_iret rfl dL_goes_85 ⟨?_, rfl, rfl⟩
      rw [e5]
      unfold lcV lrV
      rcases h4 with (h4 | h4) | h4 | h4 <;> simp only [h4] at c15 c45 ⊢ <;> first | (exfalso; revert c15 c45; decide) | (simp only [as_1, Int32.add_zero]; rfl)
  · refine x_iload_n (pc := 18) dL_goes_18 rfl ?_
    refine x_iconst (pc := 19) (2) dL_goes_19 (by decide) ?_
    refine x_cmpne (pc := 20) 34 dL_goes_20 (by decide) (fun c20 => ?_) (fun c20 => ?_)
    · refine x_iconst (pc := 34) (0) dL_goes_34 (by decide) ?_
      refine x_iadd (pc := 35) dL_goes_35 ?_
      refine x_istore_n (pc := 36) dL_goes_36 (by decide) ?_
      refine x_aload_n (pc := 37) dL_goes_37 rfl ?_
      refine x_iload_n (pc := 38) dL_goes_38 rfl ?_
      refine x_iconst (pc := 39) (1) dL_goes_39 (by decide) ?_
      refine t_Vi (pc := 40) (s_1 hG hk) qV_X3_shape mL_L_45 dL_goes_40 rfl cell_bc (nN_lt (by decide)) rfl rfl rfl ⟨by decide, by decide⟩ (Nat.le_of_ble_eq_true rfl) (Nat.le_of_ble_eq_true rfl) (Nat.le_of_ble_eq_true rfl) ?_
      refine x_iload_n (pc := 43) dL_goes_43 rfl ?_
      refine x_iconst (pc := 44) (1) dL_goes_44 (by decide) ?_
      refine x_cmple (pc := 45) 59 dL_goes_45 (by decide) (fun c45 => ?_) (fun c45 => ?_)
      · refine x_iconst (pc := 59) (0) dL_goes_59 (by decide) ?_
        refine x_iadd (pc := 60) dL_goes_60 ?_
        refine x_istore (pc := 61) dL_goes_61 (by decide) ?_
        refine x_iload_n (pc := 63) dL_goes_63 rfl ?_
        refine x_aload_n (pc := 64) dL_goes_64 rfl ?_
        refine x_bipush (pc := 65) (6) dL_goes_65 (by decide) ?_
        refine t_Vi (pc := 67) (n_6 hG) qV_X3_count mL_L_9 dL_goes_67 rfl cell_bc (nN_lt (by decide)) rfl rfl rfl ⟨by decide, by decide⟩ (Nat.le_of_ble_eq_true rfl) (Nat.le_of_ble_eq_true rfl) (Nat.le_of_ble_eq_true rfl) ?_
        refine t_Si (pc := 70) (l_off _ _) qS_L_off mL_L_52 dL_goes_70 rfl rfl rfl ⟨by decide, by decide⟩ (Nat.le_of_ble_eq_true rfl) (Nat.le_of_ble_eq_true rfl) (Nat.le_of_ble_eq_true rfl) ?_
        refine x_iload (pc := 73) dL_goes_73 rfl ?_
        refine x_aload_n (pc := 75) dL_goes_75 rfl ?_
        refine x_bipush (pc := 76) (7) dL_goes_76 (by decide) ?_
        refine t_Vi (pc := 78) (n_7 hG) qV_X3_count mL_L_9 dL_goes_78 rfl cell_bc (nN_lt (by decide)) rfl rfl rfl ⟨by decide, by decide⟩ (Nat.le_of_ble_eq_true rfl) (Nat.le_of_ble_eq_true rfl) (Nat.le_of_ble_eq_true rfl) ?_
        refine t_Si (pc := 81) (l_off _ _) qS_L_off mL_L_52 dL_goes_81 rfl rfl rfl ⟨by decide, by decide⟩ (Nat.le_of_ble_eq_true rfl) (Nat.le_of_ble_eq_true rfl) (Nat.le_of_ble_eq_true rfl) ?_
        refine x_iadd (pc := 84) dL_goes_84 ?_
        have e5 : wayV w.1 k = offV (lcV (w.1.2.2.2.2 k)) (w.1.2.1 1) + offV (lrV (w.1.2.2.2.2 k)) (w.1.2.1 2) := e4.symm
        refine x_iret rfl dL_goes_85 ⟨?_, rfl, rfl⟩
        rw [e5]
        unfold lcV lrV
        rcases h4 with (h4 | h4) | h4 | h4 <;> simp only [h4] at c15 c20 c45 ⊢ <;> first | (exfalso; revert c15 c20 c45; decide) | (simp only [as_1, Int32.add_zero]; rfl)
      · refine x_aload_n (pc := 48) dL_goes_48 rfl ?_
        refine x_iload_n (pc := 49) dL_goes_49 rfl ?_
        refine x_iconst (pc := 50) (3) dL_goes_50 (by decide) ?_
        refine t_Vi (pc := 51) (s_3 hG hk) qV_X3_shape mL_L_45 dL_goes_51 rfl cell_bc (nN_lt (by decide)) rfl rfl rfl ⟨by decide, by decide⟩ (Nat.le_of_ble_eq_true rfl) (Nat.le_of_ble_eq_true rfl) (Nat.le_of_ble_eq_true rfl) ?_
        refine x_iconst (pc := 54) (1) dL_goes_54 (by decide) ?_
        refine x_isub (pc := 55) dL_goes_55 ?_
        refine x_goto (pc := 56) 60 dL_goes_56 (by decide) ?_
        refine x_iadd (pc := 60) dL_goes_60 ?_
        refine x_istore (pc := 61) dL_goes_61 (by decide) ?_
        refine x_iload_n (pc := 63) dL_goes_63 rfl ?_
        refine x_aload_n (pc := 64) dL_goes_64 rfl ?_
        refine x_bipush (pc := 65) (6) dL_goes_65 (by decide) ?_
        refine t_Vi (pc := 67) (n_6 hG) qV_X3_count mL_L_9 dL_goes_67 rfl cell_bc (nN_lt (by decide)) rfl rfl rfl ⟨by decide, by decide⟩ (Nat.le_of_ble_eq_true rfl) (Nat.le_of_ble_eq_true rfl) (Nat.le_of_ble_eq_true rfl) ?_
        refine t_Si (pc := 70) (l_off _ _) qS_L_off mL_L_52 dL_goes_70 rfl rfl rfl ⟨by decide, by decide⟩ (Nat.le_of_ble_eq_true rfl) (Nat.le_of_ble_eq_true rfl) (Nat.le_of_ble_eq_true rfl) ?_
        refine x_iload (pc := 73) dL_goes_73 rfl ?_
        refine x_aload_n (pc := 75) dL_goes_75 rfl ?_
        refine x_bipush (pc := 76) (7) dL_goes_76 (by decide) ?_
        refine t_Vi (pc := 78) (n_7 hG) qV_X3_count mL_L_9 dL_goes_78 rfl cell_bc (nN_lt (by decide)) rfl rfl rfl ⟨by decide, by decide⟩ (Nat.le_of_ble_eq_true rfl) (Nat.le_of_ble_eq_true rfl) (Nat.le_of_ble_eq_true rfl) ?_
        refine t_Si (pc := 81) (l_off _ _) qS_L_off mL_L_52 dL_goes_81 rfl rfl rfl ⟨by decide, by decide⟩ (Nat.le_of_ble_eq_true rfl) (Nat.le_of_ble_eq_true rfl) (Nat.le_of_ble_eq_true rfl) ?_
        refine x_iadd (pc := 84) dL_goes_84 ?_
        have e5 : wayV w.1 k = offV (lcV (w.1.2.2.2.2 k)) (w.1.2.1 1) + offV (lrV (w.1.2.2.2.2 k)) (w.1.2.1 2) := e4.symm
        refine x_iret rfl dL_goes_85 ⟨?_, rfl, rfl⟩
        rw [e5]
        unfold lcV lrV
        rcases h4 with (h4 | h4) | h4 | h4 <;> simp only [h4] at c15 c20 c45 ⊢ <;> first | (exfalso; revert c15 c20 c45; decide) | (simp only [as_1, Int32.add_zero]; rfl)
    · refine x_aload_n (pc := 23) dL_goes_23 rfl ?_
      refine x_iload_n (pc := 24) dL_goes_24 rfl ?_
      refine x_iconst (pc := 25) (2) dL_goes_25 (by decide) ?_
      refine t_Vi (pc := 26) (s_2 hG hk) qV_X3_shape mL_L_45 dL_goes_26 rfl cell_bc (nN_lt (by decide)) rfl rfl rfl ⟨by decide, by decide⟩ (Nat.le_of_ble_eq_true rfl) (Nat.le_of_ble_eq_true rfl) (Nat.le_of_ble_eq_true rfl) ?_
      refine x_iconst (pc := 29) (1) dL_goes_29 (by decide) ?_
      refine x_isub (pc := 30) dL_goes_30 ?_
      refine x_goto (pc := 31) 35 dL_goes_31 (by decide) ?_
      refine x_iadd (pc := 35) dL_goes_35 ?_
      refine x_istore_n (pc := 36) dL_goes_36 (by decide) ?_
      refine x_aload_n (pc := 37) dL_goes_37 rfl ?_
      refine x_iload_n (pc := 38) dL_goes_38 rfl ?_
      refine x_iconst (pc := 39) (1) dL_goes_39 (by decide) ?_
      refine t_Vi (pc := 40) (s_1 hG hk) qV_X3_shape mL_L_45 dL_goes_40 rfl cell_bc (nN_lt (by decide)) rfl rfl rfl ⟨by decide, by decide⟩ (Nat.le_of_ble_eq_true rfl) (Nat.le_of_ble_eq_true rfl) (Nat.le_of_ble_eq_true rfl) ?_
      refine x_iload_n (pc := 43) dL_goes_43 rfl ?_
      refine x_iconst (pc := 44) (1) dL_goes_44 (by decide) ?_
      refine x_cmple (pc := 45) 59 dL_goes_45 (by decide) (fun c45 => ?_) (fun c45 => ?_)
      · refine x_iconst (pc := 59) (0) dL_goes_59 (by decide) ?_
        refine x_iadd (pc := 60) dL_goes_60 ?_
        refine x_istore (pc := 61) dL_goes_61 (by decide) ?_
        refine x_iload_n (pc := 63) dL_goes_63 rfl ?_
        refine x_aload_n (pc := 64) dL_goes_64 rfl ?_
        refine x_bipush (pc := 65) (6) dL_goes_65 (by decide) ?_
        refine t_Vi (pc := 67) (n_6 hG) qV_X3_count mL_L_9 dL_goes_67 rfl cell_bc (nN_lt (by decide)) rfl rfl rfl ⟨by decide, by decide⟩ (Nat.le_of_ble_eq_true rfl) (Nat.le_of_ble_eq_true rfl) (Nat.le_of_ble_eq_true rfl) ?_
        refine t_Si (pc := 70) (l_off _ _) qS_L_off mL_L_52 dL_goes_70 rfl rfl rfl ⟨by decide, by decide⟩ (Nat.le_of_ble_eq_true rfl) (Nat.le_of_ble_eq_true rfl) (Nat.le_of_ble_eq_true rfl) ?_
        refine x_iload (pc := 73) dL_goes_73 rfl ?_
        refine x_aload_n (pc := 75) dL_goes_75 rfl ?_
        refine x_bipush (pc := 76) (7) dL_goes_76 (by decide) ?_
        refine t_Vi (pc := 78) (n_7 hG) qV_X3_count mL_L_9 dL_goes_78 rfl cell_bc (nN_lt (by decide)) rfl rfl rfl ⟨by decide, by decide⟩ (Nat.le_of_ble_eq_true rfl) (Nat.le_of_ble_eq_true rfl) (Nat.le_of_ble_eq_true rfl) ?_
        refine t_Si (pc := 81) (l_off _ _) qS_L_off mL_L_52 dL_goes_81 rfl rfl rfl ⟨by decide, by decide⟩ (Nat.le_of_ble_eq_true rfl) (Nat.le_of_ble_eq_true rfl) (Nat.le_of_ble_eq_true rfl) ?_
        refine x_iadd (pc := 84) dL_goes_84 ?_
        have e5 : wayV w.1 k = offV (lcV (w.1.2.2.2.2 k)) (w.1.2.1 1) + offV (lrV (w.1.2.2.2.2 k)) (w.1.2.1 2) := e4.symm
        refine x_iret rfl dL_goes_85 ⟨?_, rfl, rfl⟩
        rw [e5]
        unfold lcV lrV
        rcases h4 with (h4 | h4) | h4 | h4 <;> simp only [h4] at c15 c20 c45 ⊢ <;> first | (exfalso; revert c15 c20 c45; decide) | (simp only [as_1, Int32.add_zero]; rfl)
      · refine x_aload_n (pc := 48) dL_goes_48 rfl ?_
        refine x_iload_n (pc := 49) dL_goes_49 rfl ?_
        refine x_iconst (pc := 50) (3) dL_goes_50 (by decide) ?_
        refine t_Vi (pc := 51) (s_3 hG hk) qV_X3_shape mL_L_45 dL_goes_51 rfl cell_bc (nN_lt (by decide)) rfl rfl rfl ⟨by decide, by decide⟩ (Nat.le_of_ble_eq_true rfl) (Nat.le_of_ble_eq_true rfl) (Nat.le_of_ble_eq_true rfl) ?_
        refine x_iconst (pc := 54) (1) dL_goes_54 (by decide) ?_
        refine x_isub (pc := 55) dL_goes_55 ?_
        refine x_goto (pc := 56) 60 dL_goes_56 (by decide) ?_
        refine x_iadd (pc := 60) dL_goes_60 ?_
        refine x_istore (pc := 61) dL_goes_61 (by decide) ?_
        refine x_iload_n (pc := 63) dL_goes_63 rfl ?_
        refine x_aload_n (pc := 64) dL_goes_64 rfl ?_
        refine x_bipush (pc := 65) (6) dL_goes_65 (by decide) ?_
        refine t_Vi (pc := 67) (n_6 hG) qV_X3_count mL_L_9 dL_goes_67 rfl cell_bc (nN_lt (by decide)) rfl rfl rfl ⟨by decide, by decide⟩ (Nat.le_of_ble_eq_true rfl) (Nat.le_of_ble_eq_true rfl) (Nat.le_of_ble_eq_true rfl) ?_
        refine t_Si (pc := 70) (l_off _ _) qS_L_off mL_L_52 dL_goes_70 rfl rfl rfl ⟨by decide, by decide⟩ (Nat.le_of_ble_eq_true rfl) (Nat.le_of_ble_eq_true rfl) (Nat.le_of_ble_eq_true rfl) ?_
        refine x_iload (pc := 73) dL_goes_73 rfl ?_
        refine x_aload_n (pc := 75) dL_goes_75 rfl ?_
        refine x_bipush (pc := 76) (7) dL_goes_76 (by decide) ?_
        refine t_Vi (pc := 78) (n_7 hG) qV_X3_count mL_L_9 dL_goes_78 rfl cell_bc (nN_lt (by decide)) rfl rfl rfl ⟨by decide, by decide⟩ (Nat.le_of_ble_eq_true rfl) (Nat.le_of_ble_eq_true rfl) (Nat.le_of_ble_eq_true rfl) ?_
        refine t_Si (pc := 81) (l_off _ _) qS_L_off mL_L_52 dL_goes_81 rfl rfl rfl ⟨by decide, by decide⟩ (Nat.le_of_ble_eq_true rfl) (Nat.le_of_ble_eq_true rfl) (Nat.le_of_ble_eq_true rfl) ?_
        refine x_iadd (pc := 84) dL_goes_84 ?_
        have e5 : wayV w.1 k = offV (lcV (w.1.2.2.2.2 k)) (w.1.2.1 1) + offV (lrV (w.1.2.2.2.2 k)) (w.1.2.1 2) := e4.symm
        refine x_iret rfl dL_goes_85 ⟨?_, rfl, rfl⟩
        rw [e5]
        unfold lcV lrV
        rcases h4 with (h4 | h4) | h4 | h4 <;> simp only [h4] at c15 c20 c45 ⊢ <;> first | (exfalso; revert c15 c20 c45; decide) | (simp only [as_1, Int32.add_zero]; rfl)
end ASK
