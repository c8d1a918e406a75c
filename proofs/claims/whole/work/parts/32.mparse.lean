/-! the reference: its reader of texts (rows laid by wip/whole/p32.py) -/
/-- a row with more behind its end: what comes back may hang on it -/
def Rz {α : Type} (G : GX) (w : α → Option Value) (S' : α → Nat → Sh) (B' : α → Bc) (M' : α → Md) (Pp : α → Prop) : Option Value → Nat → (Nat → va_E) → Prop := fun v n cs => ∃ a : α, v = w a ∧ n = 255 ∧ cs = cellOf G (S' a) (B' a) (M' a) ∧ Pp a
section TCALLSZ
variable {G : GX} {y : YX} {E : State → Prop} {Z : ZX} {pc : Nat} {l : List (Nat × Value)} {stk : List Value} {ck sk : Nat}
variable {S : Nat → Sh} {B : Bc} {M : Md} {α : Type} {S' : α → Nat → Sh} {B' : α → Bc} {M' : α → Md} {Pp : α → Prop}
theorem z_Vi {ynm : MethodName} {yc : YX} {idx o ci : Nat} {fs As rest : List Value} {T : u_T} {N : Nat} {w : α → Int32} (hM : Ct G ynm yc 0 0 (.ref (gB G + o) :: As) 255 (cellOf G S B M) (Rz G (fun a => some (.int (w a))) S' B' M' Pp)) (hq : MqV ynm yc As.length) (hlink : Cond.methodLink y.2.2.1 idx ynm ∈ WS) (hd : decode y.1 pc = .ok (.invokevirtual idx, 3)) (hstk : stk = As.reverse ++ .ref (gB G + o) :: rest) (hcell : cellOf G S B M o = .inr (ci, fs)) (ho : o < 255) (hc : vwCl[ci]? = some (ynm.cls, T, N)) (hrc : yc.2.2.2.1.cells = 0) (hrs : yc.2.2.2.1.slots = 0) (hR : yc.2.2.2.1.frames + 1 ≤ y.2.2.2.1.frames ∧ 8 + (yc.2.1 + 11) + yc.2.2.2.1.locals ≤ y.2.2.2.1.locals) (hW : (rest.map fun v => v.category).sum ≤ 8) (h1 : ck ≤ y.2.2.2.1.cells) (h2 : sk ≤ y.2.2.2.1.slots)
    (kk : ∀ a, Pp a → XJ G y E Z (pc + 3) l (.int (w a) :: rest) 255 (cellOf G (S' a) (B' a) (M' a)) ck sk) : XJ G y E Z pc l stk 255 (cellOf G S B M) ck sk :=
  x_callV hM hq hlink hd hstk hcell ho hc hrc hrs hR hW h1 h2 (fun v n' cs' h => by obtain ⟨a, rfl, rfl, rfl, h⟩ := h; exact kk a h)
end TCALLSZ
def chV (L : Fs) (n p : Nat) : Int32 := if p < n then L p else 0
theorem chV_lt {L : Fs} {n p : Nat} {c : Int32} (h : chV L n p = c) (hc : c ≠ 0) : p < n := by
  apply Classical.byContradiction
  intro q
  exact hc (by rw [← h]; simp only [chV, if_neg q])
theorem betw_eq (x c : Int32) : betw x c c = decide (x = c) := by
  unfold betw
  rw [Bool.eq_iff_iff]
  simp only [Bool.and_eq_true, Bool.not_eq_true', decide_eq_true_eq, decide_eq_false_iff_not, ti_lt, ti_eq]
  omega
theorem rlB_ch {L : Fs} {n p : Nat} {c : Int32} (hc : c ≠ 0) : rlB L n p c = decide (chV L n p = c) := by
  unfold rlB chV
  by_cases h : p < n
  · rw [if_pos h, decide_eq_true h, Bool.true_and]
  · rw [if_neg h, decide_eq_false h, Bool.false_and, decide_eq_false (fun z => hc z.symm)]
theorem i_asa (a b c : Int32) : a + b - c = a + (b - c) := by rw [Int32.sub_eq_add_neg, Int32.sub_eq_add_neg, Int32.add_assoc]
theorem i_ev (a c : Int32) : a + (c - (48 + a)) = c - 48 := by
  rw [Int32.sub_eq_add_neg, Int32.sub_eq_add_neg, Int32.neg_add, Int32.sub_eq_add_neg (-48) a, ← Int32.add_assoc, Int32.add_comm a c, Int32.add_assoc, Int32.add_comm (-48) (-a), ← Int32.add_assoc a, Int32.add_right_neg, Int32.zero_add]
theorem t48 : (48 : Int32).toInt = 48 := rfl
theorem t57 : (57 : Int32).toInt = 57 := rfl
theorem t9 : (-1 : Int32).toInt = -1 := rfl
def okG (lo g : Int32) : Prop := (lo = 0 ∧ g = 11) ∨ (lo = 1 ∧ g = 999) ∨ (lo = 0 ∧ g = 3)
theorem dg_ok {lo g : Int32} (h : okG lo g) : (lo.toInt = 0 ∨ lo.toInt = 1) ∧ (imx lo 0).toInt = lo.toInt ∧ (48 + lo).toInt = 48 + lo.toInt ∧ 3 ≤ g.toInt ∧ g.toInt ≤ 999 ∧ (g.toInt ≤ 9 → lo = 0 ∧ g = 3) := by
  rcases h with ⟨rfl, rfl⟩ | ⟨rfl, rfl⟩ | ⟨rfl, rfl⟩
  · exact ⟨by decide, by decide, by decide, by decide, by decide, by decide⟩
  · exact ⟨by decide, by decide, by decide, by decide, by decide, by decide⟩
  · exact ⟨by decide, by decide, by decide, by decide, by decide, by decide⟩
theorem dig_ti {x : Int32} (h : betw x 48 57 = true) : (x - 48).toInt = x.toInt - 48 ∧ 48 ≤ x.toInt ∧ x.toInt ≤ 57 := by
  have a := betw_ti h
  rw [t48, t57] at a
  exact ⟨by rw [ti_sub (by rw [t48]; omega) (by rw [t48]; omega), t48], a⟩
theorem bw_iff (x a b : Int32) : betw x a b = true ↔ a.toInt ≤ x.toInt ∧ x.toInt ≤ b.toInt := by
  unfold betw
  simp only [Bool.and_eq_true, Bool.not_eq_true', decide_eq_false_iff_not, ti_lt]
  omega
theorem rN_b {L : Fs} {n p : Nat} {lo g : Int32} (h : okG lo g) (h9 : 9 ≤ g.toInt) : rN L n p lo g = if betw (chV L n p) (48 + lo) 57 then some (rnX L n g (p + 1) (chV L n p - 48)) else none := by
  obtain ⟨k1, k2, k3, k4, k5, -⟩ := dg_ok h
  have hneg : betw (-1) (imx lo 0) g = false := by
    rw [← Bool.not_eq_true, bw_iff, k2, t9]; omega
  unfold rN
  by_cases hp : p < n
  · have ec : chV L n p = L p := if_pos hp
    rw [ec]
    by_cases hd : betw (L p) 48 57 = true
    · have ed : dgV L n p = L p - 48 := by unfold dgV; rw [if_pos hp, if_pos hd]
      obtain ⟨d1, d2, d3⟩ := dig_ti hd
      rw [ed]
      have e : betw (L p - 48) (imx lo 0) g = betw (L p) (48 + lo) 57 := by
        rw [Bool.eq_iff_iff, bw_iff, bw_iff, k2, k3, d1, t57]; omega
      rw [e]
    · have ed : dgV L n p = -1 := by unfold dgV; rw [if_pos hp, if_neg hd]
      rw [ed, hneg]
      have e : betw (L p) (48 + lo) 57 = false := by
        rw [bw_iff, t48, t57] at hd
        rw [← Bool.not_eq_true, bw_iff, k3, t57]; omega
      rw [e]; rfl
  · have ec : chV L n p = 0 := if_neg hp
    have ed : dgV L n p = -1 := by unfold dgV; rw [if_neg hp]
    have e : betw 0 (48 + lo) 57 = false := by
      rw [← Bool.not_eq_true, bw_iff, k3, t0]; omega
    rw [ec, ed, hneg, e]; rfl
theorem rnL_3 (L : Fs) (n : Nat) : ∀ f p (v : Int32), v.toInt ≤ 9 → rnL L n 3 f p v = (p, v)
  | 0, _, _, _ => rfl
  | f + 1, p, v, h => by
    rw [rnL, if_neg]
    rintro ⟨h1, h2, h3, h4⟩
    have k3 : (3 : Int32).toInt = 3 := rfl
    have k10 : (10 : Int32).toInt = 10 := rfl
    rw [ti_lt, t0] at h2
    have em : (10 * v).toInt = 10 * v.toInt := by rw [ti_mul (by rw [k10]; omega) (by rw [k10]; omega), k10]
    have ed : dgV L n p = -1 ∨ (0 ≤ (dgV L n p).toInt ∧ (dgV L n p).toInt ≤ 9) := by
      unfold dgV
      by_cases a : p < n
      · rw [if_pos a]
        by_cases b : betw (L p) 48 57 = true
        · rw [if_pos b]
          obtain ⟨d1, d2, d3⟩ := dig_ti b
          right; omega
        · rw [if_neg b]; exact Or.inl rfl
      · rw [if_neg a]; exact Or.inl rfl
    rcases ed with ed | ed
    · rw [ed] at h3; exact h3 (by decide)
    · rw [ti_lt, ti_add (by omega) (by omega), em, k3] at h4
      omega
theorem rN_3 (L : Fs) (n p : Nat) : rN L n p 0 3 = if betw (chV L n p) 48 51 then some (p + 1, chV L n p - 48) else none := by
  have k51 : (51 : Int32).toInt = 51 := rfl
  have k3 : (3 : Int32).toInt = 3 := rfl
  have hi0 : (imx 0 0).toInt = 0 := rfl
  have hneg : betw (-1) (imx 0 0) 3 = false := by decide
  unfold rN
  by_cases hp : p < n
  · have ec : chV L n p = L p := if_pos hp
    rw [ec]
    by_cases hd : betw (L p) 48 57 = true
    · have ed : dgV L n p = L p - 48 := by unfold dgV; rw [if_pos hp, if_pos hd]
      obtain ⟨d1, d2, d3⟩ := dig_ti hd
      rw [ed]
      have e : betw (L p - 48) (imx 0 0) 3 = betw (L p) 48 51 := by
        rw [Bool.eq_iff_iff, bw_iff, bw_iff, hi0, d1, k3, t48, k51]; omega
      rw [e]
      split
      · unfold rnX
        rw [rnL_3 _ _ _ _ _ (by omega)]
      · rfl
    · have ed : dgV L n p = -1 := by unfold dgV; rw [if_pos hp, if_neg hd]
      rw [ed, hneg]
      have e : betw (L p) 48 51 = false := by
        rw [bw_iff, t48, t57] at hd
        rw [← Bool.not_eq_true, bw_iff, t48, k51]; omega
      rw [e]; rfl
  · have ec : chV L n p = 0 := if_neg hp
    have ed : dgV L n p = -1 := by unfold dgV; rw [if_neg hp]
    have e : betw 0 48 51 = false := by decide
    rw [ec, ed, hneg, e]; rfl
/-- what takesNumber does: whether it is wrong then, where it stands, what it answers -/
def tnX (L : Fs) (n p : Nat) (bw : Bool) (lo g : Int32) : Bool × Nat × Int32 := if bw then (true, p, lo + (chV L n p - (48 + lo))) else (match rN L n p lo g with | some q => (false, q.1, q.2) | none => (true, p, lo + (chV L n p - (48 + lo))))
theorem tnX_le {L : Fs} {n p : Nat} {bw : Bool} {lo g : Int32} : (tnX L n p bw lo g).2.1 ≤ p ∨ (tnX L n p bw lo g).2.1 ≤ n := by
  unfold tnX
  split
  · exact Or.inl (Nat.le_refl p)
  · split
    · rename_i q hq
      exact Or.inr (rN_le hq).1
    · exact Or.inl (Nat.le_refl p)
theorem upd_tw (f : Fs) (a b c d : Int32) : upd (upd (upd (upd f 12 a) 11 b) 12 c) 11 d = upd (upd f 12 c) 11 d := by
  funext q
  simp only [upd]
  by_cases h1 : q = 11
  · simp [h1]
  · by_cases h2 : q = 12
    · simp [h1, h2]
    · simp [h1, h2]
theorem wb_f {bw b : Bool} (h : (bw || !b) = false) : bw = false ∧ b = true := by cases bw <;> cases b <;> simp_all
theorem tnX_w {L : Fs} {n p : Nat} {bw : Bool} {lo g : Int32} (hr : rN L n p lo g = if betw (chV L n p) (48 + lo) 57 then some (rnX L n g (p + 1) (chV L n p - 48)) else none) (h : (bw || !betw (chV L n p) (48 + lo) 57) = true) : tnX L n p bw lo g = (true, p, lo + (chV L n p - (48 + lo))) := by
  unfold tnX
  cases bw with
  | true => rfl
  | false =>
    rw [Bool.false_or, Bool.not_eq_true'] at h
    rw [hr, h]
    rfl
theorem bt_lt {L : Fs} {n p : Nat} {lo g : Int32} (h : okG lo g) (hb : betw (chV L n p) (48 + lo) 57 = true) : p < n := by
  apply Classical.byContradiction
  intro q
  have e : chV L n p = 0 := if_neg q
  obtain ⟨k1, -, k3, -⟩ := dg_ok h
  rw [e, bw_iff, k3, t0] at hb
  omega
theorem v_in {L : Fs} {n p : Nat} {lo g : Int32} (h : okG lo g) (hb : betw (chV L n p) (48 + lo) 57 = true) : (chV L n p - 48).toInt ≤ 999 ∧ 0 ≤ (chV L n p - 48).toInt := by
  obtain ⟨k1, -, k3, -⟩ := dg_ok h
  have hb2 := hb
  rw [bw_iff, k3, t57] at hb2
  have hd : betw (chV L n p) 48 57 = true := by rw [bw_iff, t48, t57]; omega
  have := (dig_ti hd).1
  omega
section MPARSE
variable {G : GX} {S : Nat → Sh} {B : Bc} {N s sd ah sn be tx od : Fs} {A : Ab} {n p : Nat}
set_option maxHeartbeats 4000000 in
set_option maxRecDepth 100000 in
theorem c_X4_takesOne (hn : N 8 = nI n) (h60 : n ≤ 60) (hp : N 11 = nI p) (hp9 : p < 1000) (bw : Bool) (hw : N 12 = b01 bw) (lo hi : Int32) : Ct G yX4_takesOne YX4_takesOne 0 0 [.ref (gB G + 247), .int lo, .int hi] 255 (cellOf G S B (N, s, sd, ah, sn, be, tx, od)) (Rt G (some (.int ((chV tx n p) - lo))) S B (upd (upd N 12 (b01 (bw || !betw (chV tx n p) lo hi))) 11 (nI (if (bw || !betw (chV tx n p) lo hi) then p else p + 1)), s, sd, ah, sn, be, tx, od)) := by
  refine ct_of (by decide +kernel) rfl rfl (Nat.le_of_ble_eq_true rfl) (by simp [Value.category]) ?_
  refine x_sub (l' := [(0, .ref (gB G + 247)), (1, .int lo), (2, .int hi)]) ⟨rfl, rfl, rfl, trivial⟩ ?_
  have tl : ∀ x : Int32, x = (chV tx n p) → XJ G YX4_takesOne (fun _ => True) (Zx G (Rt G (some (.int ((chV tx n p) - lo))) S B (upd (upd N 12 (b01 (bw || !betw (chV tx n p) lo hi))) 11 (nI (if (bw || !betw (chV tx n p) lo hi) then p else p + 1)), s, sd, ah, sn, be, tx, od)) 0 0) 24 [(0, .ref (gB G + 247)), (1, .int lo), (2, .int hi)] [.int x] 255 (cellOf G S B (N, s, sd, ah, sn, be, tx, od)) 0 0 := by
    intro x hx
    refine x_istore_n (pc := 24) dX4_takesOne_24 (by decide) ?_
    refine x_aload_n (pc := 25) dX4_takesOne_25 rfl ?_
    refine x_aload_n (pc := 26) dX4_takesOne_26 rfl ?_
    refine x_get (pc := 27) (ci := 4) (k := 12) (C := RX4) (T := TX4) (N := 21) cell_model rfl (by decide) rfl nX4 (by decide) mF_X4_149 rfl dX4_takesOne_27 ?_
    try dsimp only
    try dsimp only
    rw [hw]
    refine x_ifne (pc := 30) 42 dX4_takesOne_30 (by decide) (fun c30 => ?_) (fun c30 => ?_)
    · refine x_iconst (pc := 42) (1) dX4_takesOne_42 (by decide) ?_
      refine x_goto (pc := 43) 47 dX4_takesOne_43 (by decide) ?_
      refine t_putM (pc := 47) 12 (by unfold isMF; decide) rfl rfl mF_X4_149 dX4_takesOne_47 ?_
      try dsimp only
      refine x_aload_n (pc := 50) dX4_takesOne_50 rfl ?_
      refine x_dup (pc := 51) dX4_takesOne_51 rfl ?_
      refine x_get (pc := 52) (ci := 4) (k := 11) (C := RX4) (T := TX4) (N := 21) cell_model rfl (by decide) rfl nX4 (by decide) mF_X4_153 rfl dX4_takesOne_52 ?_
      try dsimp only
      try dsimp only
      rw [upd_ne _ _ (show 11 ≠ 12 by decide), hp]
      refine x_aload_n (pc := 55) dX4_takesOne_55 rfl ?_
      refine x_get (pc := 56) (ci := 4) (k := 12) (C := RX4) (T := TX4) (N := 21) cell_model rfl (by decide) rfl nX4 (by decide) mF_X4_149 rfl dX4_takesOne_56 ?_
      try dsimp only
      try dsimp only
      rw [upd_same]
      refine x_ifeq (pc := 59) 66 dX4_takesOne_59 (by decide) (fun c59 => absurd c59 (by decide)) (fun c59 => ?_)
      refine x_iconst (pc := 62) (0) dX4_takesOne_62 (by decide) ?_
      refine x_goto (pc := 63) 67 dX4_takesOne_63 (by decide) ?_
      refine x_iadd (pc := 67) dX4_takesOne_67 ?_
      refine t_putM (pc := 68) 11 (by unfold isMF; decide) rfl rfl mF_X4_153 dX4_takesOne_68 ?_
      try dsimp only
      refine x_iload_n (pc := 71) dX4_takesOne_71 rfl ?_
      refine x_iload_n (pc := 72) dX4_takesOne_72 rfl ?_
      refine x_isub (pc := 73) dX4_takesOne_73 ?_
      have ew : (bw || !betw (chV tx n p) lo hi) = true := by rw [b01_ne c30, Bool.true_or]
      rw [ew, ← hx]
      rw [Int32.add_zero]
      exact x_iret rfl dX4_takesOne_74 ⟨rfl, rfl, rfl⟩
    · refine x_iload_n (pc := 33) dX4_takesOne_33 rfl ?_
      refine x_iload_n (pc := 34) dX4_takesOne_34 rfl ?_
      refine x_iload_n (pc := 35) dX4_takesOne_35 rfl ?_
      refine t_Si (pc := 36) (c_X4_in _ _ _) qS_X4_in mL_X4_38 dX4_takesOne_36 rfl rfl rfl ⟨by decide, by decide⟩ (Nat.le_of_ble_eq_true rfl) (Nat.le_of_ble_eq_true rfl) (Nat.le_of_ble_eq_true rfl) ?_
      refine x_ifne (pc := 39) 46 dX4_takesOne_39 (by decide) (fun c39 => ?_) (fun c39 => ?_)
      · refine x_iconst (pc := 46) (0) dX4_takesOne_46 (by decide) ?_
        refine t_putM (pc := 47) 12 (by unfold isMF; decide) rfl rfl mF_X4_149 dX4_takesOne_47 ?_
        try dsimp only
        refine x_aload_n (pc := 50) dX4_takesOne_50 rfl ?_
        refine x_dup (pc := 51) dX4_takesOne_51 rfl ?_
        refine x_get (pc := 52) (ci := 4) (k := 11) (C := RX4) (T := TX4) (N := 21) cell_model rfl (by decide) rfl nX4 (by decide) mF_X4_153 rfl dX4_takesOne_52 ?_
        try dsimp only
        try dsimp only
        rw [upd_ne _ _ (show 11 ≠ 12 by decide), hp]
        refine x_aload_n (pc := 55) dX4_takesOne_55 rfl ?_
        refine x_get (pc := 56) (ci := 4) (k := 12) (C := RX4) (T := TX4) (N := 21) cell_model rfl (by decide) rfl nX4 (by decide) mF_X4_149 rfl dX4_takesOne_56 ?_
        try dsimp only
        try dsimp only
        rw [upd_same]
        refine x_ifeq (pc := 59) 66 dX4_takesOne_59 (by decide) (fun c59 => ?_) (fun c59 => absurd rfl c59)
        refine x_iconst (pc := 66) (1) dX4_takesOne_66 (by decide) ?_
        refine x_iadd (pc := 67) dX4_takesOne_67 ?_
        refine t_putM (pc := 68) 11 (by unfold isMF; decide) rfl rfl mF_X4_153 dX4_takesOne_68 ?_
        try dsimp only
        refine x_iload_n (pc := 71) dX4_takesOne_71 rfl ?_
        refine x_iload_n (pc := 72) dX4_takesOne_72 rfl ?_
        refine x_isub (pc := 73) dX4_takesOne_73 ?_
        have ew : (bw || !betw (chV tx n p) lo hi) = false := by rw [b01_eq c30, ← hx, b01_ne c39]; rfl
        rw [ew, ← hx]
        rw [nI_1]
        exact x_iret rfl dX4_takesOne_74 ⟨rfl, rfl, rfl⟩
      · refine x_iconst (pc := 42) (1) dX4_takesOne_42 (by decide) ?_
        refine x_goto (pc := 43) 47 dX4_takesOne_43 (by decide) ?_
        refine t_putM (pc := 47) 12 (by unfold isMF; decide) rfl rfl mF_X4_149 dX4_takesOne_47 ?_
        try dsimp only
        refine x_aload_n (pc := 50) dX4_takesOne_50 rfl ?_
        refine x_dup (pc := 51) dX4_takesOne_51 rfl ?_
        refine x_get (pc := 52) (ci := 4) (k := 11) (C := RX4) (T := TX4) (N := 21) cell_model rfl (by decide) rfl nX4 (by decide) mF_X4_153 rfl dX4_takesOne_52 ?_
        try dsimp only
        try dsimp only
        rw [upd_ne _ _ (show 11 ≠ 12 by decide), hp]
        refine x_aload_n (pc := 55) dX4_takesOne_55 rfl ?_
        refine x_get (pc := 56) (ci := 4) (k := 12) (C := RX4) (T := TX4) (N := 21) cell_model rfl (by decide) rfl nX4 (by decide) mF_X4_149 rfl dX4_takesOne_56 ?_
        try dsimp only
        try dsimp only
        rw [upd_same]
        refine x_ifeq (pc := 59) 66 dX4_takesOne_59 (by decide) (fun c59 => absurd c59 (by decide)) (fun c59 => ?_)
        refine x_iconst (pc := 62) (0) dX4_takesOne_62 (by decide) ?_
        refine x_goto (pc := 63) 67 dX4_takesOne_63 (by decide) ?_
        refine x_iadd (pc := 67) dX4_takesOne_67 ?_
        refine t_putM (pc := 68) 11 (by unfold isMF; decide) rfl rfl mF_X4_153 dX4_takesOne_68 ?_
        try dsimp only
        refine x_iload_n (pc := 71) dX4_takesOne_71 rfl ?_
        refine x_iload_n (pc := 72) dX4_takesOne_72 rfl ?_
        refine x_isub (pc := 73) dX4_takesOne_73 ?_
        have ew : (bw || !betw (chV tx n p) lo hi) = true := by rw [← hx, b01_eq c39, Bool.not_false, Bool.or_true]
        rw [ew, ← hx]
        rw [Int32.add_zero]
        exact x_iret rfl dX4_takesOne_74 ⟨rfl, rfl, rfl⟩
  refine x_aload_n (pc := 0) dX4_takesOne_0 rfl ?_
  refine x_get (pc := 1) (ci := 4) (k := 11) (C := RX4) (T := TX4) (N := 21) cell_model rfl (by decide) rfl nX4 (by decide) mF_X4_153 rfl dX4_takesOne_1 ?_
  try dsimp only
  try dsimp only
  rw [hp]
  refine x_aload_n (pc := 4) dX4_takesOne_4 rfl ?_
  refine x_get (pc := 5) (ci := 4) (k := 8) (C := RX4) (T := TX4) (N := 21) cell_model rfl (by decide) rfl nX4 (by decide) mF_X4_146 rfl dX4_takesOne_5 ?_
  try dsimp only
  try dsimp only
  rw [hn]
  refine x_cmpge (pc := 8) 23 dX4_takesOne_8 (by decide) (fun c8 => ?_) (fun c8 => ?_)
  · have hc : chV tx n p = 0 := if_neg (fun z => c8 ((nI_ltI (by omega) (by omega)).mpr z))
    refine x_iconst (pc := 23) (0) dX4_takesOne_23 (by decide) ?_
    exact x_back (tl _ hc.symm) ⟨rfl, rfl, rfl, trivial⟩
  · have hpn : p < n := (nI_ltI (by omega) (by omega)).mp c8
    have hc : chV tx n p = tx p := if_pos hpn
    refine x_aload_n (pc := 11) dX4_takesOne_11 rfl ?_
    refine x_get (pc := 12) (ci := 4) (k := 7) (C := RX4) (T := TX4) (N := 21) cell_model rfl (by decide) rfl nX4 (by decide) mF_X4_25 rfl dX4_takesOne_12 ?_
    refine x_aload_n (pc := 15) dX4_takesOne_15 rfl ?_
    refine x_get (pc := 16) (ci := 4) (k := 11) (C := RX4) (T := TX4) (N := 21) cell_model rfl (by decide) rfl nX4 (by decide) mF_X4_153 rfl dX4_takesOne_16 ?_
    try dsimp only
    try dsimp only
    rw [hp]
    refine t_ild (pc := 19) p cell_text (by decide) rfl (by omega) (by decide) dX4_takesOne_19 ?_
    try dsimp only
    refine x_goto (pc := 20) 24 dX4_takesOne_20 (by decide) ?_
    exact x_back (tl _ hc.symm) ⟨rfl, rfl, rfl, trivial⟩
set_option maxHeartbeats 4000000 in
set_option maxRecDepth 100000 in
theorem c_X4_isNext (hn : N 8 = nI n) (h60 : n ≤ 60) (hp : N 11 = nI p) (hp9 : p < 1000) (bw : Bool) (hw : N 12 = b01 bw) (lo hi : Int32) : Ct G yX4_isNext YX4_isNext 0 0 [.ref (gB G + 247), .int lo, .int hi] 255 (cellOf G S B (N, s, sd, ah, sn, be, tx, od)) (Rt G (some (.int (b01 (!bw && (decide (p < n) && betw (tx p) lo hi))))) S B (N, s, sd, ah, sn, be, tx, od)) := by
  refine ct_of (by decide +kernel) rfl rfl (Nat.le_of_ble_eq_true rfl) (by simp [Value.category]) ?_
  refine x_sub (l' := [(0, .ref (gB G + 247)), (1, .int lo), (2, .int hi)]) ⟨rfl, rfl, rfl, trivial⟩ ?_
  refine x_aload_n (pc := 0) dX4_isNext_0 rfl ?_
  refine x_get (pc := 1) (ci := 4) (k := 12) (C := RX4) (T := TX4) (N := 21) cell_model rfl (by decide) rfl nX4 (by decide) mF_X4_149 rfl dX4_isNext_1 ?_
  try dsimp only
  try dsimp only
  rw [hw]
  refine x_ifne (pc := 4) 39 dX4_isNext_4 (by decide) (fun c4 => ?_) (fun c4 => ?_)
  · refine x_iconst (pc := 39) (0) dX4_isNext_39 (by decide) ?_
    exact x_zret rfl rfl dX4_isNext_40 ⟨by simp only [b01_ne c4, Bool.not_true, Bool.false_and, b01_0], rfl, rfl⟩
  · refine x_aload_n (pc := 7) dX4_isNext_7 rfl ?_
    refine x_get (pc := 8) (ci := 4) (k := 11) (C := RX4) (T := TX4) (N := 21) cell_model rfl (by decide) rfl nX4 (by decide) mF_X4_153 rfl dX4_isNext_8 ?_
    try dsimp only
    try dsimp only
    rw [hp]
    refine x_aload_n (pc := 11) dX4_isNext_11 rfl ?_
    refine x_get (pc := 12) (ci := 4) (k := 8) (C := RX4) (T := TX4) (N := 21) cell_model rfl (by decide) rfl nX4 (by decide) mF_X4_146 rfl dX4_isNext_12 ?_
    try dsimp only
    try dsimp only
    rw [hn]
    refine x_cmpge (pc := 15) 39 dX4_isNext_15 (by decide) (fun c15 => ?_) (fun c15 => ?_)
    · have hpn : ¬ p < n := fun z => c15 ((nI_ltI (by omega) (by omega)).mpr z)
      refine x_iconst (pc := 39) (0) dX4_isNext_39 (by decide) ?_
      exact x_zret rfl rfl dX4_isNext_40 ⟨by simp only [decide_eq_false hpn, Bool.false_and, Bool.and_false, b01_0], rfl, rfl⟩
    · have hpn : p < n := (nI_ltI (by omega) (by omega)).mp c15
      refine x_aload_n (pc := 18) dX4_isNext_18 rfl ?_
      refine x_get (pc := 19) (ci := 4) (k := 7) (C := RX4) (T := TX4) (N := 21) cell_model rfl (by decide) rfl nX4 (by decide) mF_X4_25 rfl dX4_isNext_19 ?_
      refine x_aload_n (pc := 22) dX4_isNext_22 rfl ?_
      refine x_get (pc := 23) (ci := 4) (k := 11) (C := RX4) (T := TX4) (N := 21) cell_model rfl (by decide) rfl nX4 (by decide) mF_X4_153 rfl dX4_isNext_23 ?_
      try dsimp only
      try dsimp only
      rw [hp]
      refine t_ild (pc := 26) p cell_text (by decide) rfl (by omega) (by decide) dX4_isNext_26 ?_
      try dsimp only
      refine x_iload_n (pc := 27) dX4_isNext_27 rfl ?_
      refine x_iload_n (pc := 28) dX4_isNext_28 rfl ?_
      refine t_Si (pc := 29) (c_X4_in _ _ _) qS_X4_in mL_X4_38 dX4_isNext_29 rfl rfl rfl ⟨by decide, by decide⟩ (Nat.le_of_ble_eq_true rfl) (Nat.le_of_ble_eq_true rfl) (Nat.le_of_ble_eq_true rfl) ?_
      refine x_ifeq (pc := 32) 39 dX4_isNext_32 (by decide) (fun c32 => ?_) (fun c32 => ?_)
      · refine x_iconst (pc := 39) (0) dX4_isNext_39 (by decide) ?_
        exact x_zret rfl rfl dX4_isNext_40 ⟨by simp only [b01_eq c32, Bool.and_false, b01_0], rfl, rfl⟩
      · refine x_iconst (pc := 35) (1) dX4_isNext_35 (by decide) ?_
        refine x_goto (pc := 36) 40 dX4_isNext_36 (by decide) ?_
        exact x_zret rfl rfl dX4_isNext_40 ⟨by simp only [b01_eq c4, decide_eq_true hpn, b01_ne c32, Bool.not_false, Bool.and_self, b01_1], rfl, rfl⟩
def NP (N : Fs) (q : Nat) : Fs := upd (upd N 12 (b01 false)) 11 (nI q)
theorem NP_8 (N : Fs) (q : Nat) : NP N q 8 = N 8 := rfl
theorem NP_11 (N : Fs) (q : Nat) : NP N q 11 = nI q := rfl
theorem NP_12 (N : Fs) (q : Nat) : NP N q 12 = b01 false := rfl
theorem NP_s (N : Fs) (q : Nat) : upd (upd (NP N q) 12 (b01 false)) 11 (nI (q + 1)) = NP N (q + 1) := upd_tw N _ _ _ _
theorem rnL_y {L : Fs} {n f p : Nat} {g v : Int32} (h1 : p < n) (h2 : 0 < v) (h3 : betw (L p) 48 57 = true) (h4 : ¬ g < 10 * v + (L p - 48)) : rnL L n g (f + 1) p v = rnL L n g f (p + 1) (10 * v + (L p - 48)) := by
  have ed : dgV L n p = L p - 48 := by unfold dgV; rw [if_pos h1, if_pos h3]
  have hd := dig_ti h3
  rw [rnL, ed, if_pos ⟨h1, h2, by rw [ti_lt, t0, hd.1]; omega, h4⟩]
theorem rnL_n {L : Fs} {n f p : Nat} {g v : Int32} (h : ¬ (betw (L p) 48 57 = true ∧ ¬ g < 10 * v + (L p - 48))) : rnL L n g f p v = (p, v) := by
  cases f with
  | zero => rfl
  | succ f =>
    rw [rnL, if_neg]
    rintro ⟨h1, h2, h3, h4⟩
    by_cases hd : betw (L p) 48 57 = true
    · have ed : dgV L n p = L p - 48 := by unfold dgV; rw [if_pos h1, if_pos hd]
      rw [ed] at h4
      exact h ⟨hd, h4⟩
    · have ed : dgV L n p = -1 := by unfold dgV; rw [if_pos h1, if_neg hd]
      rw [ed] at h3
      exact h3 (by decide)
theorem step_in {v c g : Int32} (h1 : 0 < v) (h2 : v.toInt ≤ 999) (hc : betw c 48 57 = true) (h4 : ¬ g < 10 * v + (c - 48)) (hg : g.toInt ≤ 999) : 0 < 10 * v + (c - 48) ∧ (10 * v + (c - 48)).toInt ≤ 999 := by
  have k10 : (10 : Int32).toInt = 10 := rfl
  obtain ⟨d1, d2, d3⟩ := dig_ti hc
  rw [ti_lt, t0] at h1
  have em : (10 * v).toInt = 10 * v.toInt := by rw [ti_mul (by rw [k10]; omega) (by rw [k10]; omega), k10]
  have ea : (10 * v + (c - 48)).toInt = 10 * v.toInt + (c.toInt - 48) := by rw [ti_add (by omega) (by omega), em, d1]
  rw [ti_lt, ea] at h4
  rw [ti_lt, t0, ea]
  omega
set_option maxHeartbeats 4000000 in
set_option maxRecDepth 100000 in
theorem lp_X4_takesNumber {lo g : Int32} (hn : N 8 = nI n) (h60 : n ≤ 60) (hg : g.toInt ≤ 999) : ∀ f q (v : Int32), q + f = n → 0 < v → v.toInt ≤ 999 → XJ G YX4_takesNumber (fun _ => True) (Zx G (Rt G (some (.int ((rnL tx n g f q v).2))) S B (NP N (rnL tx n g f q v).1, s, sd, ah, sn, be, tx, od)) 0 0) 24 [(0, .ref (gB G + 247)), (1, .int lo), (2, .int g), (3, .int v), (4, .int 1)] [] 255 (cellOf G S B (NP N q, s, sd, ah, sn, be, tx, od)) 0 0 := by
  intro f
  induction f with
  | zero =>
    intro q v hq hv0 hv9
    have hq : q = n := hq
    subst hq
    refine x_iload (pc := 24) dX4_takesNumber_24 rfl ?_
    refine x_ifeq (pc := 26) 94 dX4_takesNumber_26 (by decide) (fun h => absurd h (by decide)) (fun _ => ?_)
    refine x_aload_n (pc := 29) dX4_takesNumber_29 rfl ?_
    refine x_bipush (pc := 30) (48) dX4_takesNumber_30 (by decide) ?_
    refine x_bipush (pc := 32) (57) dX4_takesNumber_32 (by decide) ?_
    refine t_Vi (pc := 34) (c_X4_isNext (N := NP N q) (p := q) hn h60 rfl (by omega) false rfl _ _) qV_X4_isNext mL_X4_159 dX4_takesNumber_34 rfl cell_model (by decide) rfl rfl rfl ⟨by decide, by decide⟩ (Nat.le_of_ble_eq_true rfl) (Nat.le_of_ble_eq_true rfl) (Nat.le_of_ble_eq_true rfl) ?_
    refine x_ifeq (pc := 37) 65 dX4_takesNumber_37 (by decide) (fun c37 => ?_) (fun c37 => absurd c37 (by rw [decide_eq_false (Nat.lt_irrefl _)]; exact (fun z => z rfl)))
    refine x_iconst (pc := 65) (0) dX4_takesNumber_65 (by decide) ?_
    refine x_istore (pc := 66) dX4_takesNumber_66 (by decide) ?_
    refine x_iload (pc := 68) dX4_takesNumber_68 rfl ?_
    refine x_ifeq (pc := 70) 89 dX4_takesNumber_70 (by decide) (fun _ => ?_) (fun h => absurd h (by decide))
    refine x_iload_n (pc := 89) dX4_takesNumber_89 rfl ?_
    refine x_istore_n (pc := 90) dX4_takesNumber_90 (by decide) ?_
    refine x_goto (pc := 91) 24 dX4_takesNumber_91 (by decide) ?_
    refine x_iload (pc := 24) dX4_takesNumber_24 rfl ?_
    refine x_ifeq (pc := 26) 94 dX4_takesNumber_26 (by decide) (fun _ => ?_) (fun h => absurd h (by decide))
    refine x_iload_n (pc := 94) dX4_takesNumber_94 rfl ?_
    exact x_iret rfl dX4_takesNumber_95 ⟨by rfl, rfl, rfl⟩
  | succ f ih =>
    intro q v hq hv0 hv9
    have hqn : q < n := by omega
    refine x_iload (pc := 24) dX4_takesNumber_24 rfl ?_
    refine x_ifeq (pc := 26) 94 dX4_takesNumber_26 (by decide) (fun h => absurd h (by decide)) (fun _ => ?_)
    refine x_aload_n (pc := 29) dX4_takesNumber_29 rfl ?_
    refine x_bipush (pc := 30) (48) dX4_takesNumber_30 (by decide) ?_
    refine x_bipush (pc := 32) (57) dX4_takesNumber_32 (by decide) ?_
    refine t_Vi (pc := 34) (c_X4_isNext (N := NP N q) (p := q) hn h60 rfl (by omega) false rfl _ _) qV_X4_isNext mL_X4_159 dX4_takesNumber_34 rfl cell_model (by decide) rfl rfl rfl ⟨by decide, by decide⟩ (Nat.le_of_ble_eq_true rfl) (Nat.le_of_ble_eq_true rfl) (Nat.le_of_ble_eq_true rfl) ?_
    refine x_ifeq (pc := 37) 65 dX4_takesNumber_37 (by decide) (fun c37 => ?_) (fun c37 => ?_)
    · refine x_iconst (pc := 65) (0) dX4_takesNumber_65 (by decide) ?_
      refine x_istore (pc := 66) dX4_takesNumber_66 (by decide) ?_
      refine x_iload (pc := 68) dX4_takesNumber_68 rfl ?_
      refine x_ifeq (pc := 70) 89 dX4_takesNumber_70 (by decide) (fun _ => ?_) (fun h => absurd h (by decide))
      refine x_iload_n (pc := 89) dX4_takesNumber_89 rfl ?_
      refine x_istore_n (pc := 90) dX4_takesNumber_90 (by decide) ?_
      refine x_goto (pc := 91) 24 dX4_takesNumber_91 (by decide) ?_
      refine x_iload (pc := 24) dX4_takesNumber_24 rfl ?_
      refine x_ifeq (pc := 26) 94 dX4_takesNumber_26 (by decide) (fun _ => ?_) (fun h => absurd h (by decide))
      refine x_iload_n (pc := 94) dX4_takesNumber_94 rfl ?_
      have hno : ¬ (betw (tx q) 48 57 = true ∧ ¬ g < 10 * v + (tx q - 48)) := by
        have := b01_eq c37
        rw [decide_eq_true hqn, Bool.not_false, Bool.true_and, Bool.true_and] at this
        rw [this]
        exact fun z => by cases z.1
      rw [rnL_n hno]
      exact x_iret rfl dX4_takesNumber_95 ⟨rfl, rfl, rfl⟩
    · refine x_bipush (pc := 40) (10) dX4_takesNumber_40 (by decide) ?_
      refine x_iload_n (pc := 42) dX4_takesNumber_42 rfl ?_
      refine x_imul (pc := 43) dX4_takesNumber_43 ?_
      refine x_aload_n (pc := 44) dX4_takesNumber_44 rfl ?_
      refine x_get (pc := 45) (ci := 4) (k := 7) (C := RX4) (T := TX4) (N := 21) cell_model rfl (by decide) rfl nX4 (by decide) mF_X4_25 rfl dX4_takesNumber_45 ?_
      refine x_aload_n (pc := 48) dX4_takesNumber_48 rfl ?_
      refine x_get (pc := 49) (ci := 4) (k := 11) (C := RX4) (T := TX4) (N := 21) cell_model rfl (by decide) rfl nX4 (by decide) mF_X4_153 rfl dX4_takesNumber_49 ?_
      try dsimp only
      refine t_ild (pc := 52) q cell_text (by decide) (NP_11 N q) (by omega) (by decide) dX4_takesNumber_52 ?_
      try dsimp only
      refine x_iadd (pc := 53) dX4_takesNumber_53 ?_
      refine x_bipush (pc := 54) (48) dX4_takesNumber_54 (by decide) ?_
      refine x_isub (pc := 56) dX4_takesNumber_56 ?_
      refine x_iload_n (pc := 57) dX4_takesNumber_57 rfl ?_
      refine x_cmpgt (pc := 58) 65 dX4_takesNumber_58 (by decide) (fun c58 => ?_) (fun c58 => ?_)
      · refine x_iconst (pc := 65) (0) dX4_takesNumber_65 (by decide) ?_
        refine x_istore (pc := 66) dX4_takesNumber_66 (by decide) ?_
        refine x_iload (pc := 68) dX4_takesNumber_68 rfl ?_
        refine x_ifeq (pc := 70) 89 dX4_takesNumber_70 (by decide) (fun _ => ?_) (fun h => absurd h (by decide))
        refine x_iload_n (pc := 89) dX4_takesNumber_89 rfl ?_
        refine x_istore_n (pc := 90) dX4_takesNumber_90 (by decide) ?_
        refine x_goto (pc := 91) 24 dX4_takesNumber_91 (by decide) ?_
        refine x_iload (pc := 24) dX4_takesNumber_24 rfl ?_
        refine x_ifeq (pc := 26) 94 dX4_takesNumber_26 (by decide) (fun _ => ?_) (fun h => absurd h (by decide))
        refine x_iload_n (pc := 94) dX4_takesNumber_94 rfl ?_
        have hno : ¬ (betw (tx q) 48 57 = true ∧ ¬ g < 10 * v + (tx q - 48)) := by rw [← i_asa]; exact fun z => z.2 c58
        rw [rnL_n hno]
        exact x_iret rfl dX4_takesNumber_95 ⟨rfl, rfl, rfl⟩
      · refine x_iconst (pc := 61) (1) dX4_takesNumber_61 (by decide) ?_
        refine x_goto (pc := 62) 66 dX4_takesNumber_62 (by decide) ?_
        refine x_istore (pc := 66) dX4_takesNumber_66 (by decide) ?_
        refine x_iload (pc := 68) dX4_takesNumber_68 rfl ?_
        refine x_ifeq (pc := 70) 89 dX4_takesNumber_70 (by decide) (fun h => absurd h (by decide)) (fun _ => ?_)
        refine x_bipush (pc := 73) (10) dX4_takesNumber_73 (by decide) ?_
        refine x_iload_n (pc := 75) dX4_takesNumber_75 rfl ?_
        refine x_imul (pc := 76) dX4_takesNumber_76 ?_
        refine x_aload_n (pc := 77) dX4_takesNumber_77 rfl ?_
        refine x_bipush (pc := 78) (48) dX4_takesNumber_78 (by decide) ?_
        refine x_bipush (pc := 80) (57) dX4_takesNumber_80 (by decide) ?_
        refine t_Vi (pc := 82) (c_X4_takesOne (N := NP N q) (p := q) hn h60 rfl (by omega) false rfl _ _) qV_X4_takesOne mL_X4_156 dX4_takesNumber_82 rfl cell_model (by decide) rfl rfl rfl ⟨by decide, by decide⟩ (Nat.le_of_ble_eq_true rfl) (Nat.le_of_ble_eq_true rfl) (Nat.le_of_ble_eq_true rfl) ?_
        refine x_iadd (pc := 85) dX4_takesNumber_85 ?_
        refine x_goto (pc := 86) 90 dX4_takesNumber_86 (by decide) ?_
        refine x_istore_n (pc := 90) dX4_takesNumber_90 (by decide) ?_
        refine x_goto (pc := 91) 24 dX4_takesNumber_91 (by decide) ?_
        have hdg : betw (tx q) 48 57 = true := by have := b01_ne c37; simpa [hqn] using this
        have hgt : ¬ g < 10 * v + (tx q - 48) := by rw [← i_asa]; exact c58
        obtain ⟨s1, s2⟩ := step_in hv0 hv9 hdg hgt hg
        rw [rnL_y hqn hv0 hdg hgt]
        have ech : chV tx n q = tx q := if_pos hqn
        rw [ech]
        have ewr : (false || !betw (tx q) 48 57) = false := by rw [hdg]; rfl
        simp only [ewr, Bool.false_eq_true, if_false]
        rw [NP_s]
        exact x_back (ih (q + 1) _ (by omega) s1 s2) ⟨rfl, rfl, rfl, rfl, rfl, trivial⟩
set_option maxHeartbeats 4000000 in
set_option maxRecDepth 100000 in
theorem c_X4_takesNumber (hn : N 8 = nI n) (h60 : n ≤ 60) (hp : N 11 = nI p) (hp9 : p < 1000) (bw : Bool) (hw : N 12 = b01 bw) {lo g : Int32} (hG : okG lo g) (h9 : 9 ≤ g.toInt) : Ct G yX4_takesNumber YX4_takesNumber 0 0 [.ref (gB G + 247), .int lo, .int g] 255 (cellOf G S B (N, s, sd, ah, sn, be, tx, od)) (Rt G (some (.int ((tnX tx n p bw lo g).2.2))) S B (upd (upd N 12 (b01 (tnX tx n p bw lo g).1)) 11 (nI (tnX tx n p bw lo g).2.1), s, sd, ah, sn, be, tx, od)) := by
  refine ct_of (by decide +kernel) rfl rfl (Nat.le_of_ble_eq_true rfl) (by simp [Value.category]) ?_
  refine x_sub (l' := [(0, .ref (gB G + 247)), (1, .int lo), (2, .int g)]) ⟨rfl, rfl, rfl, trivial⟩ ?_
  have hg := (dg_ok hG).2.2.2.2.1
  have hrn := rN_b (L := tx) (n := n) (p := p) hG h9
  have ev : lo + (chV tx n p - (48 + lo)) = chV tx n p - 48 := i_ev lo _
  refine x_iload_n (pc := 0) dX4_takesNumber_0 rfl ?_
  refine x_aload_n (pc := 1) dX4_takesNumber_1 rfl ?_
  refine x_bipush (pc := 2) (48) dX4_takesNumber_2 (by decide) ?_
  refine x_iload_n (pc := 4) dX4_takesNumber_4 rfl ?_
  refine x_iadd (pc := 5) dX4_takesNumber_5 ?_
  refine x_bipush (pc := 6) (57) dX4_takesNumber_6 (by decide) ?_
  refine t_Vi (pc := 8) (c_X4_takesOne (p := p) hn h60 hp hp9 bw hw _ _) qV_X4_takesOne mL_X4_156 dX4_takesNumber_8 rfl cell_model (by decide) rfl rfl rfl ⟨by decide, by decide⟩ (Nat.le_of_ble_eq_true rfl) (Nat.le_of_ble_eq_true rfl) (Nat.le_of_ble_eq_true rfl) ?_
  refine x_iadd (pc := 11) dX4_takesNumber_11 ?_
  cases hwb : (bw || !betw (chV tx n p) (48 + lo) 57) with
  | true =>
    have et : tnX tx n p bw lo g = (true, p, lo + (chV tx n p - (48 + lo))) := tnX_w hrn hwb
    rw [et]
    simp only [if_true]
    refine x_istore_n (pc := 12) dX4_takesNumber_12 (by decide) ?_
    refine x_iload_n (pc := 13) dX4_takesNumber_13 rfl ?_
    refine x_ifle (pc := 14) 21 dX4_takesNumber_14 (by decide) (fun c14 => ?_) (fun c14 => ?_)
    · refine x_iconst (pc := 21) (0) dX4_takesNumber_21 (by decide) ?_
      refine x_istore (pc := 22) dX4_takesNumber_22 (by decide) ?_
      refine x_iload (pc := 24) dX4_takesNumber_24 rfl ?_
      refine x_ifeq (pc := 26) 94 dX4_takesNumber_26 (by decide) (fun _ => ?_) (fun h => absurd h (by decide))
      refine x_iload_n (pc := 94) dX4_takesNumber_94 rfl ?_
      exact x_iret rfl dX4_takesNumber_95 ⟨by rfl, rfl, rfl⟩
    · refine x_iconst (pc := 17) (1) dX4_takesNumber_17 (by decide) ?_
      refine x_goto (pc := 18) 22 dX4_takesNumber_18 (by decide) ?_
      refine x_istore (pc := 22) dX4_takesNumber_22 (by decide) ?_
      refine x_iload (pc := 24) dX4_takesNumber_24 rfl ?_
      refine x_ifeq (pc := 26) 94 dX4_takesNumber_26 (by decide) (fun h => absurd h (by decide)) (fun _ => ?_)
      refine x_aload_n (pc := 29) dX4_takesNumber_29 rfl ?_
      refine x_bipush (pc := 30) (48) dX4_takesNumber_30 (by decide) ?_
      refine x_bipush (pc := 32) (57) dX4_takesNumber_32 (by decide) ?_
      refine t_Vi (pc := 34) (c_X4_isNext (N := (upd (upd N 12 (b01 true)) 11 (nI p))) (p := p) hn h60 rfl (by omega) true rfl _ _) qV_X4_isNext mL_X4_159 dX4_takesNumber_34 rfl cell_model (by decide) rfl rfl rfl ⟨by decide, by decide⟩ (Nat.le_of_ble_eq_true rfl) (Nat.le_of_ble_eq_true rfl) (Nat.le_of_ble_eq_true rfl) ?_
      refine x_ifeq (pc := 37) 65 dX4_takesNumber_37 (by decide) (fun c37 => ?_) (fun c37 => absurd rfl c37)
      refine x_iconst (pc := 65) (0) dX4_takesNumber_65 (by decide) ?_
      refine x_istore (pc := 66) dX4_takesNumber_66 (by decide) ?_
      refine x_iload (pc := 68) dX4_takesNumber_68 rfl ?_
      refine x_ifeq (pc := 70) 89 dX4_takesNumber_70 (by decide) (fun _ => ?_) (fun h => absurd h (by decide))
      refine x_iload_n (pc := 89) dX4_takesNumber_89 rfl ?_
      refine x_istore_n (pc := 90) dX4_takesNumber_90 (by decide) ?_
      refine x_goto (pc := 91) 24 dX4_takesNumber_91 (by decide) ?_
      refine x_iload (pc := 24) dX4_takesNumber_24 rfl ?_
      refine x_ifeq (pc := 26) 94 dX4_takesNumber_26 (by decide) (fun _ => ?_) (fun h => absurd h (by decide))
      refine x_iload_n (pc := 94) dX4_takesNumber_94 rfl ?_
      exact x_iret rfl dX4_takesNumber_95 ⟨by rfl, rfl, rfl⟩
  | false =>
    obtain ⟨rfl, hbt⟩ := wb_f hwb
    have hpn : p < n := bt_lt hG hbt
    have ech : chV tx n p = tx p := if_pos hpn
    have et : tnX tx n p false lo g = (false, (rnX tx n g (p + 1) (chV tx n p - 48)).1, (rnX tx n g (p + 1) (chV tx n p - 48)).2) := by simp only [tnX, hrn, hbt, if_true, Bool.false_eq_true, if_false]
    rw [et]
    simp only [Bool.false_eq_true, if_false]
    obtain ⟨v1, v2⟩ := v_in hG hbt
    rw [ev]
    refine x_istore_n (pc := 12) dX4_takesNumber_12 (by decide) ?_
    refine x_iload_n (pc := 13) dX4_takesNumber_13 rfl ?_
    refine x_ifle (pc := 14) 21 dX4_takesNumber_14 (by decide) (fun c14 => ?_) (fun c14 => ?_)
    · refine x_iconst (pc := 21) (0) dX4_takesNumber_21 (by decide) ?_
      refine x_istore (pc := 22) dX4_takesNumber_22 (by decide) ?_
      refine x_iload (pc := 24) dX4_takesNumber_24 rfl ?_
      refine x_ifeq (pc := 26) 94 dX4_takesNumber_26 (by decide) (fun _ => ?_) (fun h => absurd h (by decide))
      refine x_iload_n (pc := 94) dX4_takesNumber_94 rfl ?_
      have hz : ¬ (p + 1 < n ∧ 0 < chV tx n p - 48 ∧ ¬ dgV tx n (p + 1) < 0 ∧ ¬ g < 10 * (chV tx n p - 48) + dgV tx n (p + 1)) := fun z => c14 z.2.1
      have er : rnX tx n g (p + 1) (chV tx n p - 48) = (p + 1, chV tx n p - 48) := by
        unfold rnX
        cases (n - (p + 1)) with
        | zero => rfl
        | succ f => rw [rnL, if_neg hz]
      rw [er]
      exact x_iret rfl dX4_takesNumber_95 ⟨rfl, rfl, rfl⟩
    · refine x_iconst (pc := 17) (1) dX4_takesNumber_17 (by decide) ?_
      refine x_goto (pc := 18) 22 dX4_takesNumber_18 (by decide) ?_
      refine x_istore (pc := 22) dX4_takesNumber_22 (by decide) ?_
      have hv0 : 0 < chV tx n p - 48 := c14
      have e := lp_X4_takesNumber (G := G) (S := S) (B := B) (N := N) (s := s) (sd := sd) (ah := ah) (sn := sn) (be := be) (tx := tx) (od := od) (lo := lo) hn h60 hg (n - (p + 1)) (p + 1) _ (by omega) hv0 v1
      exact x_back e ⟨rfl, rfl, rfl, rfl, rfl, trivial⟩
end MPARSE
