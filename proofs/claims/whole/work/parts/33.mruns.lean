/-! the reference: things, runs (rows laid by wip/whole/p33.py) -/
theorem rnL_in {L : Fs} {n : Nat} {lo g : Int32} (h0 : 0 ≤ lo.toInt) (hg : g.toInt ≤ 999) : ∀ f p (v : Int32), lo.toInt ≤ v.toInt → v.toInt ≤ g.toInt → lo.toInt ≤ (rnL L n g f p v).2.toInt ∧ (rnL L n g f p v).2.toInt ≤ g.toInt
  | 0, _, _, h1, h2 => ⟨h1, h2⟩
  | f + 1, p, v, h1, h2 => by
    rw [rnL]
    by_cases c : p < n ∧ 0 < v ∧ ¬ dgV L n p < 0 ∧ ¬ g < 10 * v + dgV L n p
    · rw [if_pos c]
      obtain ⟨c1, c2, c3, c4⟩ := c
      have k10 : (10 : Int32).toInt = 10 := rfl
      rw [ti_lt, t0] at c2 c3
      have em : (10 * v).toInt = 10 * v.toInt := by rw [ti_mul (by rw [k10]; omega) (by rw [k10]; omega), k10]
      have ed : (dgV L n p).toInt ≤ 9 := by
        unfold dgV
        by_cases a : p < n
        · rw [if_pos a]
          by_cases b : betw (L p) 48 57 = true
          · rw [if_pos b]; have := dig_ti b; omega
          · rw [if_neg b]; decide
        · rw [if_neg a]; decide
      have ea : (10 * v + dgV L n p).toInt = 10 * v.toInt + (dgV L n p).toInt := by rw [ti_add (by omega) (by omega), em]
      rw [ti_lt, ea] at c4
      exact rnL_in h0 hg f (p + 1) _ (by omega) (by omega)
    · rw [if_neg c]; exact ⟨h1, h2⟩
theorem rN_in {L : Fs} {n p : Nat} {q : Nat × Int32} (h : rN L n p 1 999 = some q) : betw q.2 1 999 = true := by
  unfold rN at h
  split at h
  · rename_i hb
    cases h
    have := betw_ti hb
    have e1 : (imx 1 0).toInt = 1 := rfl
    have e2 : (999 : Int32).toInt = 999 := rfl
    have e3 : (1 : Int32).toInt = 1 := rfl
    rw [bw_iff]
    rw [e1] at this
    exact rnL_in (lo := 1) (g := 999) (by decide) (by decide) _ _ _ (by omega) this.2
  · cases h
section RTL
variable {L : Fs} {n p : Nat}
theorem rTt_c (h : chV L n p = 99) : rT L n p = (match rN L n (p + 1) 0 11 with | some q => (true, q.1, 0, q.2, 0) | none => (false, p + 1, 0, 0, 0)) := by
  simp only [rT, rlB_ch (show (99 : Int32) ≠ 0 by decide), h, decide_true, if_true]
  rfl
theorem rTt_l (h : chV L n p = 108) : rT L n p = (match rN L n (p + 1) 0 11 with
    | some q => if rlB L n q.1 64 then (match rN L n (q.1 + 1) 0 3 with | some r => (true, r.1, 1, q.2, r.2) | none => (false, q.1 + 1, 0, 0, 0)) else (false, q.1, 0, 0, 0)
    | none => (false, p + 1, 0, 0, 0)) := by
  simp only [rT, rlB_ch (L := L) (n := n) (p := p) (show (99 : Int32) ≠ 0 by decide), rlB_ch (L := L) (n := n) (p := p) (show (108 : Int32) ≠ 0 by decide), h, decide_true, if_true, show decide ((108 : Int32) = 99) = false by decide, Bool.false_eq_true, if_false]
  rfl
theorem rTt_w (h : chV L n p = 119) : rT L n p = (match rN L n (p + 1) 1 999 with | some q => (true, q.1, 2, q.2, 0) | none => (false, p + 1, 0, 0, 0)) := by
  simp only [rT, rlB_ch (L := L) (n := n) (p := p) (show (99 : Int32) ≠ 0 by decide), rlB_ch (L := L) (n := n) (p := p) (show (108 : Int32) ≠ 0 by decide), rlB_ch (L := L) (n := n) (p := p) (show (119 : Int32) ≠ 0 by decide), h, decide_true, if_true, show decide ((119 : Int32) = 99) = false by decide, show decide ((119 : Int32) = 108) = false by decide, Bool.false_eq_true, if_false]
  rfl
theorem rTt_k (h : chV L n p = 107) : rT L n p = (true, p + 1, 3, 0, 0) := by
  simp only [rT, rlB_ch (L := L) (n := n) (p := p) (show (99 : Int32) ≠ 0 by decide), rlB_ch (L := L) (n := n) (p := p) (show (108 : Int32) ≠ 0 by decide), rlB_ch (L := L) (n := n) (p := p) (show (119 : Int32) ≠ 0 by decide), rlB_ch (L := L) (n := n) (p := p) (show (107 : Int32) ≠ 0 by decide), h, decide_true, if_true, show decide ((107 : Int32) = 99) = false by decide, show decide ((107 : Int32) = 108) = false by decide, show decide ((107 : Int32) = 119) = false by decide, Bool.false_eq_true, if_false]
theorem rTt_o (h1 : ¬ chV L n p = 99) (h2 : ¬ chV L n p = 108) (h3 : ¬ chV L n p = 119) (h4 : ¬ chV L n p = 107) : rT L n p = (false, p, 0, 0, 0) := by
  simp only [rT, rlB_ch (L := L) (n := n) (p := p) (show (99 : Int32) ≠ 0 by decide), rlB_ch (L := L) (n := n) (p := p) (show (108 : Int32) ≠ 0 by decide), rlB_ch (L := L) (n := n) (p := p) (show (119 : Int32) ≠ 0 by decide), rlB_ch (L := L) (n := n) (p := p) (show (107 : Int32) ≠ 0 by decide), decide_eq_false h1, decide_eq_false h2, decide_eq_false h3, decide_eq_false h4, Bool.false_eq_true, if_false]
theorem rT_ge (h : n ≤ p) : rT L n p = (false, p, 0, 0, 0) := by
  have e : chV L n p = 0 := if_neg (by omega)
  exact rTt_o (by rw [e]; decide) (by rw [e]; decide) (by rw [e]; decide) (by rw [e]; decide)
/-- what a thing is, in the reference's fields -/
def thR (N : Fs) (t : Th) : Prop := (t.1 = 0 ∧ N 13 = 99 ∧ N 14 = t.2.1) ∨ (t.1 = 1 ∧ N 13 = 108 ∧ N 14 = t.2.1 ∧ N 15 = t.2.2) ∨ (t.1 = 2 ∧ N 13 = 119 ∧ N 14 = t.2.1 ∧ betw t.2.1 1 999 = true) ∨ (t.1 = 3 ∧ N 13 = 107)
def rdR (N N' : Fs) (r : Bool × Nat × Th) : Prop := (∀ k, k < 11 ∨ 15 < k → N' k = N k) ∧ N' 11 = nI r.2.1 ∧ N' 12 = b01 (!r.1) ∧ (r.1 = true → thR N' r.2.2)
theorem rd_c (h : chV L n p = 99) : (tnX L n (p + 1) false 0 11).1 = (!(rT L n p).1) ∧ (tnX L n (p + 1) false 0 11).2.1 = (rT L n p).2.1 ∧ ((rT L n p).1 = true → (rT L n p).2.2 = (0, (tnX L n (p + 1) false 0 11).2.2, 0)) := by
  rw [rTt_c h]
  unfold tnX
  rcases rN L n (p + 1) 0 11 with _ | q
  · exact ⟨rfl, rfl, fun z => by cases z⟩
  · exact ⟨rfl, rfl, fun _ => rfl⟩
theorem rd_w (h : chV L n p = 119) : (tnX L n (p + 1) false 1 999).1 = (!(rT L n p).1) ∧ (tnX L n (p + 1) false 1 999).2.1 = (rT L n p).2.1 ∧ ((rT L n p).1 = true → (rT L n p).2.2 = (2, (tnX L n (p + 1) false 1 999).2.2, 0) ∧ betw (tnX L n (p + 1) false 1 999).2.2 1 999 = true) := by
  rw [rTt_w h]
  unfold tnX
  rcases hq : rN L n (p + 1) 1 999 with _ | q
  · exact ⟨rfl, rfl, fun z => by cases z⟩
  · exact ⟨rfl, rfl, fun _ => ⟨rfl, rN_in hq⟩⟩
abbrev w1T (L : Fs) (n : Nat) (t : Bool × Nat × Int32) : Bool := t.1 || !betw (chV L n t.2.1) 64 64
abbrev p1T (L : Fs) (n : Nat) (t : Bool × Nat × Int32) : Nat := if (t.1 || !betw (chV L n t.2.1) 64 64) then t.2.1 else t.2.1 + 1
abbrev w2T (L : Fs) (n : Nat) (t : Bool × Nat × Int32) : Bool := (t.1 || !betw (chV L n t.2.1) 64 64) || !betw (chV L n (p1T L n t)) 48 51
abbrev p2T (L : Fs) (n : Nat) (t : Bool × Nat × Int32) : Nat := if w2T L n t then p1T L n t else p1T L n t + 1
theorem rd_l (h : chV L n p = 108) {t : Bool × Nat × Int32} (ht : tnX L n (p + 1) false 0 11 = t) : w2T L n t = (!(rT L n p).1) ∧ p2T L n t = (rT L n p).2.1 ∧ ((rT L n p).1 = true → (rT L n p).2.2 = (1, t.2.2, chV L n (p1T L n t) - 48)) := by
  rw [rTt_l h]
  subst ht
  unfold tnX
  rcases hq : rN L n (p + 1) 0 11 with _ | q
  · exact ⟨rfl, rfl, fun z => by cases z⟩
  · by_cases a : chV L n q.1 = 64
    · have e64 : betw (chV L n q.1) 64 64 = true := by rw [betw_eq]; exact decide_eq_true a
      have er : rlB L n q.1 64 = true := by rw [rlB_ch (by decide)]; exact decide_eq_true a
      simp only [Bool.false_eq_true, if_false, e64, er, if_true, rN_3, Bool.not_true, Bool.false_or]
      have ep : p1T L n (false, q.1, q.2) = q.1 + 1 := by simp [p1T, e64]
      cases b : betw (chV L n (q.1 + 1)) 48 51 with
      | true => simp [w2T, p2T, ep, e64, b]
      | false => simp [w2T, p2T, ep, e64, b]
    · have e64 : betw (chV L n q.1) 64 64 = false := by rw [betw_eq]; exact decide_eq_false a
      have er : rlB L n q.1 64 = false := by rw [rlB_ch (by decide)]; exact decide_eq_false a
      have ep : p1T L n (false, q.1, q.2) = q.1 := by simp [p1T, e64]
      simp only [Bool.false_eq_true, if_false, e64, er, if_true, Bool.not_false, Bool.or_true, Bool.true_or]
      simp [w2T, p2T, ep, e64]
theorem p1X_9 (h60 : n ≤ 60) (hp : p ≤ 60) {t : Bool × Nat × Int32} (ht : tnX L n (p + 1) false 0 11 = t) : t.2.1 < 1000 ∧ p1T L n t < 1000 := by
  have h := tnX_le (L := L) (n := n) (p := p + 1) (bw := false) (lo := 0) (g := 11)
  rw [ht] at h
  refine ⟨by omega, ?_⟩
  have e : p1T L n t ≤ t.2.1 + 1 := by
    unfold p1T
    split <;> omega
  omega
theorem plL_1 (h60 : n ≤ 60) (hp : p ≤ 60) {f : Nat} (h : (plL L n (f + 1) p).1 = -1) : (rT L n p).1 = true ∧ ((n ≤ (rT L n p).2.1 ∧ (plL L n (f + 1) p).2 = [(rT L n p).2.2]) ∨ (¬ n ≤ (rT L n p).2.1 ∧ L (rT L n p).2.1 = 59 ∧ (plL L n f ((rT L n p).2.1 + 1)).1 = -1 ∧ (plL L n (f + 1) p).2 = (rT L n p).2.2 :: (plL L n f ((rT L n p).2.1 + 1)).2)) := by
  have h6 := rT_60 (L := L) h60 hp
  have hne := nI_ne1 (q := (rT L n p).2.1) (by omega)
  rw [plL] at h ⊢
  by_cases a : (rT L n p).1 = true
  · rw [if_pos a] at h ⊢
    refine ⟨a, ?_⟩
    by_cases b : n ≤ (rT L n p).2.1
    · rw [if_pos b]; exact Or.inl ⟨b, rfl⟩
    · rw [if_neg b] at h ⊢
      by_cases c : L (rT L n p).2.1 = 59
      · rw [if_pos c] at h ⊢; exact Or.inr ⟨b, c, h, rfl⟩
      · rw [if_neg c] at h; exact absurd h hne
  · rw [if_neg a] at h; exact absurd h hne
theorem exL_neg : ∀ (ts : List Th) {A : Ab} (i : Nat) {z : Nat × Int32}, (exL ts A i).1 = some z → z.2 < 0
  | [], _, _, _, h => by simp [exL] at h
  | t :: ts, A, i, z, h => by
    by_cases c : (thX A t).1 < 0 ∧ ¬ (thX A t).1 = -5
    · rw [exL_st c.1 c.2] at h; cases h; exact c.1
    · rw [exL, if_neg c] at h; exact exL_neg ts (i + 1) h
end RTL
theorem rT_gt {L : Fs} {n p : Nat} (h : (rT L n p).1 = true) : p < (rT L n p).2.1 := by
  revert h
  by_cases a : chV L n p = 99
  · rw [rTt_c a]
    rcases hq : rN L n (p + 1) 0 11 with _ | q
    · intro h; cases h
    · intro _; have := (rN_le hq).2; show p < q.1; omega
  by_cases b : chV L n p = 108
  · rw [rTt_l b]
    rcases hq : rN L n (p + 1) 0 11 with _ | q
    · intro h; cases h
    · have h1 := (rN_le hq).2
      dsimp only
      by_cases c : rlB L n q.1 64 = true
      · rw [if_pos c]
        rcases hr : rN L n (q.1 + 1) 0 3 with _ | r
        · intro h; cases h
        · intro _; have := (rN_le hr).2; show p < r.1; omega
      · rw [if_neg c]; intro h; cases h
  by_cases c : chV L n p = 119
  · rw [rTt_w c]
    rcases hq : rN L n (p + 1) 1 999 with _ | q
    · intro h; cases h
    · intro _; have := (rN_le hq).2; show p < q.1; omega
  by_cases d : chV L n p = 107
  · rw [rTt_k d]; intro _; exact Nat.lt_succ_self p
  · rw [rTt_o a b c d]; intro h; cases h
section MPARSE2
variable {G : GX} {S : Nat → Sh} {B : Bc} {N s sd ah sn be tx od : Fs} {A : Ab} {n p : Nat}
set_option maxHeartbeats 4000000 in
set_option maxRecDepth 100000 in
theorem c_X4_readThing (hn : N 8 = nI n) (h60 : n ≤ 60) (hp : N 11 = nI p) (hp6 : p ≤ 60) (hw : N 12 = b01 false) : Ct G yX4_readThing YX4_readThing 0 0 [.ref (gB G + 247)] 255 (cellOf G S B (N, s, sd, ah, sn, be, tx, od)) (Re G none (fun _ : Fs => S) (fun _ => B) (fun N' => (N', s, sd, ah, sn, be, tx, od)) (fun N' => rdR N N' (rT tx n p))) := by
  refine ct_of (by decide +kernel) rfl rfl (Nat.le_of_ble_eq_true rfl) (by simp [Value.category]) ?_
  refine x_sub (l' := [(0, .ref (gB G + 247))]) ⟨rfl, trivial⟩ ?_
  have tl : ∀ x : Int32, x = chV tx n p → XJ G YX4_readThing (fun _ => True) (Zx G (Re G none (fun _ : Fs => S) (fun _ => B) (fun N' => (N', s, sd, ah, sn, be, tx, od)) (fun N' => rdR N N' (rT tx n p))) 0 0) 25 [(0, .ref (gB G + 247))] [.int x, .ref (gB G + 247)] 255 (cellOf G S B (N, s, sd, ah, sn, be, tx, od)) 0 0 := by
    intro x hx
    refine t_putM (pc := 25) 13 (by unfold isMF; decide) rfl rfl mF_X4_162 dX4_readThing_25 ?_
    try dsimp only
    refine x_aload_n (pc := 28) dX4_readThing_28 rfl ?_
    refine x_aload_n (pc := 29) dX4_readThing_29 rfl ?_
    refine x_get (pc := 30) (ci := 4) (k := 12) (C := RX4) (T := TX4) (N := 21) cell_model rfl (by decide) rfl nX4 (by decide) mF_X4_149 rfl dX4_readThing_30 ?_
    try dsimp only
    show XJ _ _ _ _ _ _ (.int (N 12) :: _) _ _ _ _
    rw [hw]
    refine x_ifne (pc := 33) 72 dX4_readThing_33 (by decide) (fun c33 => absurd rfl c33) (fun c33 => ?_)
    refine x_aload_n (pc := 36) dX4_readThing_36 rfl ?_
    refine x_get (pc := 37) (ci := 4) (k := 13) (C := RX4) (T := TX4) (N := 21) cell_model rfl (by decide) rfl nX4 (by decide) mF_X4_162 rfl dX4_readThing_37 ?_
    try dsimp only
    show XJ _ _ _ _ _ _ (.int (x) :: _) _ _ _ _
    refine x_bipush (pc := 40) (99) dX4_readThing_40 (by decide) ?_
    refine x_cmpeq (pc := 42) 76 dX4_readThing_42 (by decide) (fun c42 => ?_) (fun c42 => ?_)
    · refine x_iconst (pc := 76) (0) dX4_readThing_76 (by decide) ?_
      refine t_putM (pc := 77) 12 (by unfold isMF; decide) rfl rfl mF_X4_149 dX4_readThing_77 ?_
      try dsimp only
      refine x_aload_n (pc := 80) dX4_readThing_80 rfl ?_
      refine x_dup (pc := 81) dX4_readThing_81 rfl ?_
      refine x_get (pc := 82) (ci := 4) (k := 11) (C := RX4) (T := TX4) (N := 21) cell_model rfl (by decide) rfl nX4 (by decide) mF_X4_153 rfl dX4_readThing_82 ?_
      try dsimp only
      show XJ _ _ _ _ _ _ (.int (N 11) :: _) _ _ _ _
      rw [hp]
      refine x_aload_n (pc := 85) dX4_readThing_85 rfl ?_
      refine x_get (pc := 86) (ci := 4) (k := 12) (C := RX4) (T := TX4) (N := 21) cell_model rfl (by decide) rfl nX4 (by decide) mF_X4_149 rfl dX4_readThing_86 ?_
      try dsimp only
      show XJ _ _ _ _ _ _ (.int (0) :: _) _ _ _ _
      refine x_ifeq (pc := 89) 96 dX4_readThing_89 (by decide) (fun c89 => ?_) (fun c89 => absurd rfl c89)
      refine x_iconst (pc := 96) (1) dX4_readThing_96 (by decide) ?_
      refine x_iadd (pc := 97) dX4_readThing_97 ?_
      try dsimp only
      rw [nI_1]
      refine t_putM (pc := 98) 11 (by unfold isMF; decide) rfl rfl mF_X4_153 dX4_readThing_98 ?_
      try dsimp only
      refine x_aload_n (pc := 101) dX4_readThing_101 rfl ?_
      refine x_aload_n (pc := 102) dX4_readThing_102 rfl ?_
      refine x_get (pc := 103) (ci := 4) (k := 13) (C := RX4) (T := TX4) (N := 21) cell_model rfl (by decide) rfl nX4 (by decide) mF_X4_162 rfl dX4_readThing_103 ?_
      try dsimp only
      show XJ _ _ _ _ _ _ (.int (x) :: _) _ _ _ _
      refine x_bipush (pc := 106) (107) dX4_readThing_106 (by decide) ?_
      refine x_cmpne (pc := 108) 115 dX4_readThing_108 (by decide) (fun c108 => ?_) (fun c108 => absurd (c42.symm.trans c108) (by decide))
      refine x_aload_n (pc := 115) dX4_readThing_115 rfl ?_
      refine x_get (pc := 116) (ci := 4) (k := 13) (C := RX4) (T := TX4) (N := 21) cell_model rfl (by decide) rfl nX4 (by decide) mF_X4_162 rfl dX4_readThing_116 ?_
      try dsimp only
      show XJ _ _ _ _ _ _ (.int (x) :: _) _ _ _ _
      refine x_bipush (pc := 119) (119) dX4_readThing_119 (by decide) ?_
      refine x_cmpne (pc := 121) 135 dX4_readThing_121 (by decide) (fun c121 => ?_) (fun c121 => absurd (c42.symm.trans c121) (by decide))
      refine x_aload_n (pc := 135) dX4_readThing_135 rfl ?_
      refine x_iconst (pc := 136) (0) dX4_readThing_136 (by decide) ?_
      refine x_bipush (pc := 137) (11) dX4_readThing_137 (by decide) ?_
      refine t_Vi (pc := 139) (c_X4_takesNumber (N := upd (upd (upd N 13 x) 12 0) 11 (nI (p + 1))) (p := p + 1) hn h60 rfl (by omega) false rfl (lo := 0) (g := 11) (Or.inl ⟨rfl, rfl⟩) (by decide)) qV_X4_takesNumber mL_X4_165 dX4_readThing_139 rfl cell_model (by decide) rfl rfl rfl ⟨by decide, by decide⟩ (Nat.le_of_ble_eq_true rfl) (Nat.le_of_ble_eq_true rfl) (Nat.le_of_ble_eq_true rfl) ?_
      skip
      refine t_putM (pc := 142) 14 (by unfold isMF; decide) rfl rfl mF_X4_168 dX4_readThing_142 ?_
      try dsimp only
      refine x_aload_n (pc := 145) dX4_readThing_145 rfl ?_
      refine x_iconst (pc := 146) (0) dX4_readThing_146 (by decide) ?_
      refine t_putM (pc := 147) 15 (by unfold isMF; decide) rfl rfl mF_X4_171 dX4_readThing_147 ?_
      try dsimp only
      refine x_aload_n (pc := 150) dX4_readThing_150 rfl ?_
      refine x_get (pc := 151) (ci := 4) (k := 13) (C := RX4) (T := TX4) (N := 21) cell_model rfl (by decide) rfl nX4 (by decide) mF_X4_162 rfl dX4_readThing_151 ?_
      try dsimp only
      show XJ _ _ _ _ _ _ (.int (x) :: _) _ _ _ _
      refine x_bipush (pc := 154) (108) dX4_readThing_154 (by decide) ?_
      refine x_cmpne (pc := 156) 180 dX4_readThing_156 (by decide) (fun c156 => ?_) (fun c156 => absurd (c42.symm.trans c156) (by decide))
      obtain ⟨e1, e2, e3⟩ := rd_c (L := tx) (n := n) (p := p) (hx.symm.trans c42)
      refine x_vret rfl dX4_readThing_180 ⟨_, rfl, rfl, rfl, fun k hk => by repeat rw [upd_ne _ _ (by omega)], ?_, ?_, fun z => ?_⟩
      · rw [← e2]; rfl
      · rw [← e1]; rfl
      · rw [e3 z]; exact Or.inl ⟨rfl, c42, rfl⟩
    · refine x_aload_n (pc := 45) dX4_readThing_45 rfl ?_
      refine x_get (pc := 46) (ci := 4) (k := 13) (C := RX4) (T := TX4) (N := 21) cell_model rfl (by decide) rfl nX4 (by decide) mF_X4_162 rfl dX4_readThing_46 ?_
      try dsimp only
      show XJ _ _ _ _ _ _ (.int (x) :: _) _ _ _ _
      refine x_bipush (pc := 49) (108) dX4_readThing_49 (by decide) ?_
      refine x_cmpeq (pc := 51) 76 dX4_readThing_51 (by decide) (fun c51 => ?_) (fun c51 => ?_)
      · refine x_iconst (pc := 76) (0) dX4_readThing_76 (by decide) ?_
        refine t_putM (pc := 77) 12 (by unfold isMF; decide) rfl rfl mF_X4_149 dX4_readThing_77 ?_
        try dsimp only
        refine x_aload_n (pc := 80) dX4_readThing_80 rfl ?_
        refine x_dup (pc := 81) dX4_readThing_81 rfl ?_
        refine x_get (pc := 82) (ci := 4) (k := 11) (C := RX4) (T := TX4) (N := 21) cell_model rfl (by decide) rfl nX4 (by decide) mF_X4_153 rfl dX4_readThing_82 ?_
        try dsimp only
        show XJ _ _ _ _ _ _ (.int (N 11) :: _) _ _ _ _
        rw [hp]
        refine x_aload_n (pc := 85) dX4_readThing_85 rfl ?_
        refine x_get (pc := 86) (ci := 4) (k := 12) (C := RX4) (T := TX4) (N := 21) cell_model rfl (by decide) rfl nX4 (by decide) mF_X4_149 rfl dX4_readThing_86 ?_
        try dsimp only
        show XJ _ _ _ _ _ _ (.int (0) :: _) _ _ _ _
        refine x_ifeq (pc := 89) 96 dX4_readThing_89 (by decide) (fun c89 => ?_) (fun c89 => absurd rfl c89)
        refine x_iconst (pc := 96) (1) dX4_readThing_96 (by decide) ?_
        refine x_iadd (pc := 97) dX4_readThing_97 ?_
        try dsimp only
        rw [nI_1]
        refine t_putM (pc := 98) 11 (by unfold isMF; decide) rfl rfl mF_X4_153 dX4_readThing_98 ?_
        try dsimp only
        refine x_aload_n (pc := 101) dX4_readThing_101 rfl ?_
        refine x_aload_n (pc := 102) dX4_readThing_102 rfl ?_
        refine x_get (pc := 103) (ci := 4) (k := 13) (C := RX4) (T := TX4) (N := 21) cell_model rfl (by decide) rfl nX4 (by decide) mF_X4_162 rfl dX4_readThing_103 ?_
        try dsimp only
        show XJ _ _ _ _ _ _ (.int (x) :: _) _ _ _ _
        refine x_bipush (pc := 106) (107) dX4_readThing_106 (by decide) ?_
        refine x_cmpne (pc := 108) 115 dX4_readThing_108 (by decide) (fun c108 => ?_) (fun c108 => absurd (c51.symm.trans c108) (by decide))
        refine x_aload_n (pc := 115) dX4_readThing_115 rfl ?_
        refine x_get (pc := 116) (ci := 4) (k := 13) (C := RX4) (T := TX4) (N := 21) cell_model rfl (by decide) rfl nX4 (by decide) mF_X4_162 rfl dX4_readThing_116 ?_
        try dsimp only
        show XJ _ _ _ _ _ _ (.int (x) :: _) _ _ _ _
        refine x_bipush (pc := 119) (119) dX4_readThing_119 (by decide) ?_
        refine x_cmpne (pc := 121) 135 dX4_readThing_121 (by decide) (fun c121 => ?_) (fun c121 => absurd (c51.symm.trans c121) (by decide))
        refine x_aload_n (pc := 135) dX4_readThing_135 rfl ?_
        refine x_iconst (pc := 136) (0) dX4_readThing_136 (by decide) ?_
        refine x_bipush (pc := 137) (11) dX4_readThing_137 (by decide) ?_
        refine t_Vi (pc := 139) (c_X4_takesNumber (N := upd (upd (upd N 13 x) 12 0) 11 (nI (p + 1))) (p := p + 1) hn h60 rfl (by omega) false rfl (lo := 0) (g := 11) (Or.inl ⟨rfl, rfl⟩) (by decide)) qV_X4_takesNumber mL_X4_165 dX4_readThing_139 rfl cell_model (by decide) rfl rfl rfl ⟨by decide, by decide⟩ (Nat.le_of_ble_eq_true rfl) (Nat.le_of_ble_eq_true rfl) (Nat.le_of_ble_eq_true rfl) ?_
        generalize htn : tnX tx n (p + 1) false 0 11 = tn
        obtain ⟨b1, b2⟩ := p1X_9 h60 hp6 htn
        refine t_putM (pc := 142) 14 (by unfold isMF; decide) rfl rfl mF_X4_168 dX4_readThing_142 ?_
        try dsimp only
        refine x_aload_n (pc := 145) dX4_readThing_145 rfl ?_
        refine x_iconst (pc := 146) (0) dX4_readThing_146 (by decide) ?_
        refine t_putM (pc := 147) 15 (by unfold isMF; decide) rfl rfl mF_X4_171 dX4_readThing_147 ?_
        try dsimp only
        refine x_aload_n (pc := 150) dX4_readThing_150 rfl ?_
        refine x_get (pc := 151) (ci := 4) (k := 13) (C := RX4) (T := TX4) (N := 21) cell_model rfl (by decide) rfl nX4 (by decide) mF_X4_162 rfl dX4_readThing_151 ?_
        try dsimp only
        show XJ _ _ _ _ _ _ (.int (x) :: _) _ _ _ _
        refine x_bipush (pc := 154) (108) dX4_readThing_154 (by decide) ?_
        refine x_cmpne (pc := 156) 180 dX4_readThing_156 (by decide) (fun c156 => absurd c51 c156) (fun c156 => ?_)
        refine x_aload_n (pc := 159) dX4_readThing_159 rfl ?_
        refine x_bipush (pc := 160) (64) dX4_readThing_160 (by decide) ?_
        refine x_bipush (pc := 162) (64) dX4_readThing_162 (by decide) ?_
        refine t_Vi (pc := 164) (c_X4_takesOne (N := upd (upd (upd (upd (upd (upd (upd N 13 x) 12 0) 11 (nI (p + 1))) 12 (b01 tn.1)) 11 (nI tn.2.1)) 14 tn.2.2) 15 0) (p := tn.2.1) hn h60 rfl b1 tn.1 rfl _ _) qV_X4_takesOne mL_X4_156 dX4_readThing_164 rfl cell_model (by decide) rfl rfl rfl ⟨by decide, by decide⟩ (Nat.le_of_ble_eq_true rfl) (Nat.le_of_ble_eq_true rfl) (Nat.le_of_ble_eq_true rfl) ?_
        refine x_istore_n (pc := 167) dX4_readThing_167 (by decide) ?_
        refine x_aload_n (pc := 168) dX4_readThing_168 rfl ?_
        refine x_aload_n (pc := 169) dX4_readThing_169 rfl ?_
        refine x_bipush (pc := 170) (48) dX4_readThing_170 (by decide) ?_
        refine x_bipush (pc := 172) (51) dX4_readThing_172 (by decide) ?_
        refine t_Vi (pc := 174) (c_X4_takesOne (N := upd (upd (upd (upd (upd (upd (upd (upd (upd N 13 x) 12 0) 11 (nI (p + 1))) 12 (b01 tn.1)) 11 (nI tn.2.1)) 14 tn.2.2) 15 0) 12 (b01 (tn.1 || !betw (chV tx n tn.2.1) 64 64))) 11 (nI (if (tn.1 || !betw (chV tx n tn.2.1) 64 64) then tn.2.1 else tn.2.1 + 1))) (p := (if (tn.1 || !betw (chV tx n tn.2.1) 64 64) then tn.2.1 else tn.2.1 + 1)) hn h60 rfl b2 (tn.1 || !betw (chV tx n tn.2.1) 64 64) rfl _ _) qV_X4_takesOne mL_X4_156 dX4_readThing_174 rfl cell_model (by decide) rfl rfl rfl ⟨by decide, by decide⟩ (Nat.le_of_ble_eq_true rfl) (Nat.le_of_ble_eq_true rfl) (Nat.le_of_ble_eq_true rfl) ?_
        refine t_putM (pc := 177) 15 (by unfold isMF; decide) rfl rfl mF_X4_171 dX4_readThing_177 ?_
        try dsimp only
        obtain ⟨e1, e2, e3⟩ := rd_l (L := tx) (n := n) (p := p) (hx.symm.trans c51) htn
        refine x_vret rfl dX4_readThing_180 ⟨_, rfl, rfl, rfl, fun k hk => by repeat rw [upd_ne _ _ (by omega)], ?_, ?_, fun z => ?_⟩
        · rw [← e2]; rfl
        · rw [← e1]; rfl
        · rw [e3 z]; exact Or.inr (Or.inl ⟨rfl, c51, rfl, rfl⟩)
      · refine x_aload_n (pc := 54) dX4_readThing_54 rfl ?_
        refine x_get (pc := 55) (ci := 4) (k := 13) (C := RX4) (T := TX4) (N := 21) cell_model rfl (by decide) rfl nX4 (by decide) mF_X4_162 rfl dX4_readThing_55 ?_
        try dsimp only
        show XJ _ _ _ _ _ _ (.int (x) :: _) _ _ _ _
        refine x_bipush (pc := 58) (119) dX4_readThing_58 (by decide) ?_
        refine x_cmpeq (pc := 60) 76 dX4_readThing_60 (by decide) (fun c60 => ?_) (fun c60 => ?_)
        · refine x_iconst (pc := 76) (0) dX4_readThing_76 (by decide) ?_
          refine t_putM (pc := 77) 12 (by unfold isMF; decide) rfl rfl mF_X4_149 dX4_readThing_77 ?_
          try dsimp only
          refine x_aload_n (pc := 80) dX4_readThing_80 rfl ?_
          refine x_dup (pc := 81) dX4_readThing_81 rfl ?_
          refine x_get (pc := 82) (ci := 4) (k := 11) (C := RX4) (T := TX4) (N := 21) cell_model rfl (by decide) rfl nX4 (by decide) mF_X4_153 rfl dX4_readThing_82 ?_
          try dsimp only
          show XJ _ _ _ _ _ _ (.int (N 11) :: _) _ _ _ _
          rw [hp]
          refine x_aload_n (pc := 85) dX4_readThing_85 rfl ?_
          refine x_get (pc := 86) (ci := 4) (k := 12) (C := RX4) (T := TX4) (N := 21) cell_model rfl (by decide) rfl nX4 (by decide) mF_X4_149 rfl dX4_readThing_86 ?_
          try dsimp only
          show XJ _ _ _ _ _ _ (.int (0) :: _) _ _ _ _
          refine x_ifeq (pc := 89) 96 dX4_readThing_89 (by decide) (fun c89 => ?_) (fun c89 => absurd rfl c89)
          refine x_iconst (pc := 96) (1) dX4_readThing_96 (by decide) ?_
          refine x_iadd (pc := 97) dX4_readThing_97 ?_
          try dsimp only
          rw [nI_1]
          refine t_putM (pc := 98) 11 (by unfold isMF; decide) rfl rfl mF_X4_153 dX4_readThing_98 ?_
          try dsimp only
          refine x_aload_n (pc := 101) dX4_readThing_101 rfl ?_
          refine x_aload_n (pc := 102) dX4_readThing_102 rfl ?_
          refine x_get (pc := 103) (ci := 4) (k := 13) (C := RX4) (T := TX4) (N := 21) cell_model rfl (by decide) rfl nX4 (by decide) mF_X4_162 rfl dX4_readThing_103 ?_
          try dsimp only
          show XJ _ _ _ _ _ _ (.int (x) :: _) _ _ _ _
          refine x_bipush (pc := 106) (107) dX4_readThing_106 (by decide) ?_
          refine x_cmpne (pc := 108) 115 dX4_readThing_108 (by decide) (fun c108 => ?_) (fun c108 => absurd (c60.symm.trans c108) (by decide))
          refine x_aload_n (pc := 115) dX4_readThing_115 rfl ?_
          refine x_get (pc := 116) (ci := 4) (k := 13) (C := RX4) (T := TX4) (N := 21) cell_model rfl (by decide) rfl nX4 (by decide) mF_X4_162 rfl dX4_readThing_116 ?_
          try dsimp only
          show XJ _ _ _ _ _ _ (.int (x) :: _) _ _ _ _
          refine x_bipush (pc := 119) (119) dX4_readThing_119 (by decide) ?_
          refine x_cmpne (pc := 121) 135 dX4_readThing_121 (by decide) (fun c121 => absurd c60 c121) (fun c121 => ?_)
          refine x_aload_n (pc := 124) dX4_readThing_124 rfl ?_
          refine x_iconst (pc := 125) (1) dX4_readThing_125 (by decide) ?_
          refine x_sipush (pc := 126) (999) dX4_readThing_126 (by decide) ?_
          refine t_Vi (pc := 129) (c_X4_takesNumber (N := upd (upd (upd N 13 x) 12 0) 11 (nI (p + 1))) (p := p + 1) hn h60 rfl (by omega) false rfl (lo := 1) (g := 999) (Or.inr (Or.inl ⟨rfl, rfl⟩)) (by decide)) qV_X4_takesNumber mL_X4_165 dX4_readThing_129 rfl cell_model (by decide) rfl rfl rfl ⟨by decide, by decide⟩ (Nat.le_of_ble_eq_true rfl) (Nat.le_of_ble_eq_true rfl) (Nat.le_of_ble_eq_true rfl) ?_
          refine x_goto (pc := 132) 142 dX4_readThing_132 (by decide) ?_
          refine t_putM (pc := 142) 14 (by unfold isMF; decide) rfl rfl mF_X4_168 dX4_readThing_142 ?_
          try dsimp only
          refine x_aload_n (pc := 145) dX4_readThing_145 rfl ?_
          refine x_iconst (pc := 146) (0) dX4_readThing_146 (by decide) ?_
          refine t_putM (pc := 147) 15 (by unfold isMF; decide) rfl rfl mF_X4_171 dX4_readThing_147 ?_
          try dsimp only
          refine x_aload_n (pc := 150) dX4_readThing_150 rfl ?_
          refine x_get (pc := 151) (ci := 4) (k := 13) (C := RX4) (T := TX4) (N := 21) cell_model rfl (by decide) rfl nX4 (by decide) mF_X4_162 rfl dX4_readThing_151 ?_
          try dsimp only
          show XJ _ _ _ _ _ _ (.int (x) :: _) _ _ _ _
          refine x_bipush (pc := 154) (108) dX4_readThing_154 (by decide) ?_
          refine x_cmpne (pc := 156) 180 dX4_readThing_156 (by decide) (fun c156 => ?_) (fun c156 => absurd (c60.symm.trans c156) (by decide))
          obtain ⟨e1, e2, e3⟩ := rd_w (L := tx) (n := n) (p := p) (hx.symm.trans c60)
          refine x_vret rfl dX4_readThing_180 ⟨_, rfl, rfl, rfl, fun k hk => by repeat rw [upd_ne _ _ (by omega)], ?_, ?_, fun z => ?_⟩
          · rw [← e2]; rfl
          · rw [← e1]; rfl
          · rw [(e3 z).1]; exact Or.inr (Or.inr (Or.inl ⟨rfl, c60, rfl, (e3 z).2⟩))
        · refine x_aload_n (pc := 63) dX4_readThing_63 rfl ?_
          refine x_get (pc := 64) (ci := 4) (k := 13) (C := RX4) (T := TX4) (N := 21) cell_model rfl (by decide) rfl nX4 (by decide) mF_X4_162 rfl dX4_readThing_64 ?_
          try dsimp only
          show XJ _ _ _ _ _ _ (.int (x) :: _) _ _ _ _
          refine x_bipush (pc := 67) (107) dX4_readThing_67 (by decide) ?_
          refine x_cmpeq (pc := 69) 76 dX4_readThing_69 (by decide) (fun c69 => ?_) (fun c69 => ?_)
          · refine x_iconst (pc := 76) (0) dX4_readThing_76 (by decide) ?_
            refine t_putM (pc := 77) 12 (by unfold isMF; decide) rfl rfl mF_X4_149 dX4_readThing_77 ?_
            try dsimp only
            refine x_aload_n (pc := 80) dX4_readThing_80 rfl ?_
            refine x_dup (pc := 81) dX4_readThing_81 rfl ?_
            refine x_get (pc := 82) (ci := 4) (k := 11) (C := RX4) (T := TX4) (N := 21) cell_model rfl (by decide) rfl nX4 (by decide) mF_X4_153 rfl dX4_readThing_82 ?_
            try dsimp only
            show XJ _ _ _ _ _ _ (.int (N 11) :: _) _ _ _ _
            rw [hp]
            refine x_aload_n (pc := 85) dX4_readThing_85 rfl ?_
            refine x_get (pc := 86) (ci := 4) (k := 12) (C := RX4) (T := TX4) (N := 21) cell_model rfl (by decide) rfl nX4 (by decide) mF_X4_149 rfl dX4_readThing_86 ?_
            try dsimp only
            show XJ _ _ _ _ _ _ (.int (0) :: _) _ _ _ _
            refine x_ifeq (pc := 89) 96 dX4_readThing_89 (by decide) (fun c89 => ?_) (fun c89 => absurd rfl c89)
            refine x_iconst (pc := 96) (1) dX4_readThing_96 (by decide) ?_
            refine x_iadd (pc := 97) dX4_readThing_97 ?_
            try dsimp only
            rw [nI_1]
            refine t_putM (pc := 98) 11 (by unfold isMF; decide) rfl rfl mF_X4_153 dX4_readThing_98 ?_
            try dsimp only
            refine x_aload_n (pc := 101) dX4_readThing_101 rfl ?_
            refine x_aload_n (pc := 102) dX4_readThing_102 rfl ?_
            refine x_get (pc := 103) (ci := 4) (k := 13) (C := RX4) (T := TX4) (N := 21) cell_model rfl (by decide) rfl nX4 (by decide) mF_X4_162 rfl dX4_readThing_103 ?_
            try dsimp only
            show XJ _ _ _ _ _ _ (.int (x) :: _) _ _ _ _
            refine x_bipush (pc := 106) (107) dX4_readThing_106 (by decide) ?_
            refine x_cmpne (pc := 108) 115 dX4_readThing_108 (by decide) (fun c108 => absurd c69 c108) (fun c108 => ?_)
            refine x_iconst (pc := 111) (0) dX4_readThing_111 (by decide) ?_
            refine x_goto (pc := 112) 142 dX4_readThing_112 (by decide) ?_
            refine t_putM (pc := 142) 14 (by unfold isMF; decide) rfl rfl mF_X4_168 dX4_readThing_142 ?_
            try dsimp only
            refine x_aload_n (pc := 145) dX4_readThing_145 rfl ?_
            refine x_iconst (pc := 146) (0) dX4_readThing_146 (by decide) ?_
            refine t_putM (pc := 147) 15 (by unfold isMF; decide) rfl rfl mF_X4_171 dX4_readThing_147 ?_
            try dsimp only
            refine x_aload_n (pc := 150) dX4_readThing_150 rfl ?_
            refine x_get (pc := 151) (ci := 4) (k := 13) (C := RX4) (T := TX4) (N := 21) cell_model rfl (by decide) rfl nX4 (by decide) mF_X4_162 rfl dX4_readThing_151 ?_
            try dsimp only
            show XJ _ _ _ _ _ _ (.int (x) :: _) _ _ _ _
            refine x_bipush (pc := 154) (108) dX4_readThing_154 (by decide) ?_
            refine x_cmpne (pc := 156) 180 dX4_readThing_156 (by decide) (fun c156 => ?_) (fun c156 => absurd (c69.symm.trans c156) (by decide))
            have er : rT tx n p = (true, p + 1, 3, 0, 0) := rTt_k (hx.symm.trans c69)
            rw [er]
            exact x_vret rfl dX4_readThing_180 ⟨_, rfl, rfl, rfl, fun k hk => by repeat rw [upd_ne _ _ (by omega)], rfl, rfl, fun _ => Or.inr (Or.inr (Or.inr ⟨rfl, c69⟩))⟩
          · refine x_iconst (pc := 72) (1) dX4_readThing_72 (by decide) ?_
            refine x_goto (pc := 73) 77 dX4_readThing_73 (by decide) ?_
            refine t_putM (pc := 77) 12 (by unfold isMF; decide) rfl rfl mF_X4_149 dX4_readThing_77 ?_
            try dsimp only
            refine x_aload_n (pc := 80) dX4_readThing_80 rfl ?_
            refine x_dup (pc := 81) dX4_readThing_81 rfl ?_
            refine x_get (pc := 82) (ci := 4) (k := 11) (C := RX4) (T := TX4) (N := 21) cell_model rfl (by decide) rfl nX4 (by decide) mF_X4_153 rfl dX4_readThing_82 ?_
            try dsimp only
            show XJ _ _ _ _ _ _ (.int (N 11) :: _) _ _ _ _
            rw [hp]
            refine x_aload_n (pc := 85) dX4_readThing_85 rfl ?_
            refine x_get (pc := 86) (ci := 4) (k := 12) (C := RX4) (T := TX4) (N := 21) cell_model rfl (by decide) rfl nX4 (by decide) mF_X4_149 rfl dX4_readThing_86 ?_
            try dsimp only
            show XJ _ _ _ _ _ _ (.int (1) :: _) _ _ _ _
            refine x_ifeq (pc := 89) 96 dX4_readThing_89 (by decide) (fun c89 => absurd c89 (by decide)) (fun c89 => ?_)
            refine x_iconst (pc := 92) (0) dX4_readThing_92 (by decide) ?_
            refine x_goto (pc := 93) 97 dX4_readThing_93 (by decide) ?_
            refine x_iadd (pc := 97) dX4_readThing_97 ?_
            try dsimp only
            rw [Int32.add_zero]
            refine t_putM (pc := 98) 11 (by unfold isMF; decide) rfl rfl mF_X4_153 dX4_readThing_98 ?_
            try dsimp only
            refine x_aload_n (pc := 101) dX4_readThing_101 rfl ?_
            refine x_aload_n (pc := 102) dX4_readThing_102 rfl ?_
            refine x_get (pc := 103) (ci := 4) (k := 13) (C := RX4) (T := TX4) (N := 21) cell_model rfl (by decide) rfl nX4 (by decide) mF_X4_162 rfl dX4_readThing_103 ?_
            try dsimp only
            show XJ _ _ _ _ _ _ (.int (x) :: _) _ _ _ _
            refine x_bipush (pc := 106) (107) dX4_readThing_106 (by decide) ?_
            refine x_cmpne (pc := 108) 115 dX4_readThing_108 (by decide) (fun c108 => ?_) (fun c108 => absurd c108 c69)
            refine x_aload_n (pc := 115) dX4_readThing_115 rfl ?_
            refine x_get (pc := 116) (ci := 4) (k := 13) (C := RX4) (T := TX4) (N := 21) cell_model rfl (by decide) rfl nX4 (by decide) mF_X4_162 rfl dX4_readThing_116 ?_
            try dsimp only
            show XJ _ _ _ _ _ _ (.int (x) :: _) _ _ _ _
            refine x_bipush (pc := 119) (119) dX4_readThing_119 (by decide) ?_
            refine x_cmpne (pc := 121) 135 dX4_readThing_121 (by decide) (fun c121 => ?_) (fun c121 => absurd c121 c60)
            refine x_aload_n (pc := 135) dX4_readThing_135 rfl ?_
            refine x_iconst (pc := 136) (0) dX4_readThing_136 (by decide) ?_
            refine x_bipush (pc := 137) (11) dX4_readThing_137 (by decide) ?_
            refine t_Vi (pc := 139) (c_X4_takesNumber (N := upd (upd (upd N 13 x) 12 1) 11 (nI p)) (p := p) hn h60 rfl (by omega) true rfl (lo := 0) (g := 11) (Or.inl ⟨rfl, rfl⟩) (by decide)) qV_X4_takesNumber mL_X4_165 dX4_readThing_139 rfl cell_model (by decide) rfl rfl rfl ⟨by decide, by decide⟩ (Nat.le_of_ble_eq_true rfl) (Nat.le_of_ble_eq_true rfl) (Nat.le_of_ble_eq_true rfl) ?_
            skip
            refine t_putM (pc := 142) 14 (by unfold isMF; decide) rfl rfl mF_X4_168 dX4_readThing_142 ?_
            try dsimp only
            refine x_aload_n (pc := 145) dX4_readThing_145 rfl ?_
            refine x_iconst (pc := 146) (0) dX4_readThing_146 (by decide) ?_
            refine t_putM (pc := 147) 15 (by unfold isMF; decide) rfl rfl mF_X4_171 dX4_readThing_147 ?_
            try dsimp only
            refine x_aload_n (pc := 150) dX4_readThing_150 rfl ?_
            refine x_get (pc := 151) (ci := 4) (k := 13) (C := RX4) (T := TX4) (N := 21) cell_model rfl (by decide) rfl nX4 (by decide) mF_X4_162 rfl dX4_readThing_151 ?_
            try dsimp only
            show XJ _ _ _ _ _ _ (.int (x) :: _) _ _ _ _
            refine x_bipush (pc := 154) (108) dX4_readThing_154 (by decide) ?_
            refine x_cmpne (pc := 156) 180 dX4_readThing_156 (by decide) (fun c156 => ?_) (fun c156 => absurd c156 c51)
            have er : rT tx n p = (false, p, 0, 0, 0) := rTt_o (by rw [← hx]; exact c42) (by rw [← hx]; exact c51) (by rw [← hx]; exact c60) (by rw [← hx]; exact c69)
            rw [er]
            exact x_vret rfl dX4_readThing_180 ⟨_, rfl, rfl, rfl, fun k hk => by repeat rw [upd_ne _ _ (by omega)], rfl, rfl, fun z => by cases z⟩
  refine x_aload_n (pc := 0) dX4_readThing_0 rfl ?_
  refine x_aload_n (pc := 1) dX4_readThing_1 rfl ?_
  refine x_get (pc := 2) (ci := 4) (k := 11) (C := RX4) (T := TX4) (N := 21) cell_model rfl (by decide) rfl nX4 (by decide) mF_X4_153 rfl dX4_readThing_2 ?_
  try dsimp only
  try dsimp only
  rw [hp]
  refine x_aload_n (pc := 5) dX4_readThing_5 rfl ?_
  refine x_get (pc := 6) (ci := 4) (k := 8) (C := RX4) (T := TX4) (N := 21) cell_model rfl (by decide) rfl nX4 (by decide) mF_X4_146 rfl dX4_readThing_6 ?_
  try dsimp only
  try dsimp only
  rw [hn]
  refine x_cmpge (pc := 9) 24 dX4_readThing_9 (by decide) (fun c9 => ?_) (fun c9 => ?_)
  · have hc : chV tx n p = 0 := if_neg (fun z => c9 ((nI_ltI (by omega) (by omega)).mpr z))
    refine x_iconst (pc := 24) (0) dX4_readThing_24 (by decide) ?_
    exact x_back (tl _ hc.symm) ⟨rfl, trivial⟩
  · have hpn : p < n := (nI_ltI (by omega) (by omega)).mp c9
    have hc : chV tx n p = tx p := if_pos hpn
    refine x_aload_n (pc := 12) dX4_readThing_12 rfl ?_
    refine x_get (pc := 13) (ci := 4) (k := 7) (C := RX4) (T := TX4) (N := 21) cell_model rfl (by decide) rfl nX4 (by decide) mF_X4_25 rfl dX4_readThing_13 ?_
    refine x_aload_n (pc := 16) dX4_readThing_16 rfl ?_
    refine x_get (pc := 17) (ci := 4) (k := 11) (C := RX4) (T := TX4) (N := 21) cell_model rfl (by decide) rfl nX4 (by decide) mF_X4_153 rfl dX4_readThing_17 ?_
    try dsimp only
    try dsimp only
    rw [hp]
    refine t_ild (pc := 20) p cell_text (by decide) rfl (by omega) (by decide) dX4_readThing_20 ?_
    try dsimp only
    refine x_goto (pc := 21) 25 dX4_readThing_21 (by decide) ?_
    exact x_back (tl _ hc.symm) ⟨rfl, trivial⟩
set_option maxHeartbeats 4000000 in
set_option maxRecDepth 100000 in
theorem c_X4_does {T : Fs × Fs × Fs × Fs × Fs × Fs} {t : Th} (hT : thR N t) (hM : RM s A) (hV : VA A) : Ct G yX4_does YX4_does 0 0 [.ref (gB G + 247)] 255 (cellOf G S B (N, s, T)) (Re G (some (.int (thX A t).1)) (fun _ : Fs => S) (fun _ => B) (fun s' : Fs => (N, s', T)) (fun s' => RM s' ((thX A t).2))) := by
  refine ct_of (by decide +kernel) rfl rfl (Nat.le_of_ble_eq_true rfl) (by simp [Value.category]) ?_
  refine x_sub (l' := [(0, .ref (gB G + 247))]) ⟨rfl, trivial⟩ ?_
  refine x_aload_n (pc := 0) dX4_does_0 rfl ?_
  refine x_get (pc := 1) (ci := 4) (k := 13) (C := RX4) (T := TX4) (N := 21) cell_model rfl (by decide) rfl nX4 (by decide) mF_X4_162 rfl dX4_does_1 ?_
  try dsimp only
  skip
  rcases hT with ⟨h, h13, h14⟩ | ⟨h, h13, h14, h15⟩ | ⟨h, h13, h14, hb⟩ | ⟨h, h13⟩
  · rw [h13]
    have hX : thX A t = cutX A t.2.1 := by simp only [thX, h, if_true, if_false, (by decide : ¬ (1 : Int32) = 0), (by decide : ¬ (2 : Int32) = 0), (by decide : ¬ (2 : Int32) = 1), (by decide : ¬ (3 : Int32) = 0), (by decide : ¬ (3 : Int32) = 1), (by decide : ¬ (3 : Int32) = 2)]
    rw [hX]
    refine x_lookup (pc := 4) (off := 36) 40 dX4_does_4 (by decide) (by decide) (by decide) ?_
    refine x_aload_n (pc := 40) dX4_does_40 rfl ?_
    refine x_aload_n (pc := 41) dX4_does_41 rfl ?_
    refine x_get (pc := 42) (ci := 4) (k := 14) (C := RX4) (T := TX4) (N := 21) cell_model rfl (by decide) rfl nX4 (by decide) mF_X4_168 rfl dX4_does_42 ?_
    try dsimp only
    try dsimp only
    rw [h14]
    refine e_Vi (pc := 45) (c_X4_cuts hM hV _) qV_X4_cuts mL_X4_137 dX4_does_45 rfl cell_model (by decide) rfl rfl rfl ⟨by decide, by decide⟩ (Nat.le_of_ble_eq_true rfl) (Nat.le_of_ble_eq_true rfl) (Nat.le_of_ble_eq_true rfl) ?_
    intro s1 R1
    exact x_iret rfl dX4_does_48 ⟨s1, rfl, rfl, rfl, R1⟩
  · rw [h13]
    have hX : thX A t = leadX A t.2.1 t.2.2 := by simp only [thX, h, if_true, if_false, (by decide : ¬ (1 : Int32) = 0), (by decide : ¬ (2 : Int32) = 0), (by decide : ¬ (2 : Int32) = 1), (by decide : ¬ (3 : Int32) = 0), (by decide : ¬ (3 : Int32) = 1), (by decide : ¬ (3 : Int32) = 2)]
    rw [hX]
    refine x_lookup (pc := 4) (off := 45) 49 dX4_does_4 (by decide) (by decide) (by decide) ?_
    refine x_aload_n (pc := 49) dX4_does_49 rfl ?_
    refine x_aload_n (pc := 50) dX4_does_50 rfl ?_
    refine x_get (pc := 51) (ci := 4) (k := 14) (C := RX4) (T := TX4) (N := 21) cell_model rfl (by decide) rfl nX4 (by decide) mF_X4_168 rfl dX4_does_51 ?_
    try dsimp only
    try dsimp only
    rw [h14]
    refine x_aload_n (pc := 54) dX4_does_54 rfl ?_
    refine x_get (pc := 55) (ci := 4) (k := 15) (C := RX4) (T := TX4) (N := 21) cell_model rfl (by decide) rfl nX4 (by decide) mF_X4_171 rfl dX4_does_55 ?_
    try dsimp only
    try dsimp only
    rw [h15]
    refine e_Vi (pc := 58) (c_X4_leads hM _ _) qV_X4_leads mL_X4_128 dX4_does_58 rfl cell_model (by decide) rfl rfl rfl ⟨by decide, by decide⟩ (Nat.le_of_ble_eq_true rfl) (Nat.le_of_ble_eq_true rfl) (Nat.le_of_ble_eq_true rfl) ?_
    intro s1 R1
    exact x_iret rfl dX4_does_61 ⟨s1, rfl, rfl, rfl, R1⟩
  · rw [h13]
    have hX : thX A t = waitX A t.2.1 := by simp only [thX, h, if_true, if_false, (by decide : ¬ (1 : Int32) = 0), (by decide : ¬ (2 : Int32) = 0), (by decide : ¬ (2 : Int32) = 1), (by decide : ¬ (3 : Int32) = 0), (by decide : ¬ (3 : Int32) = 1), (by decide : ¬ (3 : Int32) = 2)]
    rw [hX]
    refine x_lookup (pc := 4) (off := 58) 62 dX4_does_4 (by decide) (by decide) (by decide) ?_
    refine x_aload_n (pc := 62) dX4_does_62 rfl ?_
    refine x_aload_n (pc := 63) dX4_does_63 rfl ?_
    refine x_get (pc := 64) (ci := 4) (k := 14) (C := RX4) (T := TX4) (N := 21) cell_model rfl (by decide) rfl nX4 (by decide) mF_X4_168 rfl dX4_does_64 ?_
    try dsimp only
    try dsimp only
    rw [h14]
    refine e_Vi (pc := 67) (c_X4_waits hM hV _ hb) qV_X4_waits mL_X4_140 dX4_does_67 rfl cell_model (by decide) rfl rfl rfl ⟨by decide, by decide⟩ (Nat.le_of_ble_eq_true rfl) (Nat.le_of_ble_eq_true rfl) (Nat.le_of_ble_eq_true rfl) ?_
    intro s1 R1
    exact x_iret rfl dX4_does_70 ⟨s1, rfl, rfl, rfl, R1⟩
  · rw [h13]
    have hX : thX A t = cleanX A := by simp only [thX, h, if_true, if_false, (by decide : ¬ (1 : Int32) = 0), (by decide : ¬ (2 : Int32) = 0), (by decide : ¬ (2 : Int32) = 1), (by decide : ¬ (3 : Int32) = 0), (by decide : ¬ (3 : Int32) = 1), (by decide : ¬ (3 : Int32) = 2)]
    rw [hX]
    refine x_lookup (pc := 4) (off := 67) 71 dX4_does_4 (by decide) (by decide) (by decide) ?_
    refine x_aload_n (pc := 71) dX4_does_71 rfl ?_
    refine e_Vi (pc := 72) (c_X4_cleans hM hV) qV_X4_cleans mL_X4_143 dX4_does_72 rfl cell_model (by decide) rfl rfl rfl ⟨by decide, by decide⟩ (Nat.le_of_ble_eq_true rfl) (Nat.le_of_ble_eq_true rfl) (Nat.le_of_ble_eq_true rfl) ?_
    intro s1 R1
    exact x_iret rfl dX4_does_75 ⟨s1, rfl, rfl, rfl, R1⟩
set_option maxHeartbeats 4000000 in
set_option maxRecDepth 100000 in
theorem lp0_X4_runs (hn : N 8 = nI n) (h60 : n ≤ 60) : ∀ f p (Nc : Fs) (m : Int32), (∀ k, k < 11 ∨ 16 < k → Nc k = N k) → Nc 11 = nI p → Nc 12 = b01 false → p ≤ 60 → n ≤ p + 2 * f → XJ G YX4_runs (fun _ => True) (Zx G (Rz G (fun a : Fs × Int32 => some (.int a.2)) (fun _ => S) (fun _ => B) (fun a => (a.1, s, sd, ah, sn, be, tx, od)) (fun a => (∀ k, k < 11 ∨ 16 < k → a.1 k = N k) ∧ (((plL tx n f p).1 = -1 ∧ a.1 12 = 0) ∨ ((plL tx n f p).1 ≠ -1 ∧ a.1 12 = 1 ∧ a.1 11 = (plL tx n f p).1)))) 0 0) 19 [(0, .ref (gB G + 247)), (1, .int 0), (2, .int m), (3, .int 1)] [] 255 (cellOf G S B (Nc, s, sd, ah, sn, be, tx, od)) 0 0 := by
  intro f
  induction f with
  | zero =>
    intro p Nc m hf hp hw hp6 hnp
    have hn1 : Nc 8 = nI n := (hf 8 (Or.inl (by decide))).trans hn
    have er := rT_ge (L := tx) (n := n) (p := p) (by omega)
    have ex : plL tx n 0 p = (nI p, []) := rfl
    refine x_iload_n (pc := 19) dX4_runs_19 rfl ?_
    refine x_ifeq (pc := 20) 139 dX4_runs_20 (by decide) (fun h => absurd h (by decide)) (fun _ => ?_)
    refine x_aload_n (pc := 23) dX4_runs_23 rfl ?_
    refine e_Vv (pc := 24) (c_X4_readThing (N := Nc) hn1 h60 hp hp6 hw) qV_X4_readThing mL_X4_177 dX4_runs_24 rfl cell_model (by decide) rfl rfl rfl ⟨by decide, by decide⟩ (Nat.le_of_ble_eq_true rfl) (Nat.le_of_ble_eq_true rfl) (Nat.le_of_ble_eq_true rfl) ?_
    intro N1 h1
    obtain ⟨f1, q1, w1, r1⟩ := h1
    refine x_iload_n (pc := 27) dX4_runs_27 rfl ?_
    refine x_ifeq (pc := 28) 38 dX4_runs_28 (by decide) (fun _ => ?_) (fun h => absurd h (by decide))
    refine x_iconst (pc := 38) (0) dX4_runs_38 (by decide) ?_
    refine x_istore (pc := 39) dX4_runs_39 (by decide) ?_
    refine x_aload_n (pc := 41) dX4_runs_41 rfl ?_
    refine x_iload (pc := 42) dX4_runs_42 rfl ?_
    refine x_ifge (pc := 44) 59 dX4_runs_44 (by decide) (fun _ => ?_) (fun h => absurd h (by decide))
    refine x_iconst (pc := 59) (0) dX4_runs_59 (by decide) ?_
    refine t_putM (pc := 60) 16 (by unfold isMF; decide) rfl rfl mF_X4_174 dX4_runs_60 ?_
    try dsimp only
    refine x_iload_n (pc := 63) dX4_runs_63 rfl ?_
    refine x_aload_n (pc := 64) dX4_runs_64 rfl ?_
    refine x_get (pc := 65) (ci := 4) (k := 16) (C := RX4) (T := TX4) (N := 21) cell_model rfl (by decide) rfl nX4 (by decide) mF_X4_174 rfl dX4_runs_65 ?_
    try dsimp only
    show XJ _ _ _ _ _ _ (.int (0) :: _) _ _ _ _
    refine x_ifge (pc := 68) 75 dX4_runs_68 (by decide) (fun c68 => ?_) (fun c68 => absurd c68 (by decide))
    refine x_iconst (pc := 75) (1) dX4_runs_75 (by decide) ?_
    refine x_iadd (pc := 76) dX4_runs_76 ?_
    refine x_istore_n (pc := 77) dX4_runs_77 (by decide) ?_
    refine x_aload_n (pc := 78) dX4_runs_78 rfl ?_
    refine x_get (pc := 79) (ci := 4) (k := 16) (C := RX4) (T := TX4) (N := 21) cell_model rfl (by decide) rfl nX4 (by decide) mF_X4_174 rfl dX4_runs_79 ?_
    try dsimp only
    show XJ _ _ _ _ _ _ (.int (0) :: _) _ _ _ _
    refine x_ifne (pc := 82) 107 dX4_runs_82 (by decide) (fun c82 => absurd rfl c82) (fun c82 => ?_)
    refine x_aload_n (pc := 85) dX4_runs_85 rfl ?_
    refine x_get (pc := 86) (ci := 4) (k := 12) (C := RX4) (T := TX4) (N := 21) cell_model rfl (by decide) rfl nX4 (by decide) mF_X4_149 rfl dX4_runs_86 ?_
    try dsimp only
    show XJ _ _ _ _ _ _ (.int (N1 12) :: _) _ _ _ _
    rw [w1]
    refine x_ifne (pc := 89) 107 dX4_runs_89 (by decide) (fun c89 => ?_) (fun c89 => absurd (show (1 : Int32) = 0 by rw [er] at c89; exact c89) (by decide))
    refine x_iconst (pc := 107) (0) dX4_runs_107 (by decide) ?_
    refine x_istore_n (pc := 108) dX4_runs_108 (by decide) ?_
    refine x_iload_n (pc := 109) dX4_runs_109 rfl ?_
    refine x_ifeq (pc := 110) 136 dX4_runs_110 (by decide) (fun _ => ?_) (fun h => absurd h (by decide))
    refine x_goto (pc := 136) 19 dX4_runs_136 (by decide) ?_
    refine x_iload_n (pc := 19) dX4_runs_19 rfl ?_
    refine x_ifeq (pc := 20) 139 dX4_runs_20 (by decide) (fun _ => ?_) (fun h => absurd h (by decide))
    refine x_iload_n (pc := 139) dX4_runs_139 rfl ?_
    exact x_iret rfl dX4_runs_140 ⟨(upd N1 16 0, _), rfl, rfl, rfl, fun k hk => by show (upd N1 16 0) k = N k; (repeat rw [upd_ne _ _ (by omega)]); exact (f1 k (by omega)).trans (hf k hk), Or.inr ⟨by rw [ex]; exact nI_ne1 (by omega), w1.trans (by rw [er]; rfl), q1.trans (by rw [er]; rfl)⟩⟩
  | succ f ih =>
    intro p Nc m hf hp hw hp6 hnp
    have hn1 : Nc 8 = nI n := (hf 8 (Or.inl (by decide))).trans hn
    have h6 := rT_60 (L := tx) h60 hp6
    have hne := nI_ne1 (q := (rT tx n p).2.1) (by omega)
    refine x_iload_n (pc := 19) dX4_runs_19 rfl ?_
    refine x_ifeq (pc := 20) 139 dX4_runs_20 (by decide) (fun h => absurd h (by decide)) (fun _ => ?_)
    refine x_aload_n (pc := 23) dX4_runs_23 rfl ?_
    refine e_Vv (pc := 24) (c_X4_readThing (N := Nc) hn1 h60 hp hp6 hw) qV_X4_readThing mL_X4_177 dX4_runs_24 rfl cell_model (by decide) rfl rfl rfl ⟨by decide, by decide⟩ (Nat.le_of_ble_eq_true rfl) (Nat.le_of_ble_eq_true rfl) (Nat.le_of_ble_eq_true rfl) ?_
    intro N1 h1
    obtain ⟨f1, q1, w1, r1⟩ := h1
    have hn2 : N1 8 = nI n := (f1 8 (Or.inl (by decide))).trans hn1
    refine x_iload_n (pc := 27) dX4_runs_27 rfl ?_
    refine x_ifeq (pc := 28) 38 dX4_runs_28 (by decide) (fun _ => ?_) (fun h => absurd h (by decide))
    refine x_iconst (pc := 38) (0) dX4_runs_38 (by decide) ?_
    refine x_istore (pc := 39) dX4_runs_39 (by decide) ?_
    refine x_aload_n (pc := 41) dX4_runs_41 rfl ?_
    refine x_iload (pc := 42) dX4_runs_42 rfl ?_
    refine x_ifge (pc := 44) 59 dX4_runs_44 (by decide) (fun _ => ?_) (fun h => absurd h (by decide))
    refine x_iconst (pc := 59) (0) dX4_runs_59 (by decide) ?_
    refine t_putM (pc := 60) 16 (by unfold isMF; decide) rfl rfl mF_X4_174 dX4_runs_60 ?_
    try dsimp only
    refine x_iload_n (pc := 63) dX4_runs_63 rfl ?_
    refine x_aload_n (pc := 64) dX4_runs_64 rfl ?_
    refine x_get (pc := 65) (ci := 4) (k := 16) (C := RX4) (T := TX4) (N := 21) cell_model rfl (by decide) rfl nX4 (by decide) mF_X4_174 rfl dX4_runs_65 ?_
    try dsimp only
    show XJ _ _ _ _ _ _ (.int (0) :: _) _ _ _ _
    refine x_ifge (pc := 68) 75 dX4_runs_68 (by decide) (fun c68 => ?_) (fun c68 => absurd c68 (by decide))
    refine x_iconst (pc := 75) (1) dX4_runs_75 (by decide) ?_
    refine x_iadd (pc := 76) dX4_runs_76 ?_
    refine x_istore_n (pc := 77) dX4_runs_77 (by decide) ?_
    refine x_aload_n (pc := 78) dX4_runs_78 rfl ?_
    refine x_get (pc := 79) (ci := 4) (k := 16) (C := RX4) (T := TX4) (N := 21) cell_model rfl (by decide) rfl nX4 (by decide) mF_X4_174 rfl dX4_runs_79 ?_
    try dsimp only
    show XJ _ _ _ _ _ _ (.int (0) :: _) _ _ _ _
    refine x_ifne (pc := 82) 107 dX4_runs_82 (by decide) (fun c82 => absurd rfl c82) (fun c82 => ?_)
    refine x_aload_n (pc := 85) dX4_runs_85 rfl ?_
    refine x_get (pc := 86) (ci := 4) (k := 12) (C := RX4) (T := TX4) (N := 21) cell_model rfl (by decide) rfl nX4 (by decide) mF_X4_149 rfl dX4_runs_86 ?_
    try dsimp only
    show XJ _ _ _ _ _ _ (.int (N1 12) :: _) _ _ _ _
    rw [w1]
    refine x_ifne (pc := 89) 107 dX4_runs_89 (by decide) (fun c89 => ?_) (fun c89 => ?_)
    · have ht : (rT tx n p).1 = false := by have := b01_ne c89; simpa using this
      refine x_iconst (pc := 107) (0) dX4_runs_107 (by decide) ?_
      refine x_istore_n (pc := 108) dX4_runs_108 (by decide) ?_
      refine x_iload_n (pc := 109) dX4_runs_109 rfl ?_
      refine x_ifeq (pc := 110) 136 dX4_runs_110 (by decide) (fun _ => ?_) (fun h => absurd h (by decide))
      refine x_goto (pc := 136) 19 dX4_runs_136 (by decide) ?_
      refine x_iload_n (pc := 19) dX4_runs_19 rfl ?_
      refine x_ifeq (pc := 20) 139 dX4_runs_20 (by decide) (fun _ => ?_) (fun h => absurd h (by decide))
      refine x_iload_n (pc := 139) dX4_runs_139 rfl ?_
      have ex : (plL tx n (f + 1) p) = (nI (rT tx n p).2.1, []) := by simp only [plL, ht, Bool.false_eq_true, if_false]
      rw [ex]
      exact x_iret rfl dX4_runs_140 ⟨(upd N1 16 0, _), rfl, rfl, rfl, fun k hk => by show (upd N1 16 0) k = N k; (repeat rw [upd_ne _ _ (by omega)]); exact (f1 k (by omega)).trans (hf k hk), Or.inr ⟨hne, w1.trans (by rw [ht]; rfl), q1⟩⟩
    · have ht : (rT tx n p).1 = true := by have := b01_eq c89; simpa using this
      refine x_aload_n (pc := 92) dX4_runs_92 rfl ?_
      refine x_get (pc := 93) (ci := 4) (k := 11) (C := RX4) (T := TX4) (N := 21) cell_model rfl (by decide) rfl nX4 (by decide) mF_X4_153 rfl dX4_runs_93 ?_
      try dsimp only
      show XJ _ _ _ _ _ _ (.int (N1 11) :: _) _ _ _ _
      rw [q1]
      refine x_aload_n (pc := 96) dX4_runs_96 rfl ?_
      refine x_get (pc := 97) (ci := 4) (k := 8) (C := RX4) (T := TX4) (N := 21) cell_model rfl (by decide) rfl nX4 (by decide) mF_X4_146 rfl dX4_runs_97 ?_
      try dsimp only
      show XJ _ _ _ _ _ _ (.int (N1 8) :: _) _ _ _ _
      rw [hn2]
      refine x_cmpge (pc := 100) 107 dX4_runs_100 (by decide) (fun c100 => ?_) (fun c100 => ?_)
      · have hge : n ≤ (rT tx n p).2.1 := Nat.not_lt.mp (fun z => c100 ((nI_ltI (by omega) (by omega)).mpr z))
        refine x_iconst (pc := 107) (0) dX4_runs_107 (by decide) ?_
        refine x_istore_n (pc := 108) dX4_runs_108 (by decide) ?_
        refine x_iload_n (pc := 109) dX4_runs_109 rfl ?_
        refine x_ifeq (pc := 110) 136 dX4_runs_110 (by decide) (fun _ => ?_) (fun h => absurd h (by decide))
        refine x_goto (pc := 136) 19 dX4_runs_136 (by decide) ?_
        refine x_iload_n (pc := 19) dX4_runs_19 rfl ?_
        refine x_ifeq (pc := 20) 139 dX4_runs_20 (by decide) (fun _ => ?_) (fun h => absurd h (by decide))
        refine x_iload_n (pc := 139) dX4_runs_139 rfl ?_
        have ex : (plL tx n (f + 1) p) = (-1, [(rT tx n p).2.2]) := by simp only [plL, ht, if_true, hge]
        rw [ex]
        exact x_iret rfl dX4_runs_140 ⟨(upd N1 16 0, _), rfl, rfl, rfl, fun k hk => by show (upd N1 16 0) k = N k; (repeat rw [upd_ne _ _ (by omega)]); exact (f1 k (by omega)).trans (hf k hk), Or.inl ⟨rfl, w1.trans (by rw [ht]; rfl)⟩⟩
      · have hqn : (rT tx n p).2.1 < n := (nI_ltI (by omega) (by omega)).mp c100
        have ech : chV tx n (rT tx n p).2.1 = tx (rT tx n p).2.1 := if_pos hqn
        have w2 : upd N1 16 0 12 = b01 false := w1.trans (by rw [ht]; rfl)
        refine x_iconst (pc := 103) (1) dX4_runs_103 (by decide) ?_
        refine x_goto (pc := 104) 108 dX4_runs_104 (by decide) ?_
        refine x_istore_n (pc := 108) dX4_runs_108 (by decide) ?_
        refine x_iload_n (pc := 109) dX4_runs_109 rfl ?_
        refine x_ifeq (pc := 110) 136 dX4_runs_110 (by decide) (fun h => absurd h (by decide)) (fun _ => ?_)
        refine x_aload_n (pc := 113) dX4_runs_113 rfl ?_
        refine x_bipush (pc := 114) (59) dX4_runs_114 (by decide) ?_
        refine x_bipush (pc := 116) (59) dX4_runs_116 (by decide) ?_
        refine t_Vi (pc := 118) (c_X4_takesOne (N := upd N1 16 0) (p := (rT tx n p).2.1) hn2 h60 q1 (by omega) false w2 _ _) qV_X4_takesOne mL_X4_156 dX4_runs_118 rfl cell_model (by decide) rfl rfl rfl ⟨by decide, by decide⟩ (Nat.le_of_ble_eq_true rfl) (Nat.le_of_ble_eq_true rfl) (Nat.le_of_ble_eq_true rfl) ?_
        refine x_istore (pc := 121) dX4_runs_121 (by decide) ?_
        refine x_aload_n (pc := 123) dX4_runs_123 rfl ?_
        refine x_get (pc := 124) (ci := 4) (k := 12) (C := RX4) (T := TX4) (N := 21) cell_model rfl (by decide) rfl nX4 (by decide) mF_X4_149 rfl dX4_runs_124 ?_
        try dsimp only
        show XJ _ _ _ _ _ _ (.int (b01 (false || !betw (chV tx n (rT tx n p).2.1) 59 59)) :: _) _ _ _ _
        refine x_ifne (pc := 127) 134 dX4_runs_127 (by decide) (fun c127 => ?_) (fun c127 => ?_)
        · have ewr : (false || !betw (chV tx n (rT tx n p).2.1) 59 59) = true := b01_ne c127
          have h59 : ¬ tx (rT tx n p).2.1 = 59 := by
            rw [ech, betw_eq, Bool.false_or, Bool.not_eq_true', decide_eq_false_iff_not] at ewr
            exact ewr
          refine x_iconst (pc := 134) (0) dX4_runs_134 (by decide) ?_
          refine x_istore_n (pc := 135) dX4_runs_135 (by decide) ?_
          refine x_goto (pc := 136) 19 dX4_runs_136 (by decide) ?_
          refine x_iload_n (pc := 19) dX4_runs_19 rfl ?_
          refine x_ifeq (pc := 20) 139 dX4_runs_20 (by decide) (fun _ => ?_) (fun h => absurd h (by decide))
          refine x_iload_n (pc := 139) dX4_runs_139 rfl ?_
          have ex : (plL tx n (f + 1) p) = (nI (rT tx n p).2.1, [(rT tx n p).2.2]) := by simp only [plL, ht, if_true, if_neg (show ¬ n ≤ (rT tx n p).2.1 by omega), if_neg h59]
          rw [ex]
          exact x_iret rfl dX4_runs_140 ⟨(upd (upd (upd N1 16 0) 12 (b01 (false || !betw (chV tx n (rT tx n p).2.1) 59 59))) 11 (nI (if (false || !betw (chV tx n (rT tx n p).2.1) 59 59) then (rT tx n p).2.1 else (rT tx n p).2.1 + 1)), _), rfl, rfl, rfl, fun k hk => by show (upd (upd (upd N1 16 0) 12 (b01 (false || !betw (chV tx n (rT tx n p).2.1) 59 59))) 11 (nI (if (false || !betw (chV tx n (rT tx n p).2.1) 59 59) then (rT tx n p).2.1 else (rT tx n p).2.1 + 1))) k = N k; (repeat rw [upd_ne _ _ (by omega)]); exact (f1 k (by omega)).trans (hf k hk), Or.inr ⟨hne, by rw [ewr]; rfl, by rw [ewr]; rfl⟩⟩
        · have ewr : (false || !betw (chV tx n (rT tx n p).2.1) 59 59) = false := b01_eq c127
          have h59 : tx (rT tx n p).2.1 = 59 := by
            rw [ech, betw_eq, Bool.false_or, Bool.not_eq_false', decide_eq_true_eq] at ewr
            exact ewr
          refine x_iconst (pc := 130) (1) dX4_runs_130 (by decide) ?_
          refine x_goto (pc := 131) 135 dX4_runs_131 (by decide) ?_
          refine x_istore_n (pc := 135) dX4_runs_135 (by decide) ?_
          refine x_goto (pc := 136) 19 dX4_runs_136 (by decide) ?_
          have ex : (plL tx n (f + 1) p).1 = (plL tx n f ((rT tx n p).2.1 + 1)).1 := by simp only [plL, ht, if_true, if_neg (show ¬ n ≤ (rT tx n p).2.1 by omega), if_pos h59]
          rw [ex]
          have e := ih ((rT tx n p).2.1 + 1) (upd (upd (upd N1 16 0) 12 (b01 (false || !betw (chV tx n (rT tx n p).2.1) 59 59))) 11 (nI (if (false || !betw (chV tx n (rT tx n p).2.1) 59 59) then (rT tx n p).2.1 else (rT tx n p).2.1 + 1))) (m + 1) (fun k hk => by (repeat rw [upd_ne _ _ (by omega)]); exact (f1 k (by omega)).trans (hf k hk)) (by rw [ewr]; rfl) (by rw [ewr]; rfl) (by omega) (by have := rT_gt ht; omega)
          exact x_back e ⟨rfl, rfl, rfl, rfl, trivial⟩
set_option maxHeartbeats 4000000 in
set_option maxRecDepth 100000 in
theorem c0_X4_runs (hn : N 8 = nI n) (h60 : n ≤ 60) : Ct G yX4_runs YX4_runs 0 0 [.ref (gB G + 247), .int 0] 255 (cellOf G S B (N, s, sd, ah, sn, be, tx, od)) (Rz G (fun a : Fs × Int32 => some (.int a.2)) (fun _ => S) (fun _ => B) (fun a => (a.1, s, sd, ah, sn, be, tx, od)) (fun a => (∀ k, k < 11 ∨ 16 < k → a.1 k = N k) ∧ (((plL tx n 30 0).1 = -1 ∧ a.1 12 = 0) ∨ ((plL tx n 30 0).1 ≠ -1 ∧ a.1 12 = 1 ∧ a.1 11 = (plL tx n 30 0).1)))) := by
  refine ct_of (by decide +kernel) rfl rfl (Nat.le_of_ble_eq_true rfl) (by simp [Value.category]) ?_
  refine x_sub (l' := [(0, .ref (gB G + 247)), (1, .int 0)]) ⟨rfl, rfl, trivial⟩ ?_
  refine x_aload_n (pc := 0) dX4_runs_0 rfl ?_
  refine x_iconst (pc := 1) (0) dX4_runs_1 (by decide) ?_
  refine t_putM (pc := 2) 11 (by unfold isMF; decide) rfl rfl mF_X4_153 dX4_runs_2 ?_
  try dsimp only
  refine x_aload_n (pc := 5) dX4_runs_5 rfl ?_
  refine x_iconst (pc := 6) (0) dX4_runs_6 (by decide) ?_
  refine t_putM (pc := 7) 12 (by unfold isMF; decide) rfl rfl mF_X4_149 dX4_runs_7 ?_
  try dsimp only
  refine x_aload_n (pc := 10) dX4_runs_10 rfl ?_
  refine x_iconst (pc := 11) (0) dX4_runs_11 (by decide) ?_
  refine t_putM (pc := 12) 16 (by unfold isMF; decide) rfl rfl mF_X4_174 dX4_runs_12 ?_
  try dsimp only
  refine x_iconst (pc := 15) (0) dX4_runs_15 (by decide) ?_
  refine x_istore_n (pc := 16) dX4_runs_16 (by decide) ?_
  refine x_iconst (pc := 17) (1) dX4_runs_17 (by decide) ?_
  refine x_istore_n (pc := 18) dX4_runs_18 (by decide) ?_
  exact x_back (lp0_X4_runs hn h60 30 0 (upd (upd (upd N 11 0) 12 0) 16 0) 0 (fun k hk => by repeat rw [upd_ne _ _ (by omega)]) rfl rfl (by decide) (by omega)) ⟨rfl, rfl, rfl, rfl, trivial⟩
set_option maxHeartbeats 4000000 in
set_option maxRecDepth 100000 in
theorem lp1_X4_runs (hn : N 8 = nI n) (h60 : n ≤ 60) : ∀ f p (Nc : Fs) (s : Fs) (A : Ab) (i : Nat), (∀ k, k < 11 ∨ 16 < k → Nc k = N k) → Nc 11 = nI p → Nc 12 = b01 false → p ≤ 60 → RM s A → VA A → (plL tx n f p).1 = -1 → XJ G YX4_runs (fun _ => True) (Zx G (Rz G (fun a : Fs × Fs × Int32 => some (.int a.2.2)) (fun _ => S) (fun _ => B) (fun a => (a.1, a.2.1, sd, ah, sn, be, tx, od)) (fun a => (∀ k, k < 11 ∨ 16 < k → a.1 k = N k) ∧ (((exL (plL tx n f p).2 A i).1 = none ∧ a.2.2 = nI (i + (plL tx n f p).2.length) ∧ a.1 16 = 0 ∧ RM a.2.1 (exL (plL tx n f p).2 A i).2) ∨ ∃ z, (exL (plL tx n f p).2 A i).1 = some z ∧ a.2.2 = nI z.1 ∧ a.1 16 = z.2))) 0 0) 19 [(0, .ref (gB G + 247)), (1, .int 1), (2, .int (nI i)), (3, .int 1)] [] 255 (cellOf G S B (Nc, s, sd, ah, sn, be, tx, od)) 0 0 := by
  intro f
  induction f with
  | zero =>
    intro p Nc s A i hf hp hw hp6 hM hV hX
    exact absurd hX (nI_ne1 (q := p) (by omega))
  | succ f ih =>
    intro p Nc s A i hf hp hw hp6 hM hV hX
    have hn1 : Nc 8 = nI n := (hf 8 (Or.inl (by decide))).trans hn
    have h6 := rT_60 (L := tx) h60 hp6
    obtain ⟨ht, hor⟩ := plL_1 h60 hp6 hX
    refine x_iload_n (pc := 19) dX4_runs_19 rfl ?_
    refine x_ifeq (pc := 20) 139 dX4_runs_20 (by decide) (fun h => absurd h (by decide)) (fun _ => ?_)
    refine x_aload_n (pc := 23) dX4_runs_23 rfl ?_
    refine e_Vv (pc := 24) (c_X4_readThing (N := Nc) hn1 h60 hp hp6 hw) qV_X4_readThing mL_X4_177 dX4_runs_24 rfl cell_model (by decide) rfl rfl rfl ⟨by decide, by decide⟩ (Nat.le_of_ble_eq_true rfl) (Nat.le_of_ble_eq_true rfl) (Nat.le_of_ble_eq_true rfl) ?_
    intro N1 h1
    obtain ⟨f1, q1, w1, r1⟩ := h1
    have hn2 : N1 8 = nI n := (f1 8 (Or.inl (by decide))).trans hn1
    refine x_iload_n (pc := 27) dX4_runs_27 rfl ?_
    refine x_ifeq (pc := 28) 38 dX4_runs_28 (by decide) (fun h => absurd h (by decide)) (fun _ => ?_)
    refine x_aload_n (pc := 31) dX4_runs_31 rfl ?_
    refine e_Vi (pc := 32) (c_X4_does (N := N1) (r1 ht) hM hV) qV_X4_does mL_X4_180 dX4_runs_32 rfl cell_model (by decide) rfl rfl rfl ⟨by decide, by decide⟩ (Nat.le_of_ble_eq_true rfl) (Nat.le_of_ble_eq_true rfl) (Nat.le_of_ble_eq_true rfl) ?_
    intro s1 R1
    refine x_goto (pc := 35) 39 dX4_runs_35 (by decide) ?_
    refine x_istore (pc := 39) dX4_runs_39 (by decide) ?_
    refine x_aload_n (pc := 41) dX4_runs_41 rfl ?_
    refine x_iload (pc := 42) dX4_runs_42 rfl ?_
    refine x_ifge (pc := 44) 59 dX4_runs_44 (by decide) (fun c44 => ?_) (fun c44 => ?_)
    · refine x_iconst (pc := 59) (0) dX4_runs_59 (by decide) ?_
      refine t_putM (pc := 60) 16 (by unfold isMF; decide) rfl rfl mF_X4_174 dX4_runs_60 ?_
      try dsimp only
      refine x_iload_n (pc := 63) dX4_runs_63 rfl ?_
      refine x_aload_n (pc := 64) dX4_runs_64 rfl ?_
      refine x_get (pc := 65) (ci := 4) (k := 16) (C := RX4) (T := TX4) (N := 21) cell_model rfl (by decide) rfl nX4 (by decide) mF_X4_174 rfl dX4_runs_65 ?_
      try dsimp only
      show XJ _ _ _ _ _ _ (.int (0) :: _) _ _ _ _
      refine x_ifge (pc := 68) 75 dX4_runs_68 (by decide) (fun c68 => ?_) (fun c68 => absurd c68 (by decide))
      refine x_iconst (pc := 75) (1) dX4_runs_75 (by decide) ?_
      refine x_iadd (pc := 76) dX4_runs_76 ?_
      try dsimp only
      rw [nI_1]
      refine x_istore_n (pc := 77) dX4_runs_77 (by decide) ?_
      refine x_aload_n (pc := 78) dX4_runs_78 rfl ?_
      refine x_get (pc := 79) (ci := 4) (k := 16) (C := RX4) (T := TX4) (N := 21) cell_model rfl (by decide) rfl nX4 (by decide) mF_X4_174 rfl dX4_runs_79 ?_
      try dsimp only
      show XJ _ _ _ _ _ _ (.int (0) :: _) _ _ _ _
      refine x_ifne (pc := 82) 107 dX4_runs_82 (by decide) (fun c82 => absurd rfl c82) (fun c82 => ?_)
      refine x_aload_n (pc := 85) dX4_runs_85 rfl ?_
      refine x_get (pc := 86) (ci := 4) (k := 12) (C := RX4) (T := TX4) (N := 21) cell_model rfl (by decide) rfl nX4 (by decide) mF_X4_149 rfl dX4_runs_86 ?_
      try dsimp only
      show XJ _ _ _ _ _ _ (.int (N1 12) :: _) _ _ _ _
      rw [w1, ht]
      refine x_ifne (pc := 89) 107 dX4_runs_89 (by decide) (fun c89 => absurd rfl c89) (fun c89 => ?_)
      refine x_aload_n (pc := 92) dX4_runs_92 rfl ?_
      refine x_get (pc := 93) (ci := 4) (k := 11) (C := RX4) (T := TX4) (N := 21) cell_model rfl (by decide) rfl nX4 (by decide) mF_X4_153 rfl dX4_runs_93 ?_
      try dsimp only
      show XJ _ _ _ _ _ _ (.int (N1 11) :: _) _ _ _ _
      rw [q1]
      refine x_aload_n (pc := 96) dX4_runs_96 rfl ?_
      refine x_get (pc := 97) (ci := 4) (k := 8) (C := RX4) (T := TX4) (N := 21) cell_model rfl (by decide) rfl nX4 (by decide) mF_X4_146 rfl dX4_runs_97 ?_
      try dsimp only
      show XJ _ _ _ _ _ _ (.int (N1 8) :: _) _ _ _ _
      rw [hn2]
      refine x_cmpge (pc := 100) 107 dX4_runs_100 (by decide) (fun c100 => ?_) (fun c100 => ?_)
      · refine x_iconst (pc := 107) (0) dX4_runs_107 (by decide) ?_
        refine x_istore_n (pc := 108) dX4_runs_108 (by decide) ?_
        refine x_iload_n (pc := 109) dX4_runs_109 rfl ?_
        refine x_ifeq (pc := 110) 136 dX4_runs_110 (by decide) (fun _ => ?_) (fun h => absurd h (by decide))
        refine x_goto (pc := 136) 19 dX4_runs_136 (by decide) ?_
        refine x_iload_n (pc := 19) dX4_runs_19 rfl ?_
        refine x_ifeq (pc := 20) 139 dX4_runs_20 (by decide) (fun _ => ?_) (fun h => absurd h (by decide))
        refine x_iload_n (pc := 139) dX4_runs_139 rfl ?_
        rcases hor with ⟨hge, hl⟩ | ⟨hlt, h59, hX1, hl⟩
        · have ee := exL_go (t := (rT tx n p).2.2) (ts := []) (A := A) (i := i) (Or.inl c44)
          rw [← hl] at ee
          exact x_iret rfl dX4_runs_140 ⟨(upd N1 16 0, _, _), rfl, rfl, rfl, fun k hk => by show (upd N1 16 0) k = N k; (repeat rw [upd_ne _ _ (by omega)]); exact (f1 k (by omega)).trans (hf k hk), Or.inl ⟨by rw [ee]; rfl, by rw [hl]; rfl, rfl, by rw [ee]; exact R1⟩⟩
        · exact absurd ((nI_ltI (by omega) (by omega)).mpr (Nat.not_le.mp hlt)) c100
      · have hqn : (rT tx n p).2.1 < n := (nI_ltI (by omega) (by omega)).mp c100
        have w2 : upd N1 16 0 12 = b01 false := w1.trans (by rw [ht]; rfl)
        have ech : chV tx n (rT tx n p).2.1 = tx (rT tx n p).2.1 := if_pos hqn
        obtain ⟨h59, hX1, hl⟩ : tx (rT tx n p).2.1 = 59 ∧ (plL tx n f ((rT tx n p).2.1 + 1)).1 = -1 ∧ (plL tx n (f + 1) p).2 = (rT tx n p).2.2 :: (plL tx n f ((rT tx n p).2.1 + 1)).2 := by
          rcases hor with ⟨hge, -⟩ | ⟨-, h59, hX1, hl⟩
          · omega
          · exact ⟨h59, hX1, hl⟩
        have ewr : (false || !betw (chV tx n (rT tx n p).2.1) 59 59) = false := by rw [ech, h59]; decide
        refine x_iconst (pc := 103) (1) dX4_runs_103 (by decide) ?_
        refine x_goto (pc := 104) 108 dX4_runs_104 (by decide) ?_
        refine x_istore_n (pc := 108) dX4_runs_108 (by decide) ?_
        refine x_iload_n (pc := 109) dX4_runs_109 rfl ?_
        refine x_ifeq (pc := 110) 136 dX4_runs_110 (by decide) (fun h => absurd h (by decide)) (fun _ => ?_)
        refine x_aload_n (pc := 113) dX4_runs_113 rfl ?_
        refine x_bipush (pc := 114) (59) dX4_runs_114 (by decide) ?_
        refine x_bipush (pc := 116) (59) dX4_runs_116 (by decide) ?_
        refine t_Vi (pc := 118) (c_X4_takesOne (N := upd N1 16 0) (p := (rT tx n p).2.1) hn2 h60 q1 (by omega) false w2 _ _) qV_X4_takesOne mL_X4_156 dX4_runs_118 rfl cell_model (by decide) rfl rfl rfl ⟨by decide, by decide⟩ (Nat.le_of_ble_eq_true rfl) (Nat.le_of_ble_eq_true rfl) (Nat.le_of_ble_eq_true rfl) ?_
        refine x_istore (pc := 121) dX4_runs_121 (by decide) ?_
        refine x_aload_n (pc := 123) dX4_runs_123 rfl ?_
        refine x_get (pc := 124) (ci := 4) (k := 12) (C := RX4) (T := TX4) (N := 21) cell_model rfl (by decide) rfl nX4 (by decide) mF_X4_149 rfl dX4_runs_124 ?_
        try dsimp only
        show XJ _ _ _ _ _ _ (.int (b01 (false || !betw (chV tx n (rT tx n p).2.1) 59 59)) :: _) _ _ _ _
        refine x_ifne (pc := 127) 134 dX4_runs_127 (by decide) (fun c127 => absurd (show b01 (false || !betw (chV tx n (rT tx n p).2.1) 59 59) = 0 by rw [ewr]; rfl) c127) (fun c127 => ?_)
        refine x_iconst (pc := 130) (1) dX4_runs_130 (by decide) ?_
        refine x_goto (pc := 131) 135 dX4_runs_131 (by decide) ?_
        refine x_istore_n (pc := 135) dX4_runs_135 (by decide) ?_
        refine x_goto (pc := 136) 19 dX4_runs_136 (by decide) ?_
        have ee := exL_go (t := (rT tx n p).2.2) (ts := (plL tx n f ((rT tx n p).2.1 + 1)).2) (A := A) (i := i) (Or.inl c44)
        rw [← hl] at ee
        have el : i + (plL tx n (f + 1) p).2.length = i + 1 + (plL tx n f ((rT tx n p).2.1 + 1)).2.length := by rw [hl, List.length_cons]; omega
        rw [ee, el]
        have e := ih ((rT tx n p).2.1 + 1) (upd (upd (upd N1 16 0) 12 (b01 (false || !betw (chV tx n (rT tx n p).2.1) 59 59))) 11 (nI (if (false || !betw (chV tx n (rT tx n p).2.1) 59 59) then (rT tx n p).2.1 else (rT tx n p).2.1 + 1))) s1 (thX A (rT tx n p).2.2).2 (i + 1) (fun k hk => by (repeat rw [upd_ne _ _ (by omega)]); exact (f1 k (by omega)).trans (hf k hk)) (by rw [ewr]; rfl) (by rw [ewr]; rfl) (by omega) R1 (VA_thX hV _) hX1
        exact x_back e ⟨rfl, rfl, rfl, rfl, trivial⟩
    · refine x_iload (pc := 47) dX4_runs_47 rfl ?_
      refine x_bipush (pc := 49) (-5) dX4_runs_49 (by decide) ?_
      refine x_cmpeq (pc := 51) 59 dX4_runs_51 (by decide) (fun c51 => ?_) (fun c51 => ?_)
      · refine x_iconst (pc := 59) (0) dX4_runs_59 (by decide) ?_
        refine t_putM (pc := 60) 16 (by unfold isMF; decide) rfl rfl mF_X4_174 dX4_runs_60 ?_
        try dsimp only
        refine x_iload_n (pc := 63) dX4_runs_63 rfl ?_
        refine x_aload_n (pc := 64) dX4_runs_64 rfl ?_
        refine x_get (pc := 65) (ci := 4) (k := 16) (C := RX4) (T := TX4) (N := 21) cell_model rfl (by decide) rfl nX4 (by decide) mF_X4_174 rfl dX4_runs_65 ?_
        try dsimp only
        show XJ _ _ _ _ _ _ (.int (0) :: _) _ _ _ _
        refine x_ifge (pc := 68) 75 dX4_runs_68 (by decide) (fun c68 => ?_) (fun c68 => absurd c68 (by decide))
        refine x_iconst (pc := 75) (1) dX4_runs_75 (by decide) ?_
        refine x_iadd (pc := 76) dX4_runs_76 ?_
        try dsimp only
        rw [nI_1]
        refine x_istore_n (pc := 77) dX4_runs_77 (by decide) ?_
        refine x_aload_n (pc := 78) dX4_runs_78 rfl ?_
        refine x_get (pc := 79) (ci := 4) (k := 16) (C := RX4) (T := TX4) (N := 21) cell_model rfl (by decide) rfl nX4 (by decide) mF_X4_174 rfl dX4_runs_79 ?_
        try dsimp only
        show XJ _ _ _ _ _ _ (.int (0) :: _) _ _ _ _
        refine x_ifne (pc := 82) 107 dX4_runs_82 (by decide) (fun c82 => absurd rfl c82) (fun c82 => ?_)
        refine x_aload_n (pc := 85) dX4_runs_85 rfl ?_
        refine x_get (pc := 86) (ci := 4) (k := 12) (C := RX4) (T := TX4) (N := 21) cell_model rfl (by decide) rfl nX4 (by decide) mF_X4_149 rfl dX4_runs_86 ?_
        try dsimp only
        show XJ _ _ _ _ _ _ (.int (N1 12) :: _) _ _ _ _
        rw [w1, ht]
        refine x_ifne (pc := 89) 107 dX4_runs_89 (by decide) (fun c89 => absurd rfl c89) (fun c89 => ?_)
        refine x_aload_n (pc := 92) dX4_runs_92 rfl ?_
        refine x_get (pc := 93) (ci := 4) (k := 11) (C := RX4) (T := TX4) (N := 21) cell_model rfl (by decide) rfl nX4 (by decide) mF_X4_153 rfl dX4_runs_93 ?_
        try dsimp only
        show XJ _ _ _ _ _ _ (.int (N1 11) :: _) _ _ _ _
        rw [q1]
        refine x_aload_n (pc := 96) dX4_runs_96 rfl ?_
        refine x_get (pc := 97) (ci := 4) (k := 8) (C := RX4) (T := TX4) (N := 21) cell_model rfl (by decide) rfl nX4 (by decide) mF_X4_146 rfl dX4_runs_97 ?_
        try dsimp only
        show XJ _ _ _ _ _ _ (.int (N1 8) :: _) _ _ _ _
        rw [hn2]
        refine x_cmpge (pc := 100) 107 dX4_runs_100 (by decide) (fun c100 => ?_) (fun c100 => ?_)
        · refine x_iconst (pc := 107) (0) dX4_runs_107 (by decide) ?_
          refine x_istore_n (pc := 108) dX4_runs_108 (by decide) ?_
          refine x_iload_n (pc := 109) dX4_runs_109 rfl ?_
          refine x_ifeq (pc := 110) 136 dX4_runs_110 (by decide) (fun _ => ?_) (fun h => absurd h (by decide))
          refine x_goto (pc := 136) 19 dX4_runs_136 (by decide) ?_
          refine x_iload_n (pc := 19) dX4_runs_19 rfl ?_
          refine x_ifeq (pc := 20) 139 dX4_runs_20 (by decide) (fun _ => ?_) (fun h => absurd h (by decide))
          refine x_iload_n (pc := 139) dX4_runs_139 rfl ?_
          rcases hor with ⟨hge, hl⟩ | ⟨hlt, h59, hX1, hl⟩
          · have ee := exL_go (t := (rT tx n p).2.2) (ts := []) (A := A) (i := i) (Or.inr c51)
            rw [← hl] at ee
            exact x_iret rfl dX4_runs_140 ⟨(upd N1 16 0, _, _), rfl, rfl, rfl, fun k hk => by show (upd N1 16 0) k = N k; (repeat rw [upd_ne _ _ (by omega)]); exact (f1 k (by omega)).trans (hf k hk), Or.inl ⟨by rw [ee]; rfl, by rw [hl]; rfl, rfl, by rw [ee]; exact R1⟩⟩
          · exact absurd ((nI_ltI (by omega) (by omega)).mpr (Nat.not_le.mp hlt)) c100
        · have hqn : (rT tx n p).2.1 < n := (nI_ltI (by omega) (by omega)).mp c100
          have w2 : upd N1 16 0 12 = b01 false := w1.trans (by rw [ht]; rfl)
          have ech : chV tx n (rT tx n p).2.1 = tx (rT tx n p).2.1 := if_pos hqn
          obtain ⟨h59, hX1, hl⟩ : tx (rT tx n p).2.1 = 59 ∧ (plL tx n f ((rT tx n p).2.1 + 1)).1 = -1 ∧ (plL tx n (f + 1) p).2 = (rT tx n p).2.2 :: (plL tx n f ((rT tx n p).2.1 + 1)).2 := by
            rcases hor with ⟨hge, -⟩ | ⟨-, h59, hX1, hl⟩
            · omega
            · exact ⟨h59, hX1, hl⟩
          have ewr : (false || !betw (chV tx n (rT tx n p).2.1) 59 59) = false := by rw [ech, h59]; decide
          refine x_iconst (pc := 103) (1) dX4_runs_103 (by decide) ?_
          refine x_goto (pc := 104) 108 dX4_runs_104 (by decide) ?_
          refine x_istore_n (pc := 108) dX4_runs_108 (by decide) ?_
          refine x_iload_n (pc := 109) dX4_runs_109 rfl ?_
          refine x_ifeq (pc := 110) 136 dX4_runs_110 (by decide) (fun h => absurd h (by decide)) (fun _ => ?_)
          refine x_aload_n (pc := 113) dX4_runs_113 rfl ?_
          refine x_bipush (pc := 114) (59) dX4_runs_114 (by decide) ?_
          refine x_bipush (pc := 116) (59) dX4_runs_116 (by decide) ?_
          refine t_Vi (pc := 118) (c_X4_takesOne (N := upd N1 16 0) (p := (rT tx n p).2.1) hn2 h60 q1 (by omega) false w2 _ _) qV_X4_takesOne mL_X4_156 dX4_runs_118 rfl cell_model (by decide) rfl rfl rfl ⟨by decide, by decide⟩ (Nat.le_of_ble_eq_true rfl) (Nat.le_of_ble_eq_true rfl) (Nat.le_of_ble_eq_true rfl) ?_
          refine x_istore (pc := 121) dX4_runs_121 (by decide) ?_
          refine x_aload_n (pc := 123) dX4_runs_123 rfl ?_
          refine x_get (pc := 124) (ci := 4) (k := 12) (C := RX4) (T := TX4) (N := 21) cell_model rfl (by decide) rfl nX4 (by decide) mF_X4_149 rfl dX4_runs_124 ?_
          try dsimp only
          show XJ _ _ _ _ _ _ (.int (b01 (false || !betw (chV tx n (rT tx n p).2.1) 59 59)) :: _) _ _ _ _
          refine x_ifne (pc := 127) 134 dX4_runs_127 (by decide) (fun c127 => absurd (show b01 (false || !betw (chV tx n (rT tx n p).2.1) 59 59) = 0 by rw [ewr]; rfl) c127) (fun c127 => ?_)
          refine x_iconst (pc := 130) (1) dX4_runs_130 (by decide) ?_
          refine x_goto (pc := 131) 135 dX4_runs_131 (by decide) ?_
          refine x_istore_n (pc := 135) dX4_runs_135 (by decide) ?_
          refine x_goto (pc := 136) 19 dX4_runs_136 (by decide) ?_
          have ee := exL_go (t := (rT tx n p).2.2) (ts := (plL tx n f ((rT tx n p).2.1 + 1)).2) (A := A) (i := i) (Or.inr c51)
          rw [← hl] at ee
          have el : i + (plL tx n (f + 1) p).2.length = i + 1 + (plL tx n f ((rT tx n p).2.1 + 1)).2.length := by rw [hl, List.length_cons]; omega
          rw [ee, el]
          have e := ih ((rT tx n p).2.1 + 1) (upd (upd (upd N1 16 0) 12 (b01 (false || !betw (chV tx n (rT tx n p).2.1) 59 59))) 11 (nI (if (false || !betw (chV tx n (rT tx n p).2.1) 59 59) then (rT tx n p).2.1 else (rT tx n p).2.1 + 1))) s1 (thX A (rT tx n p).2.2).2 (i + 1) (fun k hk => by (repeat rw [upd_ne _ _ (by omega)]); exact (f1 k (by omega)).trans (hf k hk)) (by rw [ewr]; rfl) (by rw [ewr]; rfl) (by omega) R1 (VA_thX hV _) hX1
          exact x_back e ⟨rfl, rfl, rfl, rfl, trivial⟩
      · refine x_iload (pc := 54) dX4_runs_54 rfl ?_
        refine x_goto (pc := 56) 60 dX4_runs_56 (by decide) ?_
        refine t_putM (pc := 60) 16 (by unfold isMF; decide) rfl rfl mF_X4_174 dX4_runs_60 ?_
        try dsimp only
        refine x_iload_n (pc := 63) dX4_runs_63 rfl ?_
        refine x_aload_n (pc := 64) dX4_runs_64 rfl ?_
        refine x_get (pc := 65) (ci := 4) (k := 16) (C := RX4) (T := TX4) (N := 21) cell_model rfl (by decide) rfl nX4 (by decide) mF_X4_174 rfl dX4_runs_65 ?_
        try dsimp only
        show XJ _ _ _ _ _ _ (.int ((thX A (rT tx n p).2.2).1) :: _) _ _ _ _
        refine x_ifge (pc := 68) 75 dX4_runs_68 (by decide) (fun c68 => absurd c44 c68) (fun c68 => ?_)
        refine x_iconst (pc := 71) (0) dX4_runs_71 (by decide) ?_
        refine x_goto (pc := 72) 76 dX4_runs_72 (by decide) ?_
        refine x_iadd (pc := 76) dX4_runs_76 ?_
        try dsimp only
        rw [Int32.add_zero]
        refine x_istore_n (pc := 77) dX4_runs_77 (by decide) ?_
        refine x_aload_n (pc := 78) dX4_runs_78 rfl ?_
        refine x_get (pc := 79) (ci := 4) (k := 16) (C := RX4) (T := TX4) (N := 21) cell_model rfl (by decide) rfl nX4 (by decide) mF_X4_174 rfl dX4_runs_79 ?_
        try dsimp only
        show XJ _ _ _ _ _ _ (.int ((thX A (rT tx n p).2.2).1) :: _) _ _ _ _
        refine x_ifne (pc := 82) 107 dX4_runs_82 (by decide) (fun c82 => ?_) (fun c82 => absurd (show (thX A (rT tx n p).2.2).1 < 0 from c44) (by rw [c82]; decide))
        refine x_iconst (pc := 107) (0) dX4_runs_107 (by decide) ?_
        refine x_istore_n (pc := 108) dX4_runs_108 (by decide) ?_
        refine x_iload_n (pc := 109) dX4_runs_109 rfl ?_
        refine x_ifeq (pc := 110) 136 dX4_runs_110 (by decide) (fun _ => ?_) (fun h => absurd h (by decide))
        refine x_goto (pc := 136) 19 dX4_runs_136 (by decide) ?_
        refine x_iload_n (pc := 19) dX4_runs_19 rfl ?_
        refine x_ifeq (pc := 20) 139 dX4_runs_20 (by decide) (fun _ => ?_) (fun h => absurd h (by decide))
        refine x_iload_n (pc := 139) dX4_runs_139 rfl ?_
        obtain ⟨rest, hl⟩ : ∃ rest, (plL tx n (f + 1) p).2 = (rT tx n p).2.2 :: rest := by
          rcases hor with ⟨-, hl⟩ | ⟨-, -, -, hl⟩
          · exact ⟨[], hl⟩
          · exact ⟨_, hl⟩
        have ee := exL_st (ts := rest) (i := i) c44 c51
        rw [← hl] at ee
        exact x_iret rfl dX4_runs_140 ⟨(upd N1 16 (thX A (rT tx n p).2.2).1, _, _), rfl, rfl, rfl, fun k hk => by show (upd N1 16 (thX A (rT tx n p).2.2).1) k = N k; (repeat rw [upd_ne _ _ (by omega)]); exact (f1 k (by omega)).trans (hf k hk), Or.inr ⟨(i, (thX A (rT tx n p).2.2).1), by rw [ee], rfl, rfl⟩⟩
set_option maxHeartbeats 4000000 in
set_option maxRecDepth 100000 in
theorem c1_X4_runs (hn : N 8 = nI n) (h60 : n ≤ 60) (hM : RM s A) (hV : VA A) (hX : (plL tx n 30 0).1 = -1) : Ct G yX4_runs YX4_runs 0 0 [.ref (gB G + 247), .int 1] 255 (cellOf G S B (N, s, sd, ah, sn, be, tx, od)) (Rz G (fun a : Fs × Fs × Int32 => some (.int a.2.2)) (fun _ => S) (fun _ => B) (fun a => (a.1, a.2.1, sd, ah, sn, be, tx, od)) (fun a => (∀ k, k < 11 ∨ 16 < k → a.1 k = N k) ∧ (((exL (plL tx n 30 0).2 A 0).1 = none ∧ a.2.2 = nI (0 + (plL tx n 30 0).2.length) ∧ a.1 16 = 0 ∧ RM a.2.1 (exL (plL tx n 30 0).2 A 0).2) ∨ ∃ z, (exL (plL tx n 30 0).2 A 0).1 = some z ∧ a.2.2 = nI z.1 ∧ a.1 16 = z.2))) := by
  refine ct_of (by decide +kernel) rfl rfl (Nat.le_of_ble_eq_true rfl) (by simp [Value.category]) ?_
  refine x_sub (l' := [(0, .ref (gB G + 247)), (1, .int 1)]) ⟨rfl, rfl, trivial⟩ ?_
  refine x_aload_n (pc := 0) dX4_runs_0 rfl ?_
  refine x_iconst (pc := 1) (0) dX4_runs_1 (by decide) ?_
  refine t_putM (pc := 2) 11 (by unfold isMF; decide) rfl rfl mF_X4_153 dX4_runs_2 ?_
  try dsimp only
  refine x_aload_n (pc := 5) dX4_runs_5 rfl ?_
  refine x_iconst (pc := 6) (0) dX4_runs_6 (by decide) ?_
  refine t_putM (pc := 7) 12 (by unfold isMF; decide) rfl rfl mF_X4_149 dX4_runs_7 ?_
  try dsimp only
  refine x_aload_n (pc := 10) dX4_runs_10 rfl ?_
  refine x_iconst (pc := 11) (0) dX4_runs_11 (by decide) ?_
  refine t_putM (pc := 12) 16 (by unfold isMF; decide) rfl rfl mF_X4_174 dX4_runs_12 ?_
  try dsimp only
  refine x_iconst (pc := 15) (0) dX4_runs_15 (by decide) ?_
  refine x_istore_n (pc := 16) dX4_runs_16 (by decide) ?_
  refine x_iconst (pc := 17) (1) dX4_runs_17 (by decide) ?_
  refine x_istore_n (pc := 18) dX4_runs_18 (by decide) ?_
  exact x_back (lp1_X4_runs hn h60 30 0 (upd (upd (upd N 11 0) 12 0) 16 0) s A 0 (fun k hk => by repeat rw [upd_ne _ _ (by omega)]) rfl rfl (by decide) hM hV hX) ⟨rfl, rfl, rfl, rfl, trivial⟩
end MPARSE2
