/-! the reference: its calls, but perform and the order (rows laid by wip/whole/p34.py) -/
def snM (N sn : Fs) : Option Ab → Prop
  | none => N 4 = 0
  | some A => N 4 = 1 ∧ RM sn A
def txM (N tx : Fs) (t : Nat × Fs) : Prop := N 8 = nI t.1 ∧ t.1 ≤ 60 ∧ ∀ p, p < t.1 → tx p = t.2 p
def stM (N : Fs) : Option (Nat × Int32) → Prop
  | none => N 9 = -5 ∧ N 10 = -5
  | some z => N 9 = nI z.1 ∧ N 10 = z.2
/-- the reference's cells tell the whole value -/
def GM (M : Md) (w : Wt) : Prop := RM M.2.1 w.1 ∧ HM M.1 M.2.2.2.2.2.1 w.2.1 ∧ snM M.1 M.2.2.2.2.1 w.2.2.1 ∧ txM M.1 M.2.2.2.2.2.2.1 w.2.2.2.1 ∧ stM M.1 w.2.2.2.2
theorem snM_k {N N' sn : Fs} {x : Option Ab} (h : snM N sn x) (e : N' 4 = N 4) : snM N' sn x := by
  cases x with
  | none => exact e.trans h
  | some A => exact ⟨e.trans h.1, h.2⟩
theorem stM_k {N N' : Fs} {x : Option (Nat × Int32)} (h : stM N x) (e : N' 9 = N 9) (e2 : N' 10 = N 10) : stM N' x := by
  cases x with
  | none => exact ⟨e.trans h.1, e2.trans h.2⟩
  | some z => exact ⟨e.trans h.1, e2.trans h.2⟩
theorem txM_k {N N' tx : Fs} {t : Nat × Fs} (h : txM N tx t) (e : N' 8 = N 8) : txM N' tx t := ⟨e.trans h.1, h.2⟩
section GML
variable {N s sd ah sn be tx od N' s' sd' ah' be' od' : Fs} {w : Wt}
theorem GM_o (h : GM (N, s, sd, ah, sn, be, tx, od) w) : GM (N, s, sd', ah', sn, be, tx, od') w := h
theorem GM_N (h : GM (N, s, sd, ah, sn, be, tx, od) w) (e4 : N' 4 = N 4) (e6 : N' 6 = N 6) (e8 : N' 8 = N 8) (e9 : N' 9 = N 9) (e10 : N' 10 = N 10) (hs : RM s' w.1) : GM (N', s', sd', ah', sn, be, tx, od') w :=
  ⟨hs, HM_N h.2.1 e6, snM_k h.2.2.1 e4, txM_k h.2.2.2.1 e8, stM_k h.2.2.2.2 e9 e10⟩
theorem GM_rec (h : GM (N, s, sd, ah, sn, be, tx, od) w) {r : Int32 × Ab} (hs : RM s' r.2) (ha : HM N' be' (if r.1 < 0 then w.2.1 else pushH w.2.1 w.1) ∧ ∀ k, k ≠ 6 → N' k = N k) : GM (N', s', sd', ah', sn, be', tx, od') (recX w r).2 :=
  ⟨hs, ha.1, snM_k h.2.2.1 (ha.2 4 (by decide)), txM_k h.2.2.2.1 (ha.2 8 (by decide)), stM_k h.2.2.2.2 (ha.2 9 (by decide)) (ha.2 10 (by decide))⟩
theorem GM_no (h : GM (N, s, sd, ah, sn, be, tx, od) w) {r : Int32 × Ab} (hr : r.1 < 0) (hs : RM s' r.2) : GM (N, s', sd', ah', sn, be, tx, od') (recX w r).2 := by
  refine ⟨hs, ?_, h.2.2⟩
  show HM N be (if r.1 < 0 then w.2.1 else pushH w.2.1 w.1)
  rw [if_pos hr]
  exact h.2.1
theorem RM_cp (h : RM s w.1) : RM (cpF ah s 119) w.1 := RM_c h (fun q hq => cpF_in ah s hq)
end GML
theorem set_ge {A : Ab} (hV : VA A) {q : Nat} (hq : q < 4) : ¬ A.2.2.2.1 q < 0 := by
  have a := hV.s0
  have b := hV.s1
  have c := hV.s2
  have d := hV.s3
  unfold iR at *
  rw [ti_lt, t0]
  rcases (show q = 0 ∨ q = 1 ∨ q = 2 ∨ q = 3 by omega) with rfl | rfl | rfl | rfl <;> omega
theorem GM_typ {N s sd ah sn be tx od : Fs} {w : Wt} {c : Int32} (h : GM (N, s, sd, ah, sn, be, tx, od) w) (hlt : w.2.2.2.1.1 < 60) : GM (upd N 8 (nI (w.2.2.2.1.1 + 1)), s, sd, ah, sn, be, upd tx w.2.2.2.1.1 c, od) (w.1, w.2.1, w.2.2.1, (w.2.2.2.1.1 + 1, upd w.2.2.2.1.2 w.2.2.2.1.1 c), w.2.2.2.2) := by
  refine ⟨h.1, HM_N h.2.1 rfl, snM_k h.2.2.1 rfl, ⟨upd_same N 8 _, hlt, fun p hp => ?_⟩, stM_k h.2.2.2.2 rfl rfl⟩
  show upd tx w.2.2.2.1.1 c p = upd w.2.2.2.1.2 w.2.2.2.1.1 c p
  by_cases e : p = w.2.2.2.1.1
  · subst e; rw [upd_same, upd_same]
  · rw [upd_ne _ _ e, upd_ne _ _ e]
    refine h.2.2.2.1.2.2 p ?_
    have : p < w.2.2.2.1.1 + 1 := hp
    omega
theorem GM_und {N s sd ah sn be tx od : Fs} {w : Wt} {A : Ab} (h : GM (N, s, sd, ah, sn, be, tx, od) w) (hl : w.2.1.getLast? = some A) : GM (upd N 6 (nI (w.2.1.length - 1)), cpF s (fun q => be (119 * (w.2.1.length - 1) + q)) 119, sd, ah, sn, be, tx, od) (A, w.2.1.dropLast, w.2.2) := by
  obtain ⟨hp, hk⟩ := und_last hl
  refine ⟨RM_c (h.2.1.2.2 _ _ hk) (fun q hq => cpF_in s (fun q => be (119 * (w.2.1.length - 1) + q)) hq), ⟨?_, ?_, fun k A' hk => ?_⟩, snM_k h.2.2.1 rfl, txM_k h.2.2.2.1 rfl, stM_k h.2.2.2.2 rfl rfl⟩
  · show upd N 6 (nI (w.2.1.length - 1)) 6 = nI w.2.1.dropLast.length
    rw [upd_same, List.length_dropLast]
  · have := h.2.1.2.1
    show w.2.1.dropLast.length ≤ 4
    rw [List.length_dropLast]
    omega
  · have hk1 : k < w.2.1.dropLast.length := (List.getElem?_eq_some_iff.mp hk).1
    rw [List.length_dropLast] at hk1
    have hk : w.2.1.dropLast[k]? = some A' := hk
    rw [List.getElem?_dropLast, if_pos (by omega)] at hk
    exact h.2.1.2.2 k A' hk
theorem why_13 {A : Ab} {i : Nat} (h : betw (whyV A i) 1 3 = false) : whyV A i = 0 ∨ whyV A i = 4 := by
  rcases why_all (A := A) (i := i) with ⟨-, e⟩ | ⟨-, e⟩ | ⟨-, e | ⟨e, -⟩ | ⟨e, -⟩⟩
  · rw [e] at h; exact absurd h (by decide)
  · rw [e] at h; exact absurd h (by decide)
  · rw [e] at h; exact absurd h (by decide)
  · exact Or.inr e
  · exact Or.inl e
theorem kc_13 {A : Ab} {i : Nat} (h : betw (whyV A i) 1 3 = true) : kcV A i = -4 := by
  unfold kcV
  rw [if_neg (fun e => by rw [e] at h; exact absurd h (by decide)), if_neg (fun e => by rw [e] at h; exact absurd h (by decide))]
theorem sw_6 {u : Int32} (h : betw u 6 10 = true) : ∃ q, (q = 6 ∨ q = 7 ∨ q = 8 ∨ q = 9 ∨ q = 10) ∧ u = nI q := by
  have a := betw_ti h
  have k6 : (6 : Int32).toInt = 6 := rfl
  have k10 : (10 : Int32).toInt = 10 := rfl
  rw [k6, k10] at a
  obtain ⟨q, hq, rfl⟩ := nI_of (x := u) (by rw [ti_lt, t0]; omega)
  rw [nI_toInt hq] at a
  exact ⟨q, by omega, rfl⟩
theorem sw_6n {u : Int32} (h : ¬ betw u 6 10 = true) : u.toInt < 6 ∨ 10 < u.toInt := by
  have k6 : (6 : Int32).toInt = 6 := rfl
  have k10 : (10 : Int32).toInt = 10 := rfl
  rw [bw_iff, k6, k10] at h
  omega
theorem fact_d {A : Ab} {v u : Int32} (hk : knB A v = true) (h : ¬ betw u 6 10 = true) (h2 : betw u 0 5 = false) : factX A v u = -2 := by
  have n : ∀ q, (q = 6 ∨ q = 7 ∨ q = 8 ∨ q = 9 ∨ q = 10) → ¬ u = nI q := by
    intro q hq e
    apply h
    rw [e]
    rcases hq with rfl | rfl | rfl | rfl | rfl <;> decide
  unfold factX
  rw [if_pos hk, if_neg (by rw [h2]; decide), if_neg (show ¬ u = 6 from n 6 (by decide)), if_neg (show ¬ u = 7 from n 7 (by decide)), if_neg (show ¬ u = 8 from n 8 (by decide)), if_neg (show ¬ u = 9 from n 9 (by decide)), if_neg (show ¬ u = 10 from n 10 (by decide))]
section MPUB
variable {G : GX} {S : Nat → Sh} {B : Bc} {N s sd ah sn be tx od : Fs} {w : Wt}
set_option maxHeartbeats 4000000 in
set_option maxRecDepth 100000 in
theorem c_X4_setLead (hG : GM (N, s, sd, ah, sn, be, tx, od) w) (hV : VW w) (v c : Int32) : Ct G yX4_setLead YX4_setLead 0 0 [.ref (gB G + 247), .int v, .int c] 255 (cellOf G S B (N, s, sd, ah, sn, be, tx, od)) (Re G (some (.int (recX w (leadX w.1 v c)).1)) (fun _ : Md => S) (fun _ => B) (fun a => a) (fun a => GM a (recX w (leadX w.1 v c)).2)) := by
  refine ct_of (by decide +kernel) rfl rfl (Nat.le_of_ble_eq_true rfl) (by simp [Value.category]) ?_
  refine x_sub (l' := [(0, .ref (gB G + 247)), (1, .int v), (2, .int c)]) ⟨rfl, rfl, rfl, trivial⟩ ?_
  have hM : RM s w.1 := hG.1
  have hVA := hV.1
  have hF := hVA.vS
  have h12 := hM.le
  refine x_aload_n (pc := 0) dX4_setLead_0 rfl ?_
  refine t_Vv (pc := 1) (c_X4_looks) qV_X4_looks mL_X4_121 dX4_setLead_1 rfl cell_model (by decide) rfl rfl rfl ⟨by decide, by decide⟩ (Nat.le_of_ble_eq_true rfl) (Nat.le_of_ble_eq_true rfl) (Nat.le_of_ble_eq_true rfl) ?_
  refine x_aload_n (pc := 4) dX4_setLead_4 rfl ?_
  refine x_aload_n (pc := 5) dX4_setLead_5 rfl ?_
  refine x_iload_n (pc := 6) dX4_setLead_6 rfl ?_
  refine x_iload_n (pc := 7) dX4_setLead_7 rfl ?_
  refine e_Vi (pc := 8) (c_X4_leads hM _ _) qV_X4_leads mL_X4_128 dX4_setLead_8 rfl cell_model (by decide) rfl rfl rfl ⟨by decide, by decide⟩ (Nat.le_of_ble_eq_true rfl) (Nat.le_of_ble_eq_true rfl) (Nat.le_of_ble_eq_true rfl) ?_
  intro s1 R1
  refine e_Vi (pc := 11) (c_X4_acted hG.2.1 (RM_cp hM) _) qV_X4_acted mL_X4_131 dX4_setLead_11 rfl cell_model (by decide) rfl rfl rfl ⟨by decide, by decide⟩ (Nat.le_of_ble_eq_true rfl) (Nat.le_of_ble_eq_true rfl) (Nat.le_of_ble_eq_true rfl) ?_
  intro a ha
  obtain ⟨N1, be1⟩ := a
  dsimp only at ha ⊢
  exact x_iret rfl dX4_setLead_14 ⟨_, rfl, rfl, rfl, GM_rec hG R1 ha⟩
set_option maxHeartbeats 4000000 in
set_option maxRecDepth 100000 in
theorem c_X4_cut (hG : GM (N, s, sd, ah, sn, be, tx, od) w) (hV : VW w) (v : Int32) : Ct G yX4_cut YX4_cut 0 0 [.ref (gB G + 247), .int v] 255 (cellOf G S B (N, s, sd, ah, sn, be, tx, od)) (Re G (some (.int (recX w (cutX w.1 v)).1)) (fun _ : Md => S) (fun _ => B) (fun a => a) (fun a => GM a (recX w (cutX w.1 v)).2)) := by
  refine ct_of (by decide +kernel) rfl rfl (Nat.le_of_ble_eq_true rfl) (by simp [Value.category]) ?_
  refine x_sub (l' := [(0, .ref (gB G + 247)), (1, .int v)]) ⟨rfl, rfl, trivial⟩ ?_
  have hM : RM s w.1 := hG.1
  have hVA := hV.1
  have hF := hVA.vS
  have h12 := hM.le
  refine x_aload_n (pc := 0) dX4_cut_0 rfl ?_
  refine t_Vv (pc := 1) (c_X4_looks) qV_X4_looks mL_X4_121 dX4_cut_1 rfl cell_model (by decide) rfl rfl rfl ⟨by decide, by decide⟩ (Nat.le_of_ble_eq_true rfl) (Nat.le_of_ble_eq_true rfl) (Nat.le_of_ble_eq_true rfl) ?_
  refine x_aload_n (pc := 4) dX4_cut_4 rfl ?_
  refine x_aload_n (pc := 5) dX4_cut_5 rfl ?_
  refine x_iload_n (pc := 6) dX4_cut_6 rfl ?_
  refine e_Vi (pc := 7) (c_X4_cuts hM hVA _) qV_X4_cuts mL_X4_137 dX4_cut_7 rfl cell_model (by decide) rfl rfl rfl ⟨by decide, by decide⟩ (Nat.le_of_ble_eq_true rfl) (Nat.le_of_ble_eq_true rfl) (Nat.le_of_ble_eq_true rfl) ?_
  intro s1 R1
  refine e_Vi (pc := 10) (c_X4_acted hG.2.1 (RM_cp hM) _) qV_X4_acted mL_X4_131 dX4_cut_10 rfl cell_model (by decide) rfl rfl rfl ⟨by decide, by decide⟩ (Nat.le_of_ble_eq_true rfl) (Nat.le_of_ble_eq_true rfl) (Nat.le_of_ble_eq_true rfl) ?_
  intro a ha
  obtain ⟨N1, be1⟩ := a
  dsimp only at ha ⊢
  exact x_iret rfl dX4_cut_13 ⟨_, rfl, rfl, rfl, GM_rec hG R1 ha⟩
set_option maxHeartbeats 4000000 in
set_option maxRecDepth 100000 in
theorem c_X4_clean (hG : GM (N, s, sd, ah, sn, be, tx, od) w) (hV : VW w) : Ct G yX4_clean YX4_clean 0 0 [.ref (gB G + 247)] 255 (cellOf G S B (N, s, sd, ah, sn, be, tx, od)) (Re G (some (.int (recX w (cleanX w.1)).1)) (fun _ : Md => S) (fun _ => B) (fun a => a) (fun a => GM a (recX w (cleanX w.1)).2)) := by
  refine ct_of (by decide +kernel) rfl rfl (Nat.le_of_ble_eq_true rfl) (by simp [Value.category]) ?_
  refine x_sub (l' := [(0, .ref (gB G + 247))]) ⟨rfl, trivial⟩ ?_
  have hM : RM s w.1 := hG.1
  have hVA := hV.1
  have hF := hVA.vS
  have h12 := hM.le
  refine x_aload_n (pc := 0) dX4_clean_0 rfl ?_
  refine t_Vv (pc := 1) (c_X4_looks) qV_X4_looks mL_X4_121 dX4_clean_1 rfl cell_model (by decide) rfl rfl rfl ⟨by decide, by decide⟩ (Nat.le_of_ble_eq_true rfl) (Nat.le_of_ble_eq_true rfl) (Nat.le_of_ble_eq_true rfl) ?_
  refine x_aload_n (pc := 4) dX4_clean_4 rfl ?_
  refine x_aload_n (pc := 5) dX4_clean_5 rfl ?_
  refine e_Vi (pc := 6) (c_X4_cleans hM hVA) qV_X4_cleans mL_X4_143 dX4_clean_6 rfl cell_model (by decide) rfl rfl rfl ⟨by decide, by decide⟩ (Nat.le_of_ble_eq_true rfl) (Nat.le_of_ble_eq_true rfl) (Nat.le_of_ble_eq_true rfl) ?_
  intro s1 R1
  refine e_Vi (pc := 9) (c_X4_acted hG.2.1 (RM_cp hM) _) qV_X4_acted mL_X4_131 dX4_clean_9 rfl cell_model (by decide) rfl rfl rfl ⟨by decide, by decide⟩ (Nat.le_of_ble_eq_true rfl) (Nat.le_of_ble_eq_true rfl) (Nat.le_of_ble_eq_true rfl) ?_
  intro a ha
  obtain ⟨N1, be1⟩ := a
  dsimp only at ha ⊢
  exact x_iret rfl dX4_clean_12 ⟨_, rfl, rfl, rfl, GM_rec hG R1 ha⟩
set_option maxHeartbeats 4000000 in
set_option maxRecDepth 100000 in
theorem c_X4_pause (hG : GM (N, s, sd, ah, sn, be, tx, od) w) (hV : VW w) (v : Int32) : Ct G yX4_pause YX4_pause 0 0 [.ref (gB G + 247), .int v] 255 (cellOf G S B (N, s, sd, ah, sn, be, tx, od)) (Re G (some (.int (recX w (waitX w.1 v)).1)) (fun _ : Md => S) (fun _ => B) (fun a => a) (fun a => GM a (recX w (waitX w.1 v)).2)) := by
  refine ct_of (by decide +kernel) rfl rfl (Nat.le_of_ble_eq_true rfl) (by simp [Value.category]) ?_
  refine x_sub (l' := [(0, .ref (gB G + 247)), (1, .int v)]) ⟨rfl, rfl, trivial⟩ ?_
  have hM : RM s w.1 := hG.1
  have hVA := hV.1
  have hF := hVA.vS
  have h12 := hM.le
  refine x_aload_n (pc := 0) dX4_pause_0 rfl ?_
  refine t_Vv (pc := 1) (c_X4_looks) qV_X4_looks mL_X4_121 dX4_pause_1 rfl cell_model (by decide) rfl rfl rfl ⟨by decide, by decide⟩ (Nat.le_of_ble_eq_true rfl) (Nat.le_of_ble_eq_true rfl) (Nat.le_of_ble_eq_true rfl) ?_
  refine x_iload_n (pc := 4) dX4_pause_4 rfl ?_
  refine x_iconst (pc := 5) (1) dX4_pause_5 (by decide) ?_
  refine x_sipush (pc := 6) (999) dX4_pause_6 (by decide) ?_
  refine t_Si (pc := 9) (c_X4_in _ _ _) qS_X4_in mL_X4_38 dX4_pause_9 rfl rfl rfl ⟨by decide, by decide⟩ (Nat.le_of_ble_eq_true rfl) (Nat.le_of_ble_eq_true rfl) (Nat.le_of_ble_eq_true rfl) ?_
  refine x_ifeq (pc := 12) 27 dX4_pause_12 (by decide) (fun c12 => ?_) (fun c12 => ?_)
  · refine x_bipush (pc := 27) (-2) dX4_pause_27 (by decide) ?_
    have hb := b01_eq c12
    have hX : waitX w.1 v = (-2, w.1) := by unfold waitX; rw [hb]; rfl
    rw [hX]
    exact x_iret rfl dX4_pause_29 ⟨_, rfl, rfl, rfl, GM_no (r := (-2, w.1)) hG (show (-2 : Int32) < 0 by decide) hM⟩
  · refine x_aload_n (pc := 15) dX4_pause_15 rfl ?_
    refine x_aload_n (pc := 16) dX4_pause_16 rfl ?_
    refine x_iload_n (pc := 17) dX4_pause_17 rfl ?_
    refine e_Vi (pc := 18) (c_X4_waits hM hVA _ (b01_ne c12)) qV_X4_waits mL_X4_140 dX4_pause_18 rfl cell_model (by decide) rfl rfl rfl ⟨by decide, by decide⟩ (Nat.le_of_ble_eq_true rfl) (Nat.le_of_ble_eq_true rfl) (Nat.le_of_ble_eq_true rfl) ?_
    intro s1 R1
    refine e_Vi (pc := 21) (c_X4_acted hG.2.1 (RM_cp hM) _) qV_X4_acted mL_X4_131 dX4_pause_21 rfl cell_model (by decide) rfl rfl rfl ⟨by decide, by decide⟩ (Nat.le_of_ble_eq_true rfl) (Nat.le_of_ble_eq_true rfl) (Nat.le_of_ble_eq_true rfl) ?_
    intro a ha
    obtain ⟨N1, be1⟩ := a
    dsimp only at ha ⊢
    refine x_goto (pc := 24) 29 dX4_pause_24 (by decide) ?_
    exact x_iret rfl dX4_pause_29 ⟨_, rfl, rfl, rfl, GM_rec hG R1 ha⟩
set_option maxHeartbeats 4000000 in
set_option maxRecDepth 100000 in
theorem c_X4_tell (hG : GM (N, s, sd, ah, sn, be, tx, od) w) (hV : VW w) (c r x h : Int32) : Ct G yX4_tell YX4_tell 0 0 [.ref (gB G + 247), .int c, .int r, .int x, .int h] 255 (cellOf G S B (N, s, sd, ah, sn, be, tx, od)) (Re G (some (.int (recX w (tellX w.1 c r x h)).1)) (fun _ : Md => S) (fun _ => B) (fun a => a) (fun a => GM a (recX w (tellX w.1 c r x h)).2)) := by
  refine ct_of (by decide +kernel) rfl rfl (Nat.le_of_ble_eq_true rfl) (by simp [Value.category]) ?_
  refine x_sub (l' := [(0, .ref (gB G + 247)), (1, .int c), (2, .int r), (3, .int x), (4, .int h)]) ⟨rfl, rfl, rfl, rfl, rfl, trivial⟩ ?_
  have hM : RM s w.1 := hG.1
  have hVA := hV.1
  have hF := hVA.vS
  have h12 := hM.le
  refine x_iload_n (pc := 0) dX4_tell_0 rfl ?_
  refine x_iconst (pc := 1) (0) dX4_tell_1 (by decide) ?_
  refine x_bipush (pc := 2) (31) dX4_tell_2 (by decide) ?_
  refine t_Si (pc := 4) (c_X4_in _ _ _) qS_X4_in mL_X4_38 dX4_tell_4 rfl rfl rfl ⟨by decide, by decide⟩ (Nat.le_of_ble_eq_true rfl) (Nat.le_of_ble_eq_true rfl) (Nat.le_of_ble_eq_true rfl) ?_
  refine x_ifeq (pc := 7) 45 dX4_tell_7 (by decide) (fun c7 => ?_) (fun c7 => ?_)
  · refine x_iconst (pc := 45) (0) dX4_tell_45 (by decide) ?_
    refine x_istore (pc := 46) dX4_tell_46 (by decide) ?_
    refine x_iload (pc := 48) dX4_tell_48 rfl ?_
    refine x_ifeq (pc := 50) 70 dX4_tell_50 (by decide) (fun _ => ?_) (fun h => absurd h (by decide))
    refine x_bipush (pc := 70) (-2) dX4_tell_70 (by decide) ?_
    have t := b01_eq c7
    have hb : badB c r x h = true := by simp only [badB, t, Bool.and_false, Bool.false_and, Bool.not_false]
    have hX : tellX w.1 c r x h = (-2, w.1) := by unfold tellX; rw [if_pos hb]
    rw [hX]
    exact x_iret rfl dX4_tell_72 ⟨_, rfl, rfl, rfl, GM_no (r := (-2, w.1)) hG (show (-2 : Int32) < 0 by decide) hM⟩
  · refine x_iload_n (pc := 10) dX4_tell_10 rfl ?_
    refine x_iconst (pc := 11) (0) dX4_tell_11 (by decide) ?_
    refine x_bipush (pc := 12) (23) dX4_tell_12 (by decide) ?_
    refine t_Si (pc := 14) (c_X4_in _ _ _) qS_X4_in mL_X4_38 dX4_tell_14 rfl rfl rfl ⟨by decide, by decide⟩ (Nat.le_of_ble_eq_true rfl) (Nat.le_of_ble_eq_true rfl) (Nat.le_of_ble_eq_true rfl) ?_
    refine x_ifeq (pc := 17) 45 dX4_tell_17 (by decide) (fun c17 => ?_) (fun c17 => ?_)
    · refine x_iconst (pc := 45) (0) dX4_tell_45 (by decide) ?_
      refine x_istore (pc := 46) dX4_tell_46 (by decide) ?_
      refine x_iload (pc := 48) dX4_tell_48 rfl ?_
      refine x_ifeq (pc := 50) 70 dX4_tell_50 (by decide) (fun _ => ?_) (fun h => absurd h (by decide))
      refine x_bipush (pc := 70) (-2) dX4_tell_70 (by decide) ?_
      have t := b01_eq c17
      have hb : badB c r x h = true := by simp only [badB, t, Bool.and_false, Bool.false_and, Bool.not_false]
      have hX : tellX w.1 c r x h = (-2, w.1) := by unfold tellX; rw [if_pos hb]
      rw [hX]
      exact x_iret rfl dX4_tell_72 ⟨_, rfl, rfl, rfl, GM_no (r := (-2, w.1)) hG (show (-2 : Int32) < 0 by decide) hM⟩
    · refine x_iload_n (pc := 20) dX4_tell_20 rfl ?_
      refine x_iconst (pc := 21) (2) dX4_tell_21 (by decide) ?_
      refine x_bipush (pc := 22) (32) dX4_tell_22 (by decide) ?_
      refine t_Si (pc := 24) (c_X4_in _ _ _) qS_X4_in mL_X4_38 dX4_tell_24 rfl rfl rfl ⟨by decide, by decide⟩ (Nat.le_of_ble_eq_true rfl) (Nat.le_of_ble_eq_true rfl) (Nat.le_of_ble_eq_true rfl) ?_
      refine x_ifeq (pc := 27) 45 dX4_tell_27 (by decide) (fun c27 => ?_) (fun c27 => ?_)
      · refine x_iconst (pc := 45) (0) dX4_tell_45 (by decide) ?_
        refine x_istore (pc := 46) dX4_tell_46 (by decide) ?_
        refine x_iload (pc := 48) dX4_tell_48 rfl ?_
        refine x_ifeq (pc := 50) 70 dX4_tell_50 (by decide) (fun _ => ?_) (fun h => absurd h (by decide))
        refine x_bipush (pc := 70) (-2) dX4_tell_70 (by decide) ?_
        have t := b01_eq c27
        have hb : badB c r x h = true := by simp only [badB, t, Bool.and_false, Bool.false_and, Bool.not_false]
        have hX : tellX w.1 c r x h = (-2, w.1) := by unfold tellX; rw [if_pos hb]
        rw [hX]
        exact x_iret rfl dX4_tell_72 ⟨_, rfl, rfl, rfl, GM_no (r := (-2, w.1)) hG (show (-2 : Int32) < 0 by decide) hM⟩
      · refine x_iload (pc := 30) dX4_tell_30 rfl ?_
        refine x_iconst (pc := 32) (2) dX4_tell_32 (by decide) ?_
        refine x_bipush (pc := 33) (24) dX4_tell_33 (by decide) ?_
        refine t_Si (pc := 35) (c_X4_in _ _ _) qS_X4_in mL_X4_38 dX4_tell_35 rfl rfl rfl ⟨by decide, by decide⟩ (Nat.le_of_ble_eq_true rfl) (Nat.le_of_ble_eq_true rfl) (Nat.le_of_ble_eq_true rfl) ?_
        refine x_ifeq (pc := 38) 45 dX4_tell_38 (by decide) (fun c38 => ?_) (fun c38 => ?_)
        · refine x_iconst (pc := 45) (0) dX4_tell_45 (by decide) ?_
          refine x_istore (pc := 46) dX4_tell_46 (by decide) ?_
          refine x_iload (pc := 48) dX4_tell_48 rfl ?_
          refine x_ifeq (pc := 50) 70 dX4_tell_50 (by decide) (fun _ => ?_) (fun h => absurd h (by decide))
          refine x_bipush (pc := 70) (-2) dX4_tell_70 (by decide) ?_
          have t := b01_eq c38
          have hb : badB c r x h = true := by simp only [badB, t, Bool.and_false, Bool.false_and, Bool.not_false]
          have hX : tellX w.1 c r x h = (-2, w.1) := by unfold tellX; rw [if_pos hb]
          rw [hX]
          exact x_iret rfl dX4_tell_72 ⟨_, rfl, rfl, rfl, GM_no (r := (-2, w.1)) hG (show (-2 : Int32) < 0 by decide) hM⟩
        · refine x_iconst (pc := 41) (1) dX4_tell_41 (by decide) ?_
          refine x_goto (pc := 42) 46 dX4_tell_42 (by decide) ?_
          refine x_istore (pc := 46) dX4_tell_46 (by decide) ?_
          refine x_iload (pc := 48) dX4_tell_48 rfl ?_
          refine x_ifeq (pc := 50) 70 dX4_tell_50 (by decide) (fun h => absurd h (by decide)) (fun _ => ?_)
          refine x_iload_n (pc := 53) dX4_tell_53 rfl ?_
          refine x_iload_n (pc := 54) dX4_tell_54 rfl ?_
          refine x_iadd (pc := 55) dX4_tell_55 ?_
          refine x_bipush (pc := 56) (32) dX4_tell_56 (by decide) ?_
          refine x_cmpgt (pc := 58) 70 dX4_tell_58 (by decide) (fun c58 => ?_) (fun c58 => ?_)
          · refine x_bipush (pc := 70) (-2) dX4_tell_70 (by decide) ?_
            have t := decide_eq_true (show (32 : Int32) < c + x from c58)
            have hb : badB c r x h = true := by simp only [badB, t, Bool.not_true, Bool.and_false, Bool.false_and, Bool.not_false]
            have hX : tellX w.1 c r x h = (-2, w.1) := by unfold tellX; rw [if_pos hb]
            rw [hX]
            exact x_iret rfl dX4_tell_72 ⟨_, rfl, rfl, rfl, GM_no (r := (-2, w.1)) hG (show (-2 : Int32) < 0 by decide) hM⟩
          · refine x_iload_n (pc := 61) dX4_tell_61 rfl ?_
            refine x_iload (pc := 62) dX4_tell_62 rfl ?_
            refine x_iadd (pc := 64) dX4_tell_64 ?_
            refine x_bipush (pc := 65) (24) dX4_tell_65 (by decide) ?_
            refine x_cmple (pc := 67) 73 dX4_tell_67 (by decide) (fun c67 => ?_) (fun c67 => ?_)
            · have hb : badB c r x h = false := badB_eq (b01_ne c7) (b01_ne c17) (b01_ne c27) (b01_ne c38) c58 c67
              refine x_aload_n (pc := 73) dX4_tell_73 rfl ?_
              refine x_iload_n (pc := 74) dX4_tell_74 rfl ?_
              refine x_iload_n (pc := 75) dX4_tell_75 rfl ?_
              refine x_iload_n (pc := 76) dX4_tell_76 rfl ?_
              refine x_iload (pc := 77) dX4_tell_77 rfl ?_
              refine t_Vi (pc := 79) (c_X4_couldBe hM hF hb) qV_X4_couldBe mL_X4_117 dX4_tell_79 rfl cell_model (by decide) rfl rfl rfl ⟨by decide, by decide⟩ (Nat.le_of_ble_eq_true rfl) (Nat.le_of_ble_eq_true rfl) (Nat.le_of_ble_eq_true rfl) ?_
              refine x_ifne (pc := 82) 88 dX4_tell_82 (by decide) (fun c82 => ?_) (fun c82 => ?_)
              · refine x_aload_n (pc := 88) dX4_tell_88 rfl ?_
                refine x_get (pc := 89) (ci := 4) (k := 0) (C := RX4) (T := TX4) (N := 21) cell_model rfl (by decide) rfl nX4 (by decide) mF_X4_7 rfl dX4_tell_89 ?_
                refine x_iconst (pc := 92) (0) dX4_tell_92 (by decide) ?_
                refine t_ild (pc := 93) 0 cell_s (by decide) rfl (by decide) (by decide) dX4_tell_93 ?_
                try dsimp only
                rw [hM.told]
                refine x_bipush (pc := 94) (12) dX4_tell_94 (by decide) ?_
                refine x_cmpne (pc := 96) 102 dX4_tell_96 (by decide) (fun c96 => ?_) (fun c96 => ?_)
                · have hlt : w.1.1 < 12 := by
                    have : w.1.1 ≠ 12 := fun z => c96 (by rw [z]; rfl)
                    omega
                  refine x_aload_n (pc := 102) dX4_tell_102 rfl ?_
                  refine t_Vv (pc := 103) (c_X4_looks) qV_X4_looks mL_X4_121 dX4_tell_103 rfl cell_model (by decide) rfl rfl rfl ⟨by decide, by decide⟩ (Nat.le_of_ble_eq_true rfl) (Nat.le_of_ble_eq_true rfl) (Nat.le_of_ble_eq_true rfl) ?_
                  refine x_aload_n (pc := 106) dX4_tell_106 rfl ?_
                  refine e_Vv (pc := 107) (c_X4_records hG.2.1 (RM_cp hM)) qV_X4_records mL_X4_114 dX4_tell_107 rfl cell_model (by decide) rfl rfl rfl ⟨by decide, by decide⟩ (Nat.le_of_ble_eq_true rfl) (Nat.le_of_ble_eq_true rfl) (Nat.le_of_ble_eq_true rfl) ?_
                  intro a ha
                  obtain ⟨N1, be1⟩ := a
                  dsimp only at ha ⊢
                  refine x_aload_n (pc := 110) dX4_tell_110 rfl ?_
                  refine x_get (pc := 111) (ci := 4) (k := 0) (C := RX4) (T := TX4) (N := 21) cell_model rfl (by decide) rfl nX4 (by decide) mF_X4_7 rfl dX4_tell_111 ?_
                  refine x_iconst (pc := 114) (0) dX4_tell_114 (by decide) ?_
                  refine t_ild (pc := 115) 0 cell_s (by decide) rfl (by decide) (by decide) dX4_tell_115 ?_
                  try dsimp only
                  rw [hM.told]
                  refine x_istore (pc := 116) dX4_tell_116 (by decide) ?_
                  refine x_aload_n (pc := 118) dX4_tell_118 rfl ?_
                  refine x_get (pc := 119) (ci := 4) (k := 0) (C := RX4) (T := TX4) (N := 21) cell_model rfl (by decide) rfl nX4 (by decide) mF_X4_7 rfl dX4_tell_119 ?_
                  refine x_iconst (pc := 122) (0) dX4_tell_122 (by decide) ?_
                  refine x_dup2 (pc := 123) dX4_tell_123 rfl rfl ?_
                  refine t_ild (pc := 124) 0 cell_s (by decide) rfl (by decide) (by decide) dX4_tell_124 ?_
                  try dsimp only
                  rw [hM.told]
                  refine x_iconst (pc := 125) (1) dX4_tell_125 (by decide) ?_
                  refine x_iadd (pc := 126) dX4_tell_126 ?_
                  try dsimp only
                  rw [nI_1]
                  refine t_stS (pc := 127) 0 (by decide) rfl dX4_tell_127 ?_
                  try dsimp only
                  refine x_aload_n (pc := 128) dX4_tell_128 rfl ?_
                  refine x_iload (pc := 129) dX4_tell_129 rfl ?_
                  refine x_iload_n (pc := 131) dX4_tell_131 rfl ?_
                  refine x_iload_n (pc := 132) dX4_tell_132 rfl ?_
                  refine x_iload_n (pc := 133) dX4_tell_133 rfl ?_
                  refine x_iload (pc := 134) dX4_tell_134 rfl ?_
                  refine t_Vv (pc := 136) (c_X4_lays hlt _ _ _ _) qV_X4_lays mL_X4_124 dX4_tell_136 rfl cell_model (by decide) rfl rfl rfl ⟨by decide, by decide⟩ (Nat.le_of_ble_eq_true rfl) (Nat.le_of_ble_eq_true rfl) (Nat.le_of_ble_eq_true rfl) ?_
                  refine x_iload (pc := 139) dX4_tell_139 rfl ?_
                  have t := b01_ne c82
                  have hX : tellX w.1 c r x h = (nI w.1.1, (w.1.1 + 1, w.1.2.1, w.1.2.2.1, w.1.2.2.2.1, updF w.1.2.2.2.2 w.1.1 (plF (fun _ => 0) c r x h))) := by unfold tellX; rw [if_neg (by rw [hb]; decide), if_pos t, if_pos hlt]
                  rw [hX]
                  exact x_iret rfl dX4_tell_141 ⟨_, rfl, rfl, rfl, GM_rec (r := (nI w.1.1, _)) hG (RM_add hM hlt c r x h) (by rw [if_neg (nI_pos (show w.1.1 < 2 ^ 31 by omega))]; exact ha)⟩
                · have hlt : ¬ w.1.1 < 12 := by
                    have := (nI_eq (b := 12) (by omega) (by decide)).mp c96
                    omega
                  refine x_bipush (pc := 99) (-3) dX4_tell_99 (by decide) ?_
                  have hX : tellX w.1 c r x h = (-3, w.1) := by have t := b01_ne c82; unfold tellX; rw [if_neg (by rw [hb]; decide), if_pos t, if_neg hlt]
                  rw [hX]
                  exact x_iret rfl dX4_tell_101 ⟨_, rfl, rfl, rfl, GM_no (r := (-3, w.1)) hG (show (-3 : Int32) < 0 by decide) hM⟩
              · refine x_bipush (pc := 85) (-4) dX4_tell_85 (by decide) ?_
                have hX : tellX w.1 c r x h = (-4, w.1) := by have t := b01_eq c82; unfold tellX; rw [if_neg (by rw [hb]; decide), if_neg (by rw [t]; decide)]
                rw [hX]
                exact x_iret rfl dX4_tell_87 ⟨_, rfl, rfl, rfl, GM_no (r := (-4, w.1)) hG (show (-4 : Int32) < 0 by decide) hM⟩
            · refine x_bipush (pc := 70) (-2) dX4_tell_70 (by decide) ?_
              have t := decide_eq_true (show (24 : Int32) < r + h from c67)
              have hb : badB c r x h = true := by simp only [badB, t, Bool.not_true, Bool.and_false, Bool.not_false]
              have hX : tellX w.1 c r x h = (-2, w.1) := by unfold tellX; rw [if_pos hb]
              rw [hX]
              exact x_iret rfl dX4_tell_72 ⟨_, rfl, rfl, rfl, GM_no (r := (-2, w.1)) hG (show (-2 : Int32) < 0 by decide) hM⟩
theorem great_0 : greatF 0 = 99 := rfl
theorem gr_3 {q : Nat} (h0 : ¬ q = 0) (h1 : ¬ q = 1) (h2 : ¬ q = 2) : greatF q = 1 := by
  unfold greatF
  rw [if_neg h0, if_neg h1, if_neg h2]
set_option maxHeartbeats 4000000 in
set_option maxRecDepth 100000 in
theorem c_X4_most {q : Nat} (hq : q < 4) : Ct G yX4_most YX4_most 0 0 [.int (nI q)] 255 (cellOf G S B (N, s, sd, ah, sn, be, tx, od)) (Rt G (some (.int (greatF q))) S B (N, s, sd, ah, sn, be, tx, od)) := by
  refine ct_of (by decide +kernel) rfl rfl (Nat.le_of_ble_eq_true rfl) (by simp [Value.category]) ?_
  refine x_sub (l' := [(0, .int (nI q))]) ⟨rfl, trivial⟩ ?_
  refine x_iload_n (pc := 0) dX4_most_0 rfl ?_
  refine x_ifne (pc := 1) 9 dX4_most_1 (by decide) (fun c1 => ?_) (fun c1 => ?_)
  · have e1 : ¬ q = 0 := fun z => c1 (by rw [z]; rfl)
    refine x_iload_n (pc := 9) dX4_most_9 rfl ?_
    refine x_iconst (pc := 10) (1) dX4_most_10 (by decide) ?_
    refine x_cmpne (pc := 11) 19 dX4_most_11 (by decide) (fun c11 => ?_) (fun c11 => ?_)
    · have e11 : ¬ q = 1 := fun z => c11 (by rw [z]; rfl)
      refine x_iload_n (pc := 19) dX4_most_19 rfl ?_
      refine x_iconst (pc := 20) (2) dX4_most_20 (by decide) ?_
      refine x_cmpne (pc := 21) 30 dX4_most_21 (by decide) (fun c21 => ?_) (fun c21 => ?_)
      · have e21 : ¬ q = 2 := fun z => c21 (by rw [z]; rfl)
        refine x_iconst (pc := 30) (1) dX4_most_30 (by decide) ?_
        rw [gr_3 e1 e11 e21]
        exact x_iret rfl dX4_most_31 ⟨rfl, rfl, rfl⟩
      · have e21 : q = 2 := (nI_eq (b := 2) (by omega) (by decide)).mp c21
        refine x_sipush (pc := 24) (999) dX4_most_24 (by decide) ?_
        refine x_goto (pc := 27) 31 dX4_most_27 (by decide) ?_
        rw [e21]
        exact x_iret rfl dX4_most_31 ⟨rfl, rfl, rfl⟩
    · have e11 : q = 1 := (nI_eq (b := 1) (by omega) (by decide)).mp c11
      refine x_bipush (pc := 14) (20) dX4_most_14 (by decide) ?_
      refine x_goto (pc := 16) 31 dX4_most_16 (by decide) ?_
      rw [e11]
      exact x_iret rfl dX4_most_31 ⟨rfl, rfl, rfl⟩
  · have e1 : q = 0 := (nI_eq (b := 0) (by omega) (by decide)).mp c1
    refine x_bipush (pc := 4) (99) dX4_most_4 (by decide) ?_
    refine x_goto (pc := 6) 31 dX4_most_6 (by decide) ?_
    rw [e1]
    exact x_iret rfl dX4_most_31 ⟨rfl, rfl, rfl⟩
set_option maxHeartbeats 4000000 in
set_option maxRecDepth 100000 in
theorem c_X4_set (hG : GM (N, s, sd, ah, sn, be, tx, od) w) (hV : VW w) (u v : Int32) : Ct G yX4_set YX4_set 0 0 [.ref (gB G + 247), .int u, .int v] 255 (cellOf G S B (N, s, sd, ah, sn, be, tx, od)) (Re G (some (.int (recX w (setX w.1 u v)).1)) (fun _ : Md => S) (fun _ => B) (fun a => a) (fun a => GM a (recX w (setX w.1 u v)).2)) := by
  refine ct_of (by decide +kernel) rfl rfl (Nat.le_of_ble_eq_true rfl) (by simp [Value.category]) ?_
  refine x_sub (l' := [(0, .ref (gB G + 247)), (1, .int u), (2, .int v)]) ⟨rfl, rfl, rfl, trivial⟩ ?_
  have hM : RM s w.1 := hG.1
  have hVA := hV.1
  have hF := hVA.vS
  have h12 := hM.le
  refine x_iload_n (pc := 0) dX4_set_0 rfl ?_
  refine x_iconst (pc := 1) (0) dX4_set_1 (by decide) ?_
  refine x_iconst (pc := 2) (3) dX4_set_2 (by decide) ?_
  refine t_Si (pc := 3) (c_X4_in _ _ _) qS_X4_in mL_X4_38 dX4_set_3 rfl rfl rfl ⟨by decide, by decide⟩ (Nat.le_of_ble_eq_true rfl) (Nat.le_of_ble_eq_true rfl) (Nat.le_of_ble_eq_true rfl) ?_
  refine x_ifne (pc := 6) 11 dX4_set_6 (by decide) (fun c6 => ?_) (fun c6 => ?_)
  · have hbu : betw u 0 3 = true := b01_ne c6
    obtain ⟨q, hq, rfl, hcl⟩ := betw_some (n := 3) rfl (by decide) hbu
    have hq4 : q < 4 := by omega
    refine x_iload_n (pc := 11) dX4_set_11 rfl ?_
    refine x_iload_n (pc := 12) dX4_set_12 rfl ?_
    refine x_ifne (pc := 13) 20 dX4_set_13 (by decide) (fun c13 => ?_) (fun c13 => ?_)
    · have el : leastF q = 0 := by unfold leastF; rw [if_neg (fun z => c13 (by rw [z]; rfl))]
      refine x_iconst (pc := 20) (0) dX4_set_20 (by decide) ?_
      refine x_iload_n (pc := 21) dX4_set_21 rfl ?_
      refine t_Si (pc := 22) (c_X4_most hq4) qS_X4_most mL_X4_134 dX4_set_22 rfl rfl rfl ⟨by decide, by decide⟩ (Nat.le_of_ble_eq_true rfl) (Nat.le_of_ble_eq_true rfl) (Nat.le_of_ble_eq_true rfl) ?_
      refine t_Si (pc := 25) (c_X4_in _ _ _) qS_X4_in mL_X4_38 dX4_set_25 rfl rfl rfl ⟨by decide, by decide⟩ (Nat.le_of_ble_eq_true rfl) (Nat.le_of_ble_eq_true rfl) (Nat.le_of_ble_eq_true rfl) ?_
      refine x_ifne (pc := 28) 34 dX4_set_28 (by decide) (fun c28 => ?_) (fun c28 => ?_)
      · have hb : betw v (leastF q) (greatF q) = true := by rw [el]; exact b01_ne c28
        refine x_aload_n (pc := 34) dX4_set_34 rfl ?_
        refine x_get (pc := 35) (ci := 4) (k := 0) (C := RX4) (T := TX4) (N := 21) cell_model rfl (by decide) rfl nX4 (by decide) mF_X4_7 rfl dX4_set_35 ?_
        refine x_bipush (pc := 38) (7) dX4_set_38 (by decide) ?_
        refine x_iload_n (pc := 40) dX4_set_40 rfl ?_
        refine x_iadd (pc := 41) dX4_set_41 ?_
        refine t_ild (pc := 42) (7 + q) cell_s (by decide) (nI_add 7 q) (by omega) (by decide) dX4_set_42 ?_
        try dsimp only
        try dsimp only
        rw [hM.sett q hq4]
        refine x_istore_n (pc := 43) dX4_set_43 (by decide) ?_
        refine x_iload_n (pc := 44) dX4_set_44 rfl ?_
        refine x_iload_n (pc := 45) dX4_set_45 rfl ?_
        refine x_cmpne (pc := 46) 52 dX4_set_46 (by decide) (fun c46 => ?_) (fun c46 => ?_)
        · refine x_aload_n (pc := 52) dX4_set_52 rfl ?_
          refine t_Vv (pc := 53) (c_X4_looks) qV_X4_looks mL_X4_121 dX4_set_53 rfl cell_model (by decide) rfl rfl rfl ⟨by decide, by decide⟩ (Nat.le_of_ble_eq_true rfl) (Nat.le_of_ble_eq_true rfl) (Nat.le_of_ble_eq_true rfl) ?_
          refine x_aload_n (pc := 56) dX4_set_56 rfl ?_
          refine e_Vv (pc := 57) (c_X4_records hG.2.1 (RM_cp hM)) qV_X4_records mL_X4_114 dX4_set_57 rfl cell_model (by decide) rfl rfl rfl ⟨by decide, by decide⟩ (Nat.le_of_ble_eq_true rfl) (Nat.le_of_ble_eq_true rfl) (Nat.le_of_ble_eq_true rfl) ?_
          intro a ha
          obtain ⟨N1, be1⟩ := a
          dsimp only at ha ⊢
          refine x_aload_n (pc := 60) dX4_set_60 rfl ?_
          refine x_get (pc := 61) (ci := 4) (k := 0) (C := RX4) (T := TX4) (N := 21) cell_model rfl (by decide) rfl nX4 (by decide) mF_X4_7 rfl dX4_set_61 ?_
          refine x_bipush (pc := 64) (7) dX4_set_64 (by decide) ?_
          refine x_iload_n (pc := 66) dX4_set_66 rfl ?_
          refine x_iadd (pc := 67) dX4_set_67 ?_
          refine x_iload_n (pc := 68) dX4_set_68 rfl ?_
          refine t_stS (pc := 69) (7 + q) (by omega) (nI_add 7 q) dX4_set_69 ?_
          try dsimp only
          refine x_iload_n (pc := 70) dX4_set_70 rfl ?_
          have hX : setX w.1 (nI q) v = (w.1.2.2.2.1 q, (w.1.1, w.1.2.1, w.1.2.2.1, upd w.1.2.2.2.1 q v, w.1.2.2.2.2)) := by unfold setX; rw [if_pos hbu, hcl, if_pos hb, if_neg c46]
          rw [hX]
          exact x_iret rfl dX4_set_71 ⟨_, rfl, rfl, rfl, GM_rec (r := (w.1.2.2.2.1 q, _)) hG (RM_sett hM q hq4 v) (by rw [if_neg (set_ge hVA hq4)]; exact ha)⟩
        · refine x_bipush (pc := 49) (-5) dX4_set_49 (by decide) ?_
          have hX : setX w.1 (nI q) v = (-5, w.1) := by unfold setX; rw [if_pos hbu, hcl, if_pos hb, if_pos c46]
          rw [hX]
          exact x_iret rfl dX4_set_51 ⟨_, rfl, rfl, rfl, GM_no (r := (-5, w.1)) hG (show (-5 : Int32) < 0 by decide) hM⟩
      · have hb : betw v (leastF q) (greatF q) = false := by rw [el]; exact b01_eq c28
        refine x_bipush (pc := 31) (-2) dX4_set_31 (by decide) ?_
        have hX : setX w.1 (nI q) v = (-2, w.1) := by unfold setX; rw [if_pos hbu, hcl, hb]; rfl
        rw [hX]
        exact x_iret rfl dX4_set_33 ⟨_, rfl, rfl, rfl, GM_no (r := (-2, w.1)) hG (show (-2 : Int32) < 0 by decide) hM⟩
    · have el : leastF q = 1 := by rw [(nI_eq (b := 0) (by omega) (by decide)).mp c13]; rfl
      refine x_iconst (pc := 16) (1) dX4_set_16 (by decide) ?_
      refine x_goto (pc := 17) 21 dX4_set_17 (by decide) ?_
      refine x_iload_n (pc := 21) dX4_set_21 rfl ?_
      refine t_Si (pc := 22) (c_X4_most hq4) qS_X4_most mL_X4_134 dX4_set_22 rfl rfl rfl ⟨by decide, by decide⟩ (Nat.le_of_ble_eq_true rfl) (Nat.le_of_ble_eq_true rfl) (Nat.le_of_ble_eq_true rfl) ?_
      refine t_Si (pc := 25) (c_X4_in _ _ _) qS_X4_in mL_X4_38 dX4_set_25 rfl rfl rfl ⟨by decide, by decide⟩ (Nat.le_of_ble_eq_true rfl) (Nat.le_of_ble_eq_true rfl) (Nat.le_of_ble_eq_true rfl) ?_
      refine x_ifne (pc := 28) 34 dX4_set_28 (by decide) (fun c28 => ?_) (fun c28 => ?_)
      · have hb : betw v (leastF q) (greatF q) = true := by rw [el]; exact b01_ne c28
        refine x_aload_n (pc := 34) dX4_set_34 rfl ?_
        refine x_get (pc := 35) (ci := 4) (k := 0) (C := RX4) (T := TX4) (N := 21) cell_model rfl (by decide) rfl nX4 (by decide) mF_X4_7 rfl dX4_set_35 ?_
        refine x_bipush (pc := 38) (7) dX4_set_38 (by decide) ?_
        refine x_iload_n (pc := 40) dX4_set_40 rfl ?_
        refine x_iadd (pc := 41) dX4_set_41 ?_
        refine t_ild (pc := 42) (7 + q) cell_s (by decide) (nI_add 7 q) (by omega) (by decide) dX4_set_42 ?_
        try dsimp only
        try dsimp only
        rw [hM.sett q hq4]
        refine x_istore_n (pc := 43) dX4_set_43 (by decide) ?_
        refine x_iload_n (pc := 44) dX4_set_44 rfl ?_
        refine x_iload_n (pc := 45) dX4_set_45 rfl ?_
        refine x_cmpne (pc := 46) 52 dX4_set_46 (by decide) (fun c46 => ?_) (fun c46 => ?_)
        · refine x_aload_n (pc := 52) dX4_set_52 rfl ?_
          refine t_Vv (pc := 53) (c_X4_looks) qV_X4_looks mL_X4_121 dX4_set_53 rfl cell_model (by decide) rfl rfl rfl ⟨by decide, by decide⟩ (Nat.le_of_ble_eq_true rfl) (Nat.le_of_ble_eq_true rfl) (Nat.le_of_ble_eq_true rfl) ?_
          refine x_aload_n (pc := 56) dX4_set_56 rfl ?_
          refine e_Vv (pc := 57) (c_X4_records hG.2.1 (RM_cp hM)) qV_X4_records mL_X4_114 dX4_set_57 rfl cell_model (by decide) rfl rfl rfl ⟨by decide, by decide⟩ (Nat.le_of_ble_eq_true rfl) (Nat.le_of_ble_eq_true rfl) (Nat.le_of_ble_eq_true rfl) ?_
          intro a ha
          obtain ⟨N1, be1⟩ := a
          dsimp only at ha ⊢
          refine x_aload_n (pc := 60) dX4_set_60 rfl ?_
          refine x_get (pc := 61) (ci := 4) (k := 0) (C := RX4) (T := TX4) (N := 21) cell_model rfl (by decide) rfl nX4 (by decide) mF_X4_7 rfl dX4_set_61 ?_
          refine x_bipush (pc := 64) (7) dX4_set_64 (by decide) ?_
          refine x_iload_n (pc := 66) dX4_set_66 rfl ?_
          refine x_iadd (pc := 67) dX4_set_67 ?_
          refine x_iload_n (pc := 68) dX4_set_68 rfl ?_
          refine t_stS (pc := 69) (7 + q) (by omega) (nI_add 7 q) dX4_set_69 ?_
          try dsimp only
          refine x_iload_n (pc := 70) dX4_set_70 rfl ?_
          have hX : setX w.1 (nI q) v = (w.1.2.2.2.1 q, (w.1.1, w.1.2.1, w.1.2.2.1, upd w.1.2.2.2.1 q v, w.1.2.2.2.2)) := by unfold setX; rw [if_pos hbu, hcl, if_pos hb, if_neg c46]
          rw [hX]
          exact x_iret rfl dX4_set_71 ⟨_, rfl, rfl, rfl, GM_rec (r := (w.1.2.2.2.1 q, _)) hG (RM_sett hM q hq4 v) (by rw [if_neg (set_ge hVA hq4)]; exact ha)⟩
        · refine x_bipush (pc := 49) (-5) dX4_set_49 (by decide) ?_
          have hX : setX w.1 (nI q) v = (-5, w.1) := by unfold setX; rw [if_pos hbu, hcl, if_pos hb, if_pos c46]
          rw [hX]
          exact x_iret rfl dX4_set_51 ⟨_, rfl, rfl, rfl, GM_no (r := (-5, w.1)) hG (show (-5 : Int32) < 0 by decide) hM⟩
      · have hb : betw v (leastF q) (greatF q) = false := by rw [el]; exact b01_eq c28
        refine x_bipush (pc := 31) (-2) dX4_set_31 (by decide) ?_
        have hX : setX w.1 (nI q) v = (-2, w.1) := by unfold setX; rw [if_pos hbu, hcl, hb]; rfl
        rw [hX]
        exact x_iret rfl dX4_set_33 ⟨_, rfl, rfl, rfl, GM_no (r := (-2, w.1)) hG (show (-2 : Int32) < 0 by decide) hM⟩
  · have hbu : betw u 0 3 = false := b01_eq c6
    refine x_iconst (pc := 9) (-1) dX4_set_9 (by decide) ?_
    have hX : setX w.1 u v = (-1, w.1) := by unfold setX; rw [hbu]; rfl
    rw [hX]
    exact x_iret rfl dX4_set_10 ⟨_, rfl, rfl, rfl, GM_no (r := (-1, w.1)) hG (show (-1 : Int32) < 0 by decide) hM⟩
set_option maxHeartbeats 4000000 in
set_option maxRecDepth 100000 in
theorem c_X4_type (hG : GM (N, s, sd, ah, sn, be, tx, od) w) (c : Int32) : Ct G yX4_type YX4_type 0 0 [.ref (gB G + 247), .int c] 255 (cellOf G S B (N, s, sd, ah, sn, be, tx, od)) (Re G (some (.int (typX w c).1)) (fun _ : Md => S) (fun _ => B) (fun a => a) (fun a => GM a (typX w c).2)) := by
  refine ct_of (by decide +kernel) rfl rfl (Nat.le_of_ble_eq_true rfl) (by simp [Value.category]) ?_
  refine x_sub (l' := [(0, .ref (gB G + 247)), (1, .int c)]) ⟨rfl, rfl, trivial⟩ ?_
  have h8 : N 8 = nI w.2.2.2.1.1 := hG.2.2.2.1.1
  have h60 := hG.2.2.2.1.2.1
  refine x_aload_n (pc := 0) dX4_type_0 rfl ?_
  refine x_get (pc := 1) (ci := 4) (k := 8) (C := RX4) (T := TX4) (N := 21) cell_model rfl (by decide) rfl nX4 (by decide) mF_X4_146 rfl dX4_type_1 ?_
  try dsimp only
  try dsimp only
  rw [h8]
  refine x_bipush (pc := 4) (60) dX4_type_4 (by decide) ?_
  refine x_cmpne (pc := 6) 12 dX4_type_6 (by decide) (fun c6 => ?_) (fun c6 => ?_)
  · have hlt : w.2.2.2.1.1 < 60 := by
      have : w.2.2.2.1.1 ≠ 60 := fun z => c6 (by rw [z]; rfl)
      omega
    refine x_aload_n (pc := 12) dX4_type_12 rfl ?_
    refine x_get (pc := 13) (ci := 4) (k := 7) (C := RX4) (T := TX4) (N := 21) cell_model rfl (by decide) rfl nX4 (by decide) mF_X4_25 rfl dX4_type_13 ?_
    refine x_aload_n (pc := 16) dX4_type_16 rfl ?_
    refine x_get (pc := 17) (ci := 4) (k := 8) (C := RX4) (T := TX4) (N := 21) cell_model rfl (by decide) rfl nX4 (by decide) mF_X4_146 rfl dX4_type_17 ?_
    try dsimp only
    try dsimp only
    rw [h8]
    refine x_iload_n (pc := 20) dX4_type_20 rfl ?_
    refine t_stText (pc := 21) w.2.2.2.1.1 (by omega) rfl dX4_type_21 ?_
    try dsimp only
    refine x_aload_n (pc := 22) dX4_type_22 rfl ?_
    refine x_dup (pc := 23) dX4_type_23 rfl ?_
    refine x_get (pc := 24) (ci := 4) (k := 8) (C := RX4) (T := TX4) (N := 21) cell_model rfl (by decide) rfl nX4 (by decide) mF_X4_146 rfl dX4_type_24 ?_
    try dsimp only
    try dsimp only
    rw [h8]
    refine x_iconst (pc := 27) (1) dX4_type_27 (by decide) ?_
    refine x_iadd (pc := 28) dX4_type_28 ?_
    try dsimp only
    rw [nI_1]
    refine t_putM (pc := 29) 8 (by unfold isMF; decide) rfl rfl mF_X4_146 dX4_type_29 ?_
    try dsimp only
    refine x_aload_n (pc := 32) dX4_type_32 rfl ?_
    refine x_get (pc := 33) (ci := 4) (k := 8) (C := RX4) (T := TX4) (N := 21) cell_model rfl (by decide) rfl nX4 (by decide) mF_X4_146 rfl dX4_type_33 ?_
    try dsimp only
    try dsimp only
    rw [upd_same]
    have hX : typX w c = (nI (w.2.2.2.1.1 + 1), (w.1, w.2.1, w.2.2.1, (w.2.2.2.1.1 + 1, upd w.2.2.2.1.2 w.2.2.2.1.1 c), w.2.2.2.2)) := by unfold typX; rw [if_pos hlt]
    rw [hX]
    exact x_iret rfl dX4_type_36 ⟨_, rfl, rfl, rfl, GM_typ hG hlt⟩
  · have hlt : ¬ w.2.2.2.1.1 < 60 := by
      have := (nI_eq (b := 60) (by omega) (by decide)).mp c6
      omega
    refine x_bipush (pc := 9) (-3) dX4_type_9 (by decide) ?_
    have hX : typX w c = (-3, w) := by unfold typX; rw [if_neg hlt]
    rw [hX]
    exact x_iret rfl dX4_type_11 ⟨(N, s, sd, ah, sn, be, tx, od), rfl, rfl, rfl, hG⟩
set_option maxHeartbeats 4000000 in
set_option maxRecDepth 100000 in
theorem c_X4_clearText (hG : GM (N, s, sd, ah, sn, be, tx, od) w) : Ct G yX4_clearText YX4_clearText 0 0 [.ref (gB G + 247)] 255 (cellOf G S B (N, s, sd, ah, sn, be, tx, od)) (Re G (some (.int (clrX w).1)) (fun _ : Md => S) (fun _ => B) (fun a => a) (fun a => GM a (clrX w).2)) := by
  refine ct_of (by decide +kernel) rfl rfl (Nat.le_of_ble_eq_true rfl) (by simp [Value.category]) ?_
  refine x_sub (l' := [(0, .ref (gB G + 247))]) ⟨rfl, trivial⟩ ?_
  have h8 : N 8 = nI w.2.2.2.1.1 := hG.2.2.2.1.1
  refine x_aload_n (pc := 0) dX4_clearText_0 rfl ?_
  refine x_get (pc := 1) (ci := 4) (k := 8) (C := RX4) (T := TX4) (N := 21) cell_model rfl (by decide) rfl nX4 (by decide) mF_X4_146 rfl dX4_clearText_1 ?_
  try dsimp only
  try dsimp only
  rw [h8]
  refine x_istore_n (pc := 4) dX4_clearText_4 (by decide) ?_
  refine x_aload_n (pc := 5) dX4_clearText_5 rfl ?_
  refine x_iconst (pc := 6) (0) dX4_clearText_6 (by decide) ?_
  refine t_putM (pc := 7) 8 (by unfold isMF; decide) rfl rfl mF_X4_146 dX4_clearText_7 ?_
  try dsimp only
  refine x_iload_n (pc := 10) dX4_clearText_10 rfl ?_
  exact x_iret rfl dX4_clearText_11 ⟨_, rfl, rfl, rfl, hG.1, HM_N hG.2.1 rfl, snM_k hG.2.2.1 rfl, ⟨upd_same N 8 0, Nat.zero_le _, fun p hp => absurd hp (Nat.not_lt_zero p)⟩, stM_k hG.2.2.2.2 rfl rfl⟩
theorem stp_0 {N : Fs} {w : Wt} (h : stM N w.2.2.2.2) : N 9 = stpX w 0 := by
  unfold stpX
  rw [if_neg (by decide), if_neg (by decide)]
  rcases hz : w.2.2.2.2 with _ | z
  · rw [hz] at h; exact h.1
  · rw [hz] at h; exact h.1
theorem stp_1 {N : Fs} {w : Wt} (h : stM N w.2.2.2.2) : N 10 = stpX w 1 := by
  unfold stpX
  rw [if_neg (by decide), if_neg (by decide)]
  rcases hz : w.2.2.2.2 with _ | z
  · rw [hz] at h; exact h.2
  · rw [hz] at h; exact h.2
theorem stp_2 {w : Wt} {v : Int32} (h0 : ¬ v = 0) (h1 : ¬ v = 1) : stpX w v = -2 := by
  unfold stpX
  by_cases a : v < 0
  · rw [if_pos a]
  rw [if_neg a, if_pos]
  rw [ti_lt, t0] at a
  rw [ti_eq, t0] at h0
  rw [ti_eq, t1] at h1
  rw [ti_lt, t1]
  omega
set_option maxHeartbeats 4000000 in
set_option maxRecDepth 100000 in
theorem c_X4_stopped (hG : GM (N, s, sd, ah, sn, be, tx, od) w) (v : Int32) : Ct G yX4_stopped YX4_stopped 0 0 [.ref (gB G + 247), .int v] 255 (cellOf G S B (N, s, sd, ah, sn, be, tx, od)) (Rt G (some (.int (stpX w v))) S B (N, s, sd, ah, sn, be, tx, od)) := by
  refine ct_of (by decide +kernel) rfl rfl (Nat.le_of_ble_eq_true rfl) (by simp [Value.category]) ?_
  refine x_sub (l' := [(0, .ref (gB G + 247)), (1, .int v)]) ⟨rfl, rfl, trivial⟩ ?_
  refine x_iload_n (pc := 0) dX4_stopped_0 rfl ?_
  refine x_ifne (pc := 1) 11 dX4_stopped_1 (by decide) (fun c1 => ?_) (fun c1 => ?_)
  · refine x_iload_n (pc := 11) dX4_stopped_11 rfl ?_
    refine x_iconst (pc := 12) (1) dX4_stopped_12 (by decide) ?_
    refine x_cmpne (pc := 13) 23 dX4_stopped_13 (by decide) (fun c13 => ?_) (fun c13 => ?_)
    · refine x_bipush (pc := 23) (-2) dX4_stopped_23 (by decide) ?_
      rw [stp_2 c1 c13]
      exact x_iret rfl dX4_stopped_25 ⟨rfl, rfl, rfl⟩
    · refine x_aload_n (pc := 16) dX4_stopped_16 rfl ?_
      refine x_get (pc := 17) (ci := 4) (k := 10) (C := RX4) (T := TX4) (N := 21) cell_model rfl (by decide) rfl nX4 (by decide) mF_X4_32 rfl dX4_stopped_17 ?_
      try dsimp only
      refine x_goto (pc := 20) 25 dX4_stopped_20 (by decide) ?_
      rw [c13, ← stp_1 hG.2.2.2.2]
      exact x_iret rfl dX4_stopped_25 ⟨rfl, rfl, rfl⟩
  · refine x_aload_n (pc := 4) dX4_stopped_4 rfl ?_
    refine x_get (pc := 5) (ci := 4) (k := 9) (C := RX4) (T := TX4) (N := 21) cell_model rfl (by decide) rfl nX4 (by decide) mF_X4_28 rfl dX4_stopped_5 ?_
    try dsimp only
    refine x_goto (pc := 8) 25 dX4_stopped_8 (by decide) ?_
    rw [c1, ← stp_0 hG.2.2.2.2]
    exact x_iret rfl dX4_stopped_25 ⟨rfl, rfl, rfl⟩
set_option maxHeartbeats 4000000 in
set_option maxRecDepth 100000 in
theorem c_X4_undo (hG : GM (N, s, sd, ah, sn, be, tx, od) w) : Ct G yX4_undo YX4_undo 0 0 [.ref (gB G + 247)] 255 (cellOf G S B (N, s, sd, ah, sn, be, tx, od)) (Re G (some (.int (undX w).1)) (fun _ : Md => S) (fun _ => B) (fun a => a) (fun a => GM a (undX w).2)) := by
  refine ct_of (by decide +kernel) rfl rfl (Nat.le_of_ble_eq_true rfl) (by simp [Value.category]) ?_
  refine x_sub (l' := [(0, .ref (gB G + 247))]) ⟨rfl, trivial⟩ ?_
  have hH := hG.2.1
  have h4 : w.2.1.length ≤ 4 := hH.2.1
  cases hl : w.2.1.getLast? with
  | none =>
    have h0 : w.2.1 = [] := List.getLast?_eq_none_iff.mp hl
    have h6 : N 6 = 0 := hH.1.trans (by rw [h0]; rfl)
    have hX : undX w = (-5, w) := by simp only [undX, hl]
    rw [hX]
    refine x_aload_n (pc := 0) dX4_undo_0 rfl ?_
    refine x_get (pc := 1) (ci := 4) (k := 6) (C := RX4) (T := TX4) (N := 21) cell_model rfl (by decide) rfl nX4 (by decide) mF_X4_49 rfl dX4_undo_1 ?_
    try dsimp only
    try dsimp only
    rw [h6]
    refine x_ifne (pc := 4) 10 dX4_undo_4 (by decide) (fun c4 => absurd rfl c4) (fun c4 => ?_)
    refine x_bipush (pc := 7) (-5) dX4_undo_7 (by decide) ?_
    exact x_iret rfl dX4_undo_9 ⟨(N, s, sd, ah, sn, be, tx, od), rfl, rfl, rfl, hG⟩
  | some A =>
    obtain ⟨hp, hk⟩ := und_last hl
    have h6 : N 6 = nI w.2.1.length := hH.1
    have hX : undX w = (nI (w.2.1.length - 1), (A, w.2.1.dropLast, w.2.2)) := by simp only [undX, hl]
    rw [hX]
    have hRk := hH.2.2 _ _ hk
    have hpd : nI w.2.1.length - 1 = nI (w.2.1.length - 1) := nI_p1 hp
    have lp : ∀ k, k ≤ 119 → XJ G YX4_undo (fun _ => True) (Zx G (Re G (some (.int (nI (w.2.1.length - 1)))) (fun _ : Md => S) (fun _ => B) (fun a => a) (fun a => GM a (A, w.2.1.dropLast, w.2.2))) 0 0) 22 [(0, .ref (gB G + 247)), (1, .int (nI k))] [] 255 (cellOf G S B ((upd N 6 (nI (w.2.1.length - 1))), cpF s (fun q => be (119 * (w.2.1.length - 1) + q)) k, sd, ah, sn, be, tx, od)) 0 0 := by
      refine loopD 119 ?_
      intro k hk ih
      refine x_iload_n (pc := 22) dX4_undo_22 rfl ?_
      refine x_bipush (pc := 23) (119) dX4_undo_23 (by decide) ?_
      refine x_cmpge (pc := 25) 54 dX4_undo_25 (by decide) (fun c25 => ?_) (fun c25 => ?_)
      · obtain rfl : k = 119 := by have := mt (lt_lit (n := 119) rfl (by decide) (by omega)).mpr c25; omega
        refine x_aload_n (pc := 54) dX4_undo_54 rfl ?_
        refine x_get (pc := 55) (ci := 4) (k := 6) (C := RX4) (T := TX4) (N := 21) cell_model rfl (by decide) rfl nX4 (by decide) mF_X4_49 rfl dX4_undo_55 ?_
        try dsimp only
        try dsimp only
        rw [upd_same]
        exact x_iret rfl dX4_undo_58 ⟨_, rfl, rfl, rfl, GM_und hG hl⟩
      · have hkn : k < 119 := (lt_lit rfl (by decide) (by omega)).mp c25
        refine x_aload_n (pc := 28) dX4_undo_28 rfl ?_
        refine x_get (pc := 29) (ci := 4) (k := 0) (C := RX4) (T := TX4) (N := 21) cell_model rfl (by decide) rfl nX4 (by decide) mF_X4_7 rfl dX4_undo_29 ?_
        refine x_iload_n (pc := 32) dX4_undo_32 rfl ?_
        refine x_aload_n (pc := 33) dX4_undo_33 rfl ?_
        refine x_get (pc := 34) (ci := 4) (k := 5) (C := RX4) (T := TX4) (N := 21) cell_model rfl (by decide) rfl nX4 (by decide) mF_X4_22 rfl dX4_undo_34 ?_
        refine x_bipush (pc := 37) (119) dX4_undo_37 (by decide) ?_
        refine x_aload_n (pc := 39) dX4_undo_39 rfl ?_
        refine x_get (pc := 40) (ci := 4) (k := 6) (C := RX4) (T := TX4) (N := 21) cell_model rfl (by decide) rfl nX4 (by decide) mF_X4_49 rfl dX4_undo_40 ?_
        try dsimp only
        try dsimp only
        rw [upd_same]
        refine x_imul (pc := 43) dX4_undo_43 ?_
        refine x_iload_n (pc := 44) dX4_undo_44 rfl ?_
        refine x_iadd (pc := 45) dX4_undo_45 ?_
        refine t_ild (pc := 46) (119 * (w.2.1.length - 1) + k) cell_before (by decide) (nI_119 _ k) (by omega) (by decide) dX4_undo_46 ?_
        try dsimp only
        refine t_stS (pc := 47) _ (by first | assumption | omega) rfl dX4_undo_47 ?_
        try dsimp only
        refine x_iinc (pc := 48) (nI (k + 1)) dX4_undo_48 rfl (iinc_nI k) (by decide) ?_
        refine x_goto (pc := 51) 22 dX4_undo_51 (by decide) ?_
        have e := ih hkn
        rw [← cpF_s s _ k] at e
        exact x_back e ⟨rfl, rfl, trivial⟩
    refine x_aload_n (pc := 0) dX4_undo_0 rfl ?_
    refine x_get (pc := 1) (ci := 4) (k := 6) (C := RX4) (T := TX4) (N := 21) cell_model rfl (by decide) rfl nX4 (by decide) mF_X4_49 rfl dX4_undo_1 ?_
    try dsimp only
    try dsimp only
    rw [h6]
    refine x_ifne (pc := 4) 10 dX4_undo_4 (by decide) (fun c4 => ?_) (fun c4 => absurd c4 (nI_ne0 hp (by omega)))
    refine x_aload_n (pc := 10) dX4_undo_10 rfl ?_
    refine x_dup (pc := 11) dX4_undo_11 rfl ?_
    refine x_get (pc := 12) (ci := 4) (k := 6) (C := RX4) (T := TX4) (N := 21) cell_model rfl (by decide) rfl nX4 (by decide) mF_X4_49 rfl dX4_undo_12 ?_
    try dsimp only
    try dsimp only
    rw [h6]
    refine x_iconst (pc := 15) (1) dX4_undo_15 (by decide) ?_
    refine x_isub (pc := 16) dX4_undo_16 ?_
    try dsimp only
    rw [hpd]
    refine t_putM (pc := 17) 6 (by unfold isMF; decide) rfl rfl mF_X4_49 dX4_undo_17 ?_
    try dsimp only
    refine x_iconst (pc := 20) (0) dX4_undo_20 (by decide) ?_
    refine x_istore_n (pc := 21) dX4_undo_21 (by decide) ?_
    have e := lp 0 (by omega)
    rw [cpF_0] at e
    exact x_back e ⟨rfl, rfl, trivial⟩
set_option maxHeartbeats 4000000 in
set_option maxRecDepth 100000 in
theorem c_X4_keep (hG : GM (N, s, sd, ah, sn, be, tx, od) w) : Ct G yX4_keep YX4_keep 0 0 [.ref (gB G + 247)] 255 (cellOf G S B (N, s, sd, ah, sn, be, tx, od)) (Re G (some (.int (keepX w).1)) (fun _ : Md => S) (fun _ => B) (fun a => a) (fun a => GM a (keepX w).2)) := by
  refine ct_of (by decide +kernel) rfl rfl (Nat.le_of_ble_eq_true rfl) (by simp [Value.category]) ?_
  refine x_sub (l' := [(0, .ref (gB G + 247))]) ⟨rfl, trivial⟩ ?_
  have hM : RM s w.1 := hG.1
  have lp : ∀ k, k ≤ 119 → XJ G YX4_keep (fun _ => True) (Zx G (Re G (some (.int (keepX w).1)) (fun _ : Md => S) (fun _ => B) (fun a => a) (fun a => GM a (keepX w).2)) 0 0) 2 [(0, .ref (gB G + 247)), (1, .int (nI k))] [] 255 (cellOf G S B (N, s, sd, ah, cpF sn s k, be, tx, od)) 0 0 := by
    refine loopD (119) ?_
    intro k hk ih
    refine x_iload_n (pc := 2) dX4_keep_2 rfl ?_
    refine x_bipush (pc := 3) (119) dX4_keep_3 (by decide) ?_
    refine x_cmpge (pc := 5) 26 dX4_keep_5 (by decide) (fun c5 => ?_) (fun c5 => ?_)
    · obtain rfl : k = 119 := by have := mt (lt_lit (n := 119) rfl (by decide) (by omega)).mpr c5; omega
      refine x_aload_n (pc := 26) dX4_keep_26 rfl ?_
      refine x_iconst (pc := 27) (1) dX4_keep_27 (by decide) ?_
      refine t_putM (pc := 28) 4 (by unfold isMF; decide) rfl rfl mF_X4_187 dX4_keep_28 ?_
      try dsimp only
      refine x_aload_n (pc := 31) dX4_keep_31 rfl ?_
      refine x_get (pc := 32) (ci := 4) (k := 0) (C := RX4) (T := TX4) (N := 21) cell_model rfl (by decide) rfl nX4 (by decide) mF_X4_7 rfl dX4_keep_32 ?_
      refine x_iconst (pc := 35) (0) dX4_keep_35 (by decide) ?_
      refine t_ild (pc := 36) 0 cell_s (by decide) rfl (by decide) (by decide) dX4_keep_36 ?_
      try dsimp only
      rw [hM.told]
      exact x_iret rfl dX4_keep_37 ⟨_, rfl, rfl, rfl, hM, HM_N hG.2.1 rfl, ⟨upd_same N 4 1, RM_c hM (fun q hq => cpF_in sn s hq)⟩, txM_k hG.2.2.2.1 rfl, stM_k hG.2.2.2.2 rfl rfl⟩
    · have hkn : k < 119 := (lt_lit rfl (by decide) (by omega)).mp c5
      refine x_aload_n (pc := 8) dX4_keep_8 rfl ?_
      refine x_get (pc := 9) (ci := 4) (k := 3) (C := RX4) (T := TX4) (N := 21) cell_model rfl (by decide) rfl nX4 (by decide) mF_X4_19 rfl dX4_keep_9 ?_
      refine x_iload_n (pc := 12) dX4_keep_12 rfl ?_
      refine x_aload_n (pc := 13) dX4_keep_13 rfl ?_
      refine x_get (pc := 14) (ci := 4) (k := 0) (C := RX4) (T := TX4) (N := 21) cell_model rfl (by decide) rfl nX4 (by decide) mF_X4_7 rfl dX4_keep_14 ?_
      refine x_iload_n (pc := 17) dX4_keep_17 rfl ?_
      refine t_ild (pc := 18) k cell_s (by decide) rfl (by omega) (by decide) dX4_keep_18 ?_
      try dsimp only
      refine t_stSnap (pc := 19) _ (by first | assumption | omega) rfl dX4_keep_19 ?_
      try dsimp only
      refine x_iinc (pc := 20) (nI (k + 1)) dX4_keep_20 rfl (iinc_nI k) (by decide) ?_
      refine x_goto (pc := 23) 2 dX4_keep_23 (by decide) ?_
      have e := ih hkn
      rw [← cpF_s sn s k] at e
      exact x_back e ⟨rfl, rfl, trivial⟩
  refine x_iconst (pc := 0) (0) dX4_keep_0 (by decide) ?_
  refine x_istore_n (pc := 1) dX4_keep_1 (by decide) ?_
  have e := lp 0 (by omega)
  rw [cpF_0] at e
  exact x_back e ⟨rfl, rfl, trivial⟩
set_option maxHeartbeats 4000000 in
set_option maxRecDepth 100000 in
theorem c_X4_restore (hG : GM (N, s, sd, ah, sn, be, tx, od) w) : Ct G yX4_restore YX4_restore 0 0 [.ref (gB G + 247)] 255 (cellOf G S B (N, s, sd, ah, sn, be, tx, od)) (Re G (some (.int (resX w).1)) (fun _ : Md => S) (fun _ => B) (fun a => a) (fun a => GM a (resX w).2)) := by
  refine ct_of (by decide +kernel) rfl rfl (Nat.le_of_ble_eq_true rfl) (by simp [Value.category]) ?_
  refine x_sub (l' := [(0, .ref (gB G + 247))]) ⟨rfl, trivial⟩ ?_
  have hM : RM s w.1 := hG.1
  have h3 := hG.2.2.1
  cases hs : w.2.2.1 with
  | none =>
    rw [hs] at h3
    have h4 : N 4 = 0 := h3
    have hX : resX w = (-5, w) := by simp only [resX, hs]
    rw [hX]
    refine x_aload_n (pc := 0) dX4_restore_0 rfl ?_
    refine x_get (pc := 1) (ci := 4) (k := 4) (C := RX4) (T := TX4) (N := 21) cell_model rfl (by decide) rfl nX4 (by decide) mF_X4_187 rfl dX4_restore_1 ?_
    try dsimp only
    try dsimp only
    rw [h4]
    refine x_ifne (pc := 4) 10 dX4_restore_4 (by decide) (fun c4 => absurd rfl c4) (fun c4 => ?_)
    refine x_bipush (pc := 7) (-5) dX4_restore_7 (by decide) ?_
    exact x_iret rfl dX4_restore_9 ⟨(N, s, sd, ah, sn, be, tx, od), rfl, rfl, rfl, hG⟩
  | some A =>
    rw [hs] at h3
    have h4 : N 4 = 1 := h3.1
    have hS : RM sn A := h3.2
    have hX : resX w = recX w (nI A.1, A) := by simp only [resX, hs]
    rw [hX]
    have lp : ∀ (N1 be1 : Fs), (HM N1 be1 (if (nI A.1) < 0 then w.2.1 else pushH w.2.1 w.1) ∧ ∀ k, k ≠ 6 → N1 k = N k) → ∀ k, k ≤ 119 → XJ G YX4_restore (fun _ => True) (Zx G (Re G (some (.int (recX w (nI A.1, A)).1)) (fun _ : Md => S) (fun _ => B) (fun a => a) (fun a => GM a (recX w (nI A.1, A)).2)) 0 0) 20 [(0, .ref (gB G + 247)), (1, .int (nI k))] [] 255 (cellOf G S B (N1, cpF s sn k, sd, cpF ah s 119, sn, be1, tx, od)) 0 0 := by
      intro N1 be1 ha
      refine loopD 119 ?_
      intro k hk ih
      refine x_iload_n (pc := 20) dX4_restore_20 rfl ?_
      refine x_bipush (pc := 21) (119) dX4_restore_21 (by decide) ?_
      refine x_cmpge (pc := 23) 44 dX4_restore_23 (by decide) (fun c23 => ?_) (fun c23 => ?_)
      · obtain rfl : k = 119 := by have := mt (lt_lit (n := 119) rfl (by decide) (by omega)).mpr c23; omega
        refine x_aload_n (pc := 44) dX4_restore_44 rfl ?_
        refine x_get (pc := 45) (ci := 4) (k := 0) (C := RX4) (T := TX4) (N := 21) cell_model rfl (by decide) rfl nX4 (by decide) mF_X4_7 rfl dX4_restore_45 ?_
        refine x_iconst (pc := 48) (0) dX4_restore_48 (by decide) ?_
        refine t_ild (pc := 49) 0 cell_s (by decide) rfl (by decide) (by decide) dX4_restore_49 ?_
        try dsimp only
        try dsimp only
        rw [(RM_c hS (fun q hq => cpF_in s sn hq)).told]
        exact x_iret rfl dX4_restore_50 ⟨_, rfl, rfl, rfl, GM_rec (r := (nI A.1, A)) hG (RM_c hS (fun q hq => cpF_in s sn hq)) ha⟩
      · have hkn : k < 119 := (lt_lit rfl (by decide) (by omega)).mp c23
        refine x_aload_n (pc := 26) dX4_restore_26 rfl ?_
        refine x_get (pc := 27) (ci := 4) (k := 0) (C := RX4) (T := TX4) (N := 21) cell_model rfl (by decide) rfl nX4 (by decide) mF_X4_7 rfl dX4_restore_27 ?_
        refine x_iload_n (pc := 30) dX4_restore_30 rfl ?_
        refine x_aload_n (pc := 31) dX4_restore_31 rfl ?_
        refine x_get (pc := 32) (ci := 4) (k := 3) (C := RX4) (T := TX4) (N := 21) cell_model rfl (by decide) rfl nX4 (by decide) mF_X4_19 rfl dX4_restore_32 ?_
        refine x_iload_n (pc := 35) dX4_restore_35 rfl ?_
        refine t_ild (pc := 36) _ cell_snap (by decide) rfl (by first | assumption | omega) (by decide) dX4_restore_36 ?_
        try dsimp only
        refine t_stS (pc := 37) _ (by first | assumption | omega) rfl dX4_restore_37 ?_
        try dsimp only
        refine x_iinc (pc := 38) (nI (k + 1)) dX4_restore_38 rfl (iinc_nI k) (by decide) ?_
        refine x_goto (pc := 41) 20 dX4_restore_41 (by decide) ?_
        have e := ih hkn
        rw [← cpF_s s sn k] at e
        exact x_back e ⟨rfl, rfl, trivial⟩
    refine x_aload_n (pc := 0) dX4_restore_0 rfl ?_
    refine x_get (pc := 1) (ci := 4) (k := 4) (C := RX4) (T := TX4) (N := 21) cell_model rfl (by decide) rfl nX4 (by decide) mF_X4_187 rfl dX4_restore_1 ?_
    try dsimp only
    try dsimp only
    rw [h4]
    refine x_ifne (pc := 4) 10 dX4_restore_4 (by decide) (fun c4 => ?_) (fun c4 => absurd c4 (by decide))
    refine x_aload_n (pc := 10) dX4_restore_10 rfl ?_
    refine t_Vv (pc := 11) (c_X4_looks) qV_X4_looks mL_X4_121 dX4_restore_11 rfl cell_model (by decide) rfl rfl rfl ⟨by decide, by decide⟩ (Nat.le_of_ble_eq_true rfl) (Nat.le_of_ble_eq_true rfl) (Nat.le_of_ble_eq_true rfl) ?_
    refine x_aload_n (pc := 14) dX4_restore_14 rfl ?_
    refine e_Vv (pc := 15) (c_X4_records hG.2.1 (RM_cp hM)) qV_X4_records mL_X4_114 dX4_restore_15 rfl cell_model (by decide) rfl rfl rfl ⟨by decide, by decide⟩ (Nat.le_of_ble_eq_true rfl) (Nat.le_of_ble_eq_true rfl) (Nat.le_of_ble_eq_true rfl) ?_
    intro a ha
    obtain ⟨N1, be1⟩ := a
    dsimp only at ha ⊢
    refine x_iconst (pc := 18) (0) dX4_restore_18 (by decide) ?_
    refine x_istore_n (pc := 19) dX4_restore_19 (by decide) ?_
    have e := lp N1 be1 (by rw [if_neg (nI_pos (show A.1 < 2 ^ 31 by have := hS.le; omega))]; exact ha) 0 (by omega)
    rw [cpF_0] at e
    exact x_back e ⟨rfl, rfl, trivial⟩
set_option maxHeartbeats 4000000 in
set_option maxRecDepth 100000 in
theorem c_X4_heat (hG : GM (N, s, sd, ah, sn, be, tx, od) w) (hV : VW w) (v : Int32) : Ct G yX4_heat YX4_heat 0 0 [.ref (gB G + 247), .int v] 255 (cellOf G S B (N, s, sd, ah, sn, be, tx, od)) (Rt G (some (.int (hinV w.1.2.2.1 v))) S B (N, s, sd, ah, sn, be, tx, od)) := by
  refine ct_of (by decide +kernel) rfl rfl (Nat.le_of_ble_eq_true rfl) (by simp [Value.category]) ?_
  refine x_sub (l' := [(0, .ref (gB G + 247)), (1, .int v)]) ⟨rfl, rfl, trivial⟩ ?_
  have hM : RM s w.1 := hG.1
  have hVA := hV.1
  have hVW := hV
  have hV := hV.1
  have hF := hV.vS
  have h12 := hM.le
  refine x_iload_n (pc := 0) dX4_heat_0 rfl ?_
  refine x_iconst (pc := 1) (0) dX4_heat_1 (by decide) ?_
  refine x_bipush (pc := 2) (11) dX4_heat_2 (by decide) ?_
  refine t_Si (pc := 4) (c_X4_in _ _ _) qS_X4_in mL_X4_38 dX4_heat_4 rfl rfl rfl ⟨by decide, by decide⟩ (Nat.le_of_ble_eq_true rfl) (Nat.le_of_ble_eq_true rfl) (Nat.le_of_ble_eq_true rfl) ?_
  refine x_ifeq (pc := 7) 22 dX4_heat_7 (by decide) (fun c7 => ?_) (fun c7 => ?_)
  · have hb := b01_eq c7
    refine x_iconst (pc := 22) (-1) dX4_heat_22 (by decide) ?_
    exact x_iret rfl dX4_heat_23 ⟨by unfold hinV; rw [hb]; rfl, rfl, rfl⟩
  · have hb := b01_ne c7
    obtain ⟨q, hq, rfl, hcl⟩ := betw_some (n := 11) rfl (by decide) hb
    have hq12 : q < 12 := by omega
    refine x_aload_n (pc := 10) dX4_heat_10 rfl ?_
    refine x_get (pc := 11) (ci := 4) (k := 0) (C := RX4) (T := TX4) (N := 21) cell_model rfl (by decide) rfl nX4 (by decide) mF_X4_7 rfl dX4_heat_11 ?_
    refine x_bipush (pc := 14) (11) dX4_heat_14 (by decide) ?_
    refine x_iload_n (pc := 16) dX4_heat_16 rfl ?_
    refine x_iadd (pc := 17) dX4_heat_17 ?_
    refine t_ild (pc := 18) (11 + q) cell_s (by decide) (nI_11 q) (by omega) (by decide) dX4_heat_18 ?_
    try dsimp only
    try dsimp only
    rw [hM.heat q hq12]
    refine x_goto (pc := 19) 23 dX4_heat_19 (by decide) ?_
    rw [hin_nI hq12]
    exact x_iret rfl dX4_heat_23 ⟨rfl, rfl, rfl⟩
set_option maxHeartbeats 4000000 in
set_option maxRecDepth 100000 in
theorem c_X4_reason (hG : GM (N, s, sd, ah, sn, be, tx, od) w) (hV : VW w) (v : Int32) : Ct G yX4_reason YX4_reason 0 0 [.ref (gB G + 247), .int v] 255 (cellOf G S B (N, s, sd, ah, sn, be, tx, od)) (Rt G (some (.int (reaX w.1 v))) S B (N, s, sd, ah, sn, be, tx, od)) := by
  refine ct_of (by decide +kernel) rfl rfl (Nat.le_of_ble_eq_true rfl) (by simp [Value.category]) ?_
  refine x_sub (l' := [(0, .ref (gB G + 247)), (1, .int v)]) ⟨rfl, rfl, trivial⟩ ?_
  have hM : RM s w.1 := hG.1
  have hVA := hV.1
  have hVW := hV
  have hV := hV.1
  have hF := hV.vS
  have h12 := hM.le
  refine x_aload_n (pc := 0) dX4_reason_0 rfl ?_
  refine x_iload_n (pc := 1) dX4_reason_1 rfl ?_
  refine t_Vi (pc := 2) (c_X4_isShape hM _) qV_X4_isShape mL_X4_97 dX4_reason_2 rfl cell_model (by decide) rfl rfl rfl ⟨by decide, by decide⟩ (Nat.le_of_ble_eq_true rfl) (Nat.le_of_ble_eq_true rfl) (Nat.le_of_ble_eq_true rfl) ?_
  refine x_ifeq (pc := 5) 16 dX4_reason_5 (by decide) (fun c5 => ?_) (fun c5 => ?_)
  · have hk : knB w.1 v = false := b01_eq c5
    refine x_iconst (pc := 16) (-1) dX4_reason_16 (by decide) ?_
    exact x_iret rfl dX4_reason_17 ⟨by unfold reaX; rw [hk]; rfl, rfl, rfl⟩
  · have hk : knB w.1 v = true := b01_ne c5
    obtain ⟨i, hi, rfl, hcl⟩ := knB_some hM.le hk
    refine x_aload_n (pc := 8) dX4_reason_8 rfl ?_
    refine x_iload_n (pc := 9) dX4_reason_9 rfl ?_
    refine t_Vi (pc := 10) (c_X4_why hM hV (by first | assumption | omega)) qV_X4_why mL_X4_100 dX4_reason_10 rfl cell_model (by decide) rfl rfl rfl ⟨by decide, by decide⟩ (Nat.le_of_ble_eq_true rfl) (Nat.le_of_ble_eq_true rfl) (Nat.le_of_ble_eq_true rfl) ?_
    refine x_goto (pc := 13) 17 dX4_reason_13 (by decide) ?_
    exact x_iret rfl dX4_reason_17 ⟨by unfold reaX; rw [if_pos hk, hcl], rfl, rfl⟩
set_option maxHeartbeats 4000000 in
set_option maxRecDepth 100000 in
theorem c_X4_takes (hG : GM (N, s, sd, ah, sn, be, tx, od) w) (hV : VW w) (v : Int32) : Ct G yX4_takes YX4_takes 0 0 [.ref (gB G + 247), .int v] 255 (cellOf G S B (N, s, sd, ah, sn, be, tx, od)) (Rt G (some (.int (tcX w.1 v))) S B (N, s, sd, ah, sn, be, tx, od)) := by
  refine ct_of (by decide +kernel) rfl rfl (Nat.le_of_ble_eq_true rfl) (by simp [Value.category]) ?_
  refine x_sub (l' := [(0, .ref (gB G + 247)), (1, .int v)]) ⟨rfl, rfl, trivial⟩ ?_
  have hM : RM s w.1 := hG.1
  have hVA := hV.1
  have hVW := hV
  have hV := hV.1
  have hF := hV.vS
  have h12 := hM.le
  refine x_aload_n (pc := 0) dX4_takes_0 rfl ?_
  refine x_iload_n (pc := 1) dX4_takes_1 rfl ?_
  refine t_Vi (pc := 2) (c_X4_isShape hM _) qV_X4_isShape mL_X4_97 dX4_takes_2 rfl cell_model (by decide) rfl rfl rfl ⟨by decide, by decide⟩ (Nat.le_of_ble_eq_true rfl) (Nat.le_of_ble_eq_true rfl) (Nat.le_of_ble_eq_true rfl) ?_
  refine x_ifne (pc := 5) 12 dX4_takes_5 (by decide) (fun c5 => ?_) (fun c5 => ?_)
  · have hk : knB w.1 v = true := b01_ne c5
    obtain ⟨i, hi, rfl, hcl⟩ := knB_some hM.le hk
    refine x_aload_n (pc := 12) dX4_takes_12 rfl ?_
    refine x_iload_n (pc := 13) dX4_takes_13 rfl ?_
    refine t_Vi (pc := 14) (c_X4_isWhole hM (by first | assumption | omega)) qV_X4_isWhole mL_X4_66 dX4_takes_14 rfl cell_model (by decide) rfl rfl rfl ⟨by decide, by decide⟩ (Nat.le_of_ble_eq_true rfl) (Nat.le_of_ble_eq_true rfl) (Nat.le_of_ble_eq_true rfl) ?_
    refine x_ifeq (pc := 17) 28 dX4_takes_17 (by decide) (fun c17 => ?_) (fun c17 => ?_)
    · refine x_bipush (pc := 28) (-4) dX4_takes_28 (by decide) ?_
      have t := of_decide_eq_false (b01_eq c17)
      exact x_iret rfl dX4_takes_30 ⟨by unfold tcX tcV; rw [if_pos hk, hcl, if_neg t], rfl, rfl⟩
    · refine x_aload_n (pc := 20) dX4_takes_20 rfl ?_
      refine x_iload_n (pc := 21) dX4_takes_21 rfl ?_
      refine t_Vi (pc := 22) (c_X4_ticksOf hM hV (by first | assumption | omega)) qV_X4_ticksOf mL_X4_196 dX4_takes_22 rfl cell_model (by decide) rfl rfl rfl ⟨by decide, by decide⟩ (Nat.le_of_ble_eq_true rfl) (Nat.le_of_ble_eq_true rfl) (Nat.le_of_ble_eq_true rfl) ?_
      refine x_goto (pc := 25) 30 dX4_takes_25 (by decide) ?_
      have t := of_decide_eq_true (b01_ne c17)
      exact x_iret rfl dX4_takes_30 ⟨by unfold tcX tcV; rw [if_pos hk, hcl, if_pos t]; rfl, rfl, rfl⟩
  · have hk : knB w.1 v = false := b01_eq c5
    refine x_iconst (pc := 8) (-1) dX4_takes_8 (by decide) ?_
    refine x_goto (pc := 9) 30 dX4_takes_9 (by decide) ?_
    exact x_iret rfl dX4_takes_30 ⟨by unfold tcX; rw [hk]; rfl, rfl, rfl⟩
set_option maxHeartbeats 4000000 in
set_option maxRecDepth 100000 in
theorem c_X4_coolsIn (hG : GM (N, s, sd, ah, sn, be, tx, od) w) (hV : VW w) (v : Int32) : Ct G yX4_coolsIn YX4_coolsIn 0 0 [.ref (gB G + 247), .int v] 255 (cellOf G S B (N, s, sd, ah, sn, be, tx, od)) (Rt G (some (.int (kcX w.1 v))) S B (N, s, sd, ah, sn, be, tx, od)) := by
  refine ct_of (by decide +kernel) rfl rfl (Nat.le_of_ble_eq_true rfl) (by simp [Value.category]) ?_
  refine x_sub (l' := [(0, .ref (gB G + 247)), (1, .int v)]) ⟨rfl, rfl, trivial⟩ ?_
  have hM : RM s w.1 := hG.1
  have hVA := hV.1
  have hVW := hV
  have hV := hV.1
  have hF := hV.vS
  have h12 := hM.le
  refine x_aload_n (pc := 0) dX4_coolsIn_0 rfl ?_
  refine x_iload_n (pc := 1) dX4_coolsIn_1 rfl ?_
  refine t_Vi (pc := 2) (c_X4_isShape hM _) qV_X4_isShape mL_X4_97 dX4_coolsIn_2 rfl cell_model (by decide) rfl rfl rfl ⟨by decide, by decide⟩ (Nat.le_of_ble_eq_true rfl) (Nat.le_of_ble_eq_true rfl) (Nat.le_of_ble_eq_true rfl) ?_
  refine x_ifne (pc := 5) 10 dX4_coolsIn_5 (by decide) (fun c5 => ?_) (fun c5 => ?_)
  · have hk : knB w.1 v = true := b01_ne c5
    obtain ⟨i, hi, rfl, hcl⟩ := knB_some hM.le hk
    refine x_aload_n (pc := 10) dX4_coolsIn_10 rfl ?_
    refine x_iload_n (pc := 11) dX4_coolsIn_11 rfl ?_
    refine t_Vi (pc := 12) (c_X4_why hM hV (by first | assumption | omega)) qV_X4_why mL_X4_100 dX4_coolsIn_12 rfl cell_model (by decide) rfl rfl rfl ⟨by decide, by decide⟩ (Nat.le_of_ble_eq_true rfl) (Nat.le_of_ble_eq_true rfl) (Nat.le_of_ble_eq_true rfl) ?_
    refine x_iconst (pc := 15) (1) dX4_coolsIn_15 (by decide) ?_
    refine x_iconst (pc := 16) (3) dX4_coolsIn_16 (by decide) ?_
    refine t_Si (pc := 17) (c_X4_in _ _ _) qS_X4_in mL_X4_38 dX4_coolsIn_17 rfl rfl rfl ⟨by decide, by decide⟩ (Nat.le_of_ble_eq_true rfl) (Nat.le_of_ble_eq_true rfl) (Nat.le_of_ble_eq_true rfl) ?_
    refine x_ifeq (pc := 20) 28 dX4_coolsIn_20 (by decide) (fun c20 => ?_) (fun c20 => ?_)
    · refine x_aload_n (pc := 28) dX4_coolsIn_28 rfl ?_
      refine x_iload_n (pc := 29) dX4_coolsIn_29 rfl ?_
      refine t_Vi (pc := 30) (c_X4_waitFor hM hV (by first | assumption | omega)) qV_X4_waitFor mL_X4_199 dX4_coolsIn_30 rfl cell_model (by decide) rfl rfl rfl ⟨by decide, by decide⟩ (Nat.le_of_ble_eq_true rfl) (Nat.le_of_ble_eq_true rfl) (Nat.le_of_ble_eq_true rfl) ?_
      have t := b01_eq c20
      exact x_iret rfl dX4_coolsIn_33 ⟨by unfold kcX; rw [if_pos hk, hcl, wfR_eq hV hi (why_13 t)], rfl, rfl⟩
    · refine x_bipush (pc := 23) (-4) dX4_coolsIn_23 (by decide) ?_
      refine x_goto (pc := 25) 33 dX4_coolsIn_25 (by decide) ?_
      have t := b01_ne c20
      exact x_iret rfl dX4_coolsIn_33 ⟨by unfold kcX; rw [if_pos hk, hcl, kc_13 t], rfl, rfl⟩
  · have hk : knB w.1 v = false := b01_eq c5
    refine x_iconst (pc := 8) (-1) dX4_coolsIn_8 (by decide) ?_
    exact x_iret rfl dX4_coolsIn_9 ⟨by unfold kcX; rw [hk]; rfl, rfl, rfl⟩
set_option maxHeartbeats 4000000 in
set_option maxRecDepth 100000 in
theorem c_X4_best (hG : GM (N, s, sd, ah, sn, be, tx, od) w) (hV : VW w) : Ct G yX4_best YX4_best 0 0 [.ref (gB G + 247)] 255 (cellOf G S B (N, s, sd, ah, sn, be, tx, od)) (Rt G (some (.int (oV (besO w.1 w.1.1)))) S B (N, s, sd, ah, sn, be, tx, od)) := by
  refine ct_of (by decide +kernel) rfl rfl (Nat.le_of_ble_eq_true rfl) (by simp [Value.category]) ?_
  refine x_sub (l' := [(0, .ref (gB G + 247))]) ⟨rfl, trivial⟩ ?_
  have hM : RM s w.1 := hG.1
  have hVA := hV.1
  have hVW := hV
  have hV := hV.1
  have hF := hV.vS
  have h12 := hM.le
  refine x_aload_n (pc := 0) dX4_best_0 rfl ?_
  refine t_Vi (pc := 1) (c_X4_bestOne hM hV) qV_X4_bestOne mL_X4_202 dX4_best_1 rfl cell_model (by decide) rfl rfl rfl ⟨by decide, by decide⟩ (Nat.le_of_ble_eq_true rfl) (Nat.le_of_ble_eq_true rfl) (Nat.le_of_ble_eq_true rfl) ?_
  exact x_iret rfl dX4_best_4 ⟨by rfl, rfl, rfl⟩
set_option maxHeartbeats 4000000 in
set_option maxRecDepth 100000 in
theorem c_X4_shape (hG : GM (N, s, sd, ah, sn, be, tx, od) w) (hV : VW w) (v u : Int32) : Ct G yX4_shape YX4_shape 0 0 [.ref (gB G + 247), .int v, .int u] 255 (cellOf G S B (N, s, sd, ah, sn, be, tx, od)) (Rt G (some (.int (factX w.1 v u))) S B (N, s, sd, ah, sn, be, tx, od)) := by
  refine ct_of (by decide +kernel) rfl rfl (Nat.le_of_ble_eq_true rfl) (by simp [Value.category]) ?_
  refine x_sub (l' := [(0, .ref (gB G + 247)), (1, .int v), (2, .int u)]) ⟨rfl, rfl, rfl, trivial⟩ ?_
  have hM : RM s w.1 := hG.1
  have hVA := hV.1
  have hVW := hV
  have hV := hV.1
  have hF := hV.vS
  have h12 := hM.le
  refine x_aload_n (pc := 0) dX4_shape_0 rfl ?_
  refine x_iload_n (pc := 1) dX4_shape_1 rfl ?_
  refine t_Vi (pc := 2) (c_X4_isShape hM _) qV_X4_isShape mL_X4_97 dX4_shape_2 rfl cell_model (by decide) rfl rfl rfl ⟨by decide, by decide⟩ (Nat.le_of_ble_eq_true rfl) (Nat.le_of_ble_eq_true rfl) (Nat.le_of_ble_eq_true rfl) ?_
  refine x_ifne (pc := 5) 10 dX4_shape_5 (by decide) (fun c5 => ?_) (fun c5 => ?_)
  · have hk : knB w.1 v = true := b01_ne c5
    obtain ⟨i, hi, rfl, hcl⟩ := knB_some hM.le hk
    refine x_iload_n (pc := 10) dX4_shape_10 rfl ?_
    by_cases h6 : betw u 6 10 = true
    · obtain ⟨q, hq, rfl⟩ : ∃ q, (q = 6 ∨ q = 7 ∨ q = 8 ∨ q = 9 ∨ q = 10) ∧ u = nI q := sw_6 h6
      rcases hq with rfl | rfl | rfl | rfl | rfl
      · refine x_tableIn (pc := 11) 44 dX4_shape_11 (by decide) (by decide) rfl (by decide) ?_
        refine x_aload_n (pc := 44) dX4_shape_44 rfl ?_
        refine x_iload_n (pc := 45) dX4_shape_45 rfl ?_
        refine t_Vi (pc := 46) (c_X4_outer hM hF (by first | assumption | omega)) qV_X4_outer mL_X4_190 dX4_shape_46 rfl cell_model (by decide) rfl rfl rfl ⟨by decide, by decide⟩ (Nat.le_of_ble_eq_true rfl) (Nat.le_of_ble_eq_true rfl) (Nat.le_of_ble_eq_true rfl) ?_
        exact x_iret rfl dX4_shape_49 ⟨by simp only [factX, hk, if_true, hcl]; rfl, rfl, rfl⟩
      · refine x_tableIn (pc := 11) 50 dX4_shape_11 (by decide) (by decide) rfl (by decide) ?_
        refine x_aload_n (pc := 50) dX4_shape_50 rfl ?_
        refine x_iload_n (pc := 51) dX4_shape_51 rfl ?_
        refine t_Vi (pc := 52) (c_X4_inner hM hF (by first | assumption | omega)) qV_X4_inner mL_X4_193 dX4_shape_52 rfl cell_model (by decide) rfl rfl rfl ⟨by decide, by decide⟩ (Nat.le_of_ble_eq_true rfl) (Nat.le_of_ble_eq_true rfl) (Nat.le_of_ble_eq_true rfl) ?_
        exact x_iret rfl dX4_shape_55 ⟨by simp only [factX, hk, if_true, hcl]; rfl, rfl, rfl⟩
      · refine x_tableIn (pc := 11) 56 dX4_shape_11 (by decide) (by decide) rfl (by decide) ?_
        refine x_aload_n (pc := 56) dX4_shape_56 rfl ?_
        refine x_iload_n (pc := 57) dX4_shape_57 rfl ?_
        refine t_Vi (pc := 58) (c_X4_edge hM (by first | assumption | omega)) qV_X4_edge mL_X4_79 dX4_shape_58 rfl cell_model (by decide) rfl rfl rfl ⟨by decide, by decide⟩ (Nat.le_of_ble_eq_true rfl) (Nat.le_of_ble_eq_true rfl) (Nat.le_of_ble_eq_true rfl) ?_
        exact x_iret rfl dX4_shape_61 ⟨by simp only [factX, hk, if_true, hcl]; rfl, rfl, rfl⟩
      · refine x_tableIn (pc := 11) 62 dX4_shape_11 (by decide) (by decide) rfl (by decide) ?_
        refine x_aload_n (pc := 62) dX4_shape_62 rfl ?_
        refine x_iload_n (pc := 63) dX4_shape_63 rfl ?_
        refine x_bipush (pc := 64) (6) dX4_shape_64 (by decide) ?_
        refine t_Vi (pc := 66) (c_X4_of hM (by first | assumption | omega) 6 (by decide)) qV_X4_of mL_X4_46 dX4_shape_66 rfl cell_model (by decide) rfl rfl rfl ⟨by decide, by decide⟩ (Nat.le_of_ble_eq_true rfl) (Nat.le_of_ble_eq_true rfl) (Nat.le_of_ble_eq_true rfl) ?_
        exact x_iret rfl dX4_shape_69 ⟨by simp only [factX, hk, if_true, hcl]; rfl, rfl, rfl⟩
      · refine x_tableIn (pc := 11) 70 dX4_shape_11 (by decide) (by decide) rfl (by decide) ?_
        refine x_aload_n (pc := 70) dX4_shape_70 rfl ?_
        refine x_iload_n (pc := 71) dX4_shape_71 rfl ?_
        refine x_bipush (pc := 72) (7) dX4_shape_72 (by decide) ?_
        refine t_Vi (pc := 74) (c_X4_of hM (by first | assumption | omega) 7 (by decide)) qV_X4_of mL_X4_46 dX4_shape_74 rfl cell_model (by decide) rfl rfl rfl ⟨by decide, by decide⟩ (Nat.le_of_ble_eq_true rfl) (Nat.le_of_ble_eq_true rfl) (Nat.le_of_ble_eq_true rfl) ?_
        exact x_iret rfl dX4_shape_77 ⟨by simp only [factX, hk, if_true, hcl]; rfl, rfl, rfl⟩
    · have ho := sw_6n h6
      refine x_tableOut (pc := 11) 78 dX4_shape_11 ho (by decide) ?_
      refine x_iload_n (pc := 78) dX4_shape_78 rfl ?_
      refine x_iconst (pc := 79) (0) dX4_shape_79 (by decide) ?_
      refine x_iconst (pc := 80) (5) dX4_shape_80 (by decide) ?_
      refine t_Si (pc := 81) (c_X4_in _ _ _) qS_X4_in mL_X4_38 dX4_shape_81 rfl rfl rfl ⟨by decide, by decide⟩ (Nat.le_of_ble_eq_true rfl) (Nat.le_of_ble_eq_true rfl) (Nat.le_of_ble_eq_true rfl) ?_
      refine x_ifeq (pc := 84) 96 dX4_shape_84 (by decide) (fun c84 => ?_) (fun c84 => ?_)
      · refine x_bipush (pc := 96) (-2) dX4_shape_96 (by decide) ?_
        have t := b01_eq c84
        exact x_iret rfl dX4_shape_98 ⟨by rw [fact_d hk h6 t], rfl, rfl⟩
      · have t84 := b01_ne c84
        obtain ⟨z, hz, rfl, hc2⟩ := betw_some (n := 5) rfl (by decide) t84
        refine x_aload_n (pc := 87) dX4_shape_87 rfl ?_
        refine x_iload_n (pc := 88) dX4_shape_88 rfl ?_
        refine x_iload_n (pc := 89) dX4_shape_89 rfl ?_
        refine t_Vi (pc := 90) (c_X4_of hM hi z (by omega)) qV_X4_of mL_X4_46 dX4_shape_90 rfl cell_model (by decide) rfl rfl rfl ⟨by decide, by decide⟩ (Nat.le_of_ble_eq_true rfl) (Nat.le_of_ble_eq_true rfl) (Nat.le_of_ble_eq_true rfl) ?_
        refine x_goto (pc := 93) 98 dX4_shape_93 (by decide) ?_
        exact x_iret rfl dX4_shape_98 ⟨by unfold factX; rw [if_pos hk, if_pos t84, hcl, hc2], rfl, rfl⟩
  · have hk : knB w.1 v = false := b01_eq c5
    refine x_iconst (pc := 8) (-1) dX4_shape_8 (by decide) ?_
    exact x_iret rfl dX4_shape_9 ⟨by unfold factX; rw [hk]; rfl, rfl, rfl⟩
set_option maxHeartbeats 4000000 in
set_option maxRecDepth 100000 in
theorem c_X4_count (hG : GM (N, s, sd, ah, sn, be, tx, od) w) (hV : VW w) (v : Int32) : Ct G yX4_count YX4_count 0 0 [.ref (gB G + 247), .int v] 255 (cellOf G S B (N, s, sd, ah, sn, be, tx, od)) (Rt G (some (.int (couX w v))) S B (N, s, sd, ah, sn, be, tx, od)) := by
  refine ct_of (by decide +kernel) rfl rfl (Nat.le_of_ble_eq_true rfl) (by simp [Value.category]) ?_
  refine x_sub (l' := [(0, .ref (gB G + 247)), (1, .int v)]) ⟨rfl, rfl, trivial⟩ ?_
  have hM : RM s w.1 := hG.1
  have hVA := hV.1
  have hVW := hV
  have hV := hV.1
  have hF := hV.vS
  have h12 := hM.le
  refine x_iload_n (pc := 0) dX4_count_0 rfl ?_
  by_cases hw : betw v 0 (nI 18) = true
  · obtain ⟨q, hq, rfl, hcq⟩ := betw_some (n := 18) rfl (by decide) hw
    rcases (show q = 0 ∨ q = 1 ∨ q = 2 ∨ q = 3 ∨ q = 4 ∨ q = 5 ∨ q = 6 ∨ q = 7 ∨ q = 8 ∨ q = 9 ∨ q = 10 ∨ q = 11 ∨ q = 12 ∨ q = 13 ∨ q = 14 ∨ q = 15 ∨ q = 16 ∨ q = 17 ∨ q = 18 by omega) with rfl | rfl | rfl | rfl | rfl | rfl | rfl | rfl | rfl | rfl | rfl | rfl | rfl | rfl | rfl | rfl | rfl | rfl | rfl
    · refine x_tableIn (pc := 1) 92 dX4_count_1 (by decide) (by decide) rfl (by decide) ?_
      refine x_aload_n (pc := 92) dX4_count_92 rfl ?_
      refine x_get (pc := 93) (ci := 4) (k := 0) (C := RX4) (T := TX4) (N := 21) cell_model rfl (by decide) rfl nX4 (by decide) mF_X4_7 rfl dX4_count_93 ?_
      refine x_iconst (pc := 96) (0) dX4_count_96 (by decide) ?_
      refine t_ild (pc := 97) 0 cell_s (by decide) rfl (by decide) (by decide) dX4_count_97 ?_
      try dsimp only
      rw [hM.told]
      exact x_iret rfl dX4_count_98 ⟨rfl, rfl, rfl⟩
    · refine x_tableIn (pc := 1) 99 dX4_count_1 (by decide) (by decide) rfl (by decide) ?_
      refine x_aload_n (pc := 99) dX4_count_99 rfl ?_
      refine x_iload_n (pc := 100) dX4_count_100 rfl ?_
      refine x_iconst (pc := 101) (1) dX4_count_101 (by decide) ?_
      refine x_isub (pc := 102) dX4_count_102 ?_
      refine t_Vi (pc := 103) (c_X4_many hM _) qV_X4_many mL_X4_217 dX4_count_103 rfl cell_model (by decide) rfl rfl rfl ⟨by decide, by decide⟩ (Nat.le_of_ble_eq_true rfl) (Nat.le_of_ble_eq_true rfl) (Nat.le_of_ble_eq_true rfl) ?_
      exact x_iret rfl dX4_count_106 ⟨rfl, rfl, rfl⟩
    · refine x_tableIn (pc := 1) 99 dX4_count_1 (by decide) (by decide) rfl (by decide) ?_
      refine x_aload_n (pc := 99) dX4_count_99 rfl ?_
      refine x_iload_n (pc := 100) dX4_count_100 rfl ?_
      refine x_iconst (pc := 101) (1) dX4_count_101 (by decide) ?_
      refine x_isub (pc := 102) dX4_count_102 ?_
      refine t_Vi (pc := 103) (c_X4_many hM _) qV_X4_many mL_X4_217 dX4_count_103 rfl cell_model (by decide) rfl rfl rfl ⟨by decide, by decide⟩ (Nat.le_of_ble_eq_true rfl) (Nat.le_of_ble_eq_true rfl) (Nat.le_of_ble_eq_true rfl) ?_
      exact x_iret rfl dX4_count_106 ⟨rfl, rfl, rfl⟩
    · refine x_tableIn (pc := 1) 99 dX4_count_1 (by decide) (by decide) rfl (by decide) ?_
      refine x_aload_n (pc := 99) dX4_count_99 rfl ?_
      refine x_iload_n (pc := 100) dX4_count_100 rfl ?_
      refine x_iconst (pc := 101) (1) dX4_count_101 (by decide) ?_
      refine x_isub (pc := 102) dX4_count_102 ?_
      refine t_Vi (pc := 103) (c_X4_many hM _) qV_X4_many mL_X4_217 dX4_count_103 rfl cell_model (by decide) rfl rfl rfl ⟨by decide, by decide⟩ (Nat.le_of_ble_eq_true rfl) (Nat.le_of_ble_eq_true rfl) (Nat.le_of_ble_eq_true rfl) ?_
      exact x_iret rfl dX4_count_106 ⟨rfl, rfl, rfl⟩
    · refine x_tableIn (pc := 1) 107 dX4_count_1 (by decide) (by decide) rfl (by decide) ?_
      refine x_aload_n (pc := 107) dX4_count_107 rfl ?_
      refine t_Vi (pc := 108) (c_X4_tilted hM) qV_X4_tilted mL_X4_229 dX4_count_108 rfl cell_model (by decide) rfl rfl rfl ⟨by decide, by decide⟩ (Nat.le_of_ble_eq_true rfl) (Nat.le_of_ble_eq_true rfl) (Nat.le_of_ble_eq_true rfl) ?_
      exact x_iret rfl dX4_count_111 ⟨rfl, rfl, rfl⟩
    · refine x_tableIn (pc := 1) 112 dX4_count_1 (by decide) (by decide) rfl (by decide) ?_
      refine x_aload_n (pc := 112) dX4_count_112 rfl ?_
      refine x_get (pc := 113) (ci := 4) (k := 0) (C := RX4) (T := TX4) (N := 21) cell_model rfl (by decide) rfl nX4 (by decide) mF_X4_7 rfl dX4_count_113 ?_
      refine x_iconst (pc := 116) (3) dX4_count_116 (by decide) ?_
      refine t_ild (pc := 117) 3 cell_s (by decide) rfl (by decide) (by decide) dX4_count_117 ?_
      try dsimp only
      rw [hM.int 3]
      exact x_iret rfl dX4_count_118 ⟨rfl, rfl, rfl⟩
    · refine x_tableIn (pc := 1) 119 dX4_count_1 (by decide) (by decide) rfl (by decide) ?_
      refine x_aload_n (pc := 119) dX4_count_119 rfl ?_
      refine x_get (pc := 120) (ci := 4) (k := 0) (C := RX4) (T := TX4) (N := 21) cell_model rfl (by decide) rfl nX4 (by decide) mF_X4_7 rfl dX4_count_120 ?_
      refine x_iconst (pc := 123) (1) dX4_count_123 (by decide) ?_
      refine t_ild (pc := 124) 1 cell_s (by decide) rfl (by decide) (by decide) dX4_count_124 ?_
      try dsimp only
      rw [hM.int 1]
      exact x_iret rfl dX4_count_125 ⟨rfl, rfl, rfl⟩
    · refine x_tableIn (pc := 1) 126 dX4_count_1 (by decide) (by decide) rfl (by decide) ?_
      refine x_aload_n (pc := 126) dX4_count_126 rfl ?_
      refine x_get (pc := 127) (ci := 4) (k := 0) (C := RX4) (T := TX4) (N := 21) cell_model rfl (by decide) rfl nX4 (by decide) mF_X4_7 rfl dX4_count_127 ?_
      refine x_iconst (pc := 130) (2) dX4_count_130 (by decide) ?_
      refine t_ild (pc := 131) 2 cell_s (by decide) rfl (by decide) (by decide) dX4_count_131 ?_
      try dsimp only
      rw [hM.int 2]
      exact x_iret rfl dX4_count_132 ⟨rfl, rfl, rfl⟩
    · refine x_tableIn (pc := 1) 133 dX4_count_1 (by decide) (by decide) rfl (by decide) ?_
      refine x_aload_n (pc := 133) dX4_count_133 rfl ?_
      refine x_get (pc := 134) (ci := 4) (k := 0) (C := RX4) (T := TX4) (N := 21) cell_model rfl (by decide) rfl nX4 (by decide) mF_X4_7 rfl dX4_count_134 ?_
      refine x_iconst (pc := 137) (4) dX4_count_137 (by decide) ?_
      refine t_ild (pc := 138) 4 cell_s (by decide) rfl (by decide) (by decide) dX4_count_138 ?_
      try dsimp only
      rw [hM.int 4]
      exact x_iret rfl dX4_count_139 ⟨rfl, rfl, rfl⟩
    · refine x_tableIn (pc := 1) 140 dX4_count_1 (by decide) (by decide) rfl (by decide) ?_
      refine x_aload_n (pc := 140) dX4_count_140 rfl ?_
      refine x_get (pc := 141) (ci := 4) (k := 0) (C := RX4) (T := TX4) (N := 21) cell_model rfl (by decide) rfl nX4 (by decide) mF_X4_7 rfl dX4_count_141 ?_
      refine x_iconst (pc := 144) (5) dX4_count_144 (by decide) ?_
      refine t_ild (pc := 145) 5 cell_s (by decide) rfl (by decide) (by decide) dX4_count_145 ?_
      try dsimp only
      rw [hM.int 5]
      exact x_iret rfl dX4_count_146 ⟨rfl, rfl, rfl⟩
    · refine x_tableIn (pc := 1) 147 dX4_count_1 (by decide) (by decide) rfl (by decide) ?_
      refine x_aload_n (pc := 147) dX4_count_147 rfl ?_
      refine t_Vi (pc := 148) (c_X4_hottest hM (fun k hk => (hV.ht hk).1)) qV_X4_hottest mL_X4_110 dX4_count_148 rfl cell_model (by decide) rfl rfl rfl ⟨by decide, by decide⟩ (Nat.le_of_ble_eq_true rfl) (Nat.le_of_ble_eq_true rfl) (Nat.le_of_ble_eq_true rfl) ?_
      exact x_iret rfl dX4_count_151 ⟨rfl, rfl, rfl⟩
    · refine x_tableIn (pc := 1) 152 dX4_count_1 (by decide) (by decide) rfl (by decide) ?_
      refine x_aload_n (pc := 152) dX4_count_152 rfl ?_
      refine t_Vi (pc := 153) (c_X4_hottestSquare hM hV) qV_X4_hottestSquare mL_X4_232 dX4_count_153 rfl cell_model (by decide) rfl rfl rfl ⟨by decide, by decide⟩ (Nat.le_of_ble_eq_true rfl) (Nat.le_of_ble_eq_true rfl) (Nat.le_of_ble_eq_true rfl) ?_
      exact x_iret rfl dX4_count_156 ⟨rfl, rfl, rfl⟩
    · refine x_tableIn (pc := 1) 157 dX4_count_1 (by decide) (by decide) rfl (by decide) ?_
      refine x_aload_n (pc := 157) dX4_count_157 rfl ?_
      refine t_Vi (pc := 158) (c_X4_allHeat hM) qV_X4_allHeat mL_X4_235 dX4_count_158 rfl cell_model (by decide) rfl rfl rfl ⟨by decide, by decide⟩ (Nat.le_of_ble_eq_true rfl) (Nat.le_of_ble_eq_true rfl) (Nat.le_of_ble_eq_true rfl) ?_
      exact x_iret rfl dX4_count_161 ⟨rfl, rfl, rfl⟩
    · refine x_tableIn (pc := 1) 162 dX4_count_1 (by decide) (by decide) rfl (by decide) ?_
      refine x_aload_n (pc := 162) dX4_count_162 rfl ?_
      refine x_get (pc := 163) (ci := 4) (k := 0) (C := RX4) (T := TX4) (N := 21) cell_model rfl (by decide) rfl nX4 (by decide) mF_X4_7 rfl dX4_count_163 ?_
      refine x_bipush (pc := 166) (7) dX4_count_166 (by decide) ?_
      refine x_iload_n (pc := 168) dX4_count_168 rfl ?_
      refine x_iadd (pc := 169) dX4_count_169 ?_
      refine x_bipush (pc := 170) (13) dX4_count_170 (by decide) ?_
      refine x_isub (pc := 172) dX4_count_172 ?_
      refine t_ild (pc := 173) 7 cell_s (by decide) rfl (by decide) (by decide) dX4_count_173 ?_
      try dsimp only
      try dsimp only
      rw [hM.sett 0]
      exact x_iret rfl dX4_count_174 ⟨rfl, rfl, rfl⟩
    · refine x_tableIn (pc := 1) 162 dX4_count_1 (by decide) (by decide) rfl (by decide) ?_
      refine x_aload_n (pc := 162) dX4_count_162 rfl ?_
      refine x_get (pc := 163) (ci := 4) (k := 0) (C := RX4) (T := TX4) (N := 21) cell_model rfl (by decide) rfl nX4 (by decide) mF_X4_7 rfl dX4_count_163 ?_
      refine x_bipush (pc := 166) (7) dX4_count_166 (by decide) ?_
      refine x_iload_n (pc := 168) dX4_count_168 rfl ?_
      refine x_iadd (pc := 169) dX4_count_169 ?_
      refine x_bipush (pc := 170) (13) dX4_count_170 (by decide) ?_
      refine x_isub (pc := 172) dX4_count_172 ?_
      refine t_ild (pc := 173) 8 cell_s (by decide) rfl (by decide) (by decide) dX4_count_173 ?_
      try dsimp only
      try dsimp only
      rw [hM.sett 1]
      exact x_iret rfl dX4_count_174 ⟨rfl, rfl, rfl⟩
    · refine x_tableIn (pc := 1) 162 dX4_count_1 (by decide) (by decide) rfl (by decide) ?_
      refine x_aload_n (pc := 162) dX4_count_162 rfl ?_
      refine x_get (pc := 163) (ci := 4) (k := 0) (C := RX4) (T := TX4) (N := 21) cell_model rfl (by decide) rfl nX4 (by decide) mF_X4_7 rfl dX4_count_163 ?_
      refine x_bipush (pc := 166) (7) dX4_count_166 (by decide) ?_
      refine x_iload_n (pc := 168) dX4_count_168 rfl ?_
      refine x_iadd (pc := 169) dX4_count_169 ?_
      refine x_bipush (pc := 170) (13) dX4_count_170 (by decide) ?_
      refine x_isub (pc := 172) dX4_count_172 ?_
      refine t_ild (pc := 173) 9 cell_s (by decide) rfl (by decide) (by decide) dX4_count_173 ?_
      try dsimp only
      try dsimp only
      rw [hM.sett 2]
      exact x_iret rfl dX4_count_174 ⟨rfl, rfl, rfl⟩
    · refine x_tableIn (pc := 1) 162 dX4_count_1 (by decide) (by decide) rfl (by decide) ?_
      refine x_aload_n (pc := 162) dX4_count_162 rfl ?_
      refine x_get (pc := 163) (ci := 4) (k := 0) (C := RX4) (T := TX4) (N := 21) cell_model rfl (by decide) rfl nX4 (by decide) mF_X4_7 rfl dX4_count_163 ?_
      refine x_bipush (pc := 166) (7) dX4_count_166 (by decide) ?_
      refine x_iload_n (pc := 168) dX4_count_168 rfl ?_
      refine x_iadd (pc := 169) dX4_count_169 ?_
      refine x_bipush (pc := 170) (13) dX4_count_170 (by decide) ?_
      refine x_isub (pc := 172) dX4_count_172 ?_
      refine t_ild (pc := 173) 10 cell_s (by decide) rfl (by decide) (by decide) dX4_count_173 ?_
      try dsimp only
      try dsimp only
      rw [hM.sett 3]
      exact x_iret rfl dX4_count_174 ⟨rfl, rfl, rfl⟩
    · refine x_tableIn (pc := 1) 175 dX4_count_1 (by decide) (by decide) rfl (by decide) ?_
      refine x_aload_n (pc := 175) dX4_count_175 rfl ?_
      refine x_get (pc := 176) (ci := 4) (k := 6) (C := RX4) (T := TX4) (N := 21) cell_model rfl (by decide) rfl nX4 (by decide) mF_X4_49 rfl dX4_count_176 ?_
      try dsimp only
      try dsimp only
      rw [show N 6 = nI w.2.1.length from hG.2.1.1]
      exact x_iret rfl dX4_count_179 ⟨rfl, rfl, rfl⟩
    · refine x_tableIn (pc := 1) 180 dX4_count_1 (by decide) (by decide) rfl (by decide) ?_
      refine x_aload_n (pc := 180) dX4_count_180 rfl ?_
      refine x_get (pc := 181) (ci := 4) (k := 8) (C := RX4) (T := TX4) (N := 21) cell_model rfl (by decide) rfl nX4 (by decide) mF_X4_146 rfl dX4_count_181 ?_
      try dsimp only
      try dsimp only
      rw [show N 8 = nI w.2.2.2.1.1 from hG.2.2.2.1.1]
      exact x_iret rfl dX4_count_184 ⟨rfl, rfl, rfl⟩
  · have ho := betw_out rfl (by decide) hw
    refine x_tableOut (pc := 1) 185 dX4_count_1 ho (by decide) ?_
    refine x_bipush (pc := 185) (-2) dX4_count_185 (by decide) ?_
    exact x_iret rfl dX4_count_187 ⟨by (have n0 : ¬ v = 0 := ne_out (m := 0) (n := 18) (by decide) (by decide) ho; have n1 : ¬ v = 1 := ne_out (m := 1) (n := 18) (by decide) (by decide) ho; have n2 : ¬ v = 2 := ne_out (m := 2) (n := 18) (by decide) (by decide) ho; have n3 : ¬ v = 3 := ne_out (m := 3) (n := 18) (by decide) (by decide) ho; have n4 : ¬ v = 4 := ne_out (m := 4) (n := 18) (by decide) (by decide) ho; have n5 : ¬ v = 5 := ne_out (m := 5) (n := 18) (by decide) (by decide) ho; have n6 : ¬ v = 6 := ne_out (m := 6) (n := 18) (by decide) (by decide) ho; have n7 : ¬ v = 7 := ne_out (m := 7) (n := 18) (by decide) (by decide) ho; have n8 : ¬ v = 8 := ne_out (m := 8) (n := 18) (by decide) (by decide) ho; have n9 : ¬ v = 9 := ne_out (m := 9) (n := 18) (by decide) (by decide) ho; have n10 : ¬ v = 10 := ne_out (m := 10) (n := 18) (by decide) (by decide) ho; have n11 : ¬ v = 11 := ne_out (m := 11) (n := 18) (by decide) (by decide) ho; have n12 : ¬ v = 12 := ne_out (m := 12) (n := 18) (by decide) (by decide) ho; have n13 : ¬ v = 13 := ne_out (m := 13) (n := 18) (by decide) (by decide) ho; have n14 : ¬ v = 14 := ne_out (m := 14) (n := 18) (by decide) (by decide) ho; have n15 : ¬ v = 15 := ne_out (m := 15) (n := 18) (by decide) (by decide) ho; have n16 : ¬ v = 16 := ne_out (m := 16) (n := 18) (by decide) (by decide) ho; have n17 : ¬ v = 17 := ne_out (m := 17) (n := 18) (by decide) (by decide) ho; have n18 : ¬ v = 18 := ne_out (m := 18) (n := 18) (by decide) (by decide) ho; simp only [couX, sheetX, if_false, n0, n1, n2, n3, n4, n5, n6, n7, n8, n9, n10, n11, n12, n13, n14, n15, n16, n17, n18]), rfl, rfl⟩
end MPUB
