/-! the class: BeamCuts, all calls but perform (rows laid by wip/whole/p21.py) -/
/-- the whole value: the sheet, the history (oldest first), the snapshot, the text, the latest stop -/
abbrev Wt : Type := Ab × List Ab × Option Ab × (Nat × Fs) × Option (Nat × Int32)
def snR (S : Nat → Sh) (B : Bc) : Option Ab → Prop
  | none => B.1 1 = 0
  | some A => B.1 1 = 1 ∧ RC (S 3) A
def txR (B : Bc) (t : Nat × Fs) : Prop := B.2.2.1 0 = nI t.1 ∧ t.1 ≤ 60 ∧ ∀ p, p < t.1 → B.2.2.2.1 p = t.2 p
def stR (B : Bc) : Option (Nat × Int32) → Prop
  | none => B.1 3 = 0
  | some z => B.1 2 = nI z.1 ∧ B.1 3 = z.2 ∧ z.2 < 0
def GC (S : Nat → Sh) (B : Bc) (w : Wt) : Prop := RC (S 0) w.1 ∧ HR S B w.2.1 ∧ snR S B w.2.2.1 ∧ txR B w.2.2.2.1 ∧ stR B w.2.2.2.2
def recX (w : Wt) (r : Int32 × Ab) : Int32 × Wt := (r.1, (r.2, if r.1 < 0 then w.2.1 else pushH w.2.1 w.1, w.2.2))
def undX (w : Wt) : Int32 × Wt := match w.2.1.getLast? with
  | none => (-5, w)
  | some A => (nI (w.2.1.length - 1), (A, w.2.1.dropLast, w.2.2))
def keepX (w : Wt) : Int32 × Wt := (nI w.1.1, (w.1, w.2.1, some w.1, w.2.2.2))
def resX (w : Wt) : Int32 × Wt := match w.2.2.1 with
  | none => (-5, w)
  | some A => recX w (nI A.1, A)
def reaX (A : Ab) (v : Int32) : Int32 := if knB A v then whyV A v.toNatClampNeg else -1
def ordV (A : Ab) : Nat → Int32
  | 0 => oV (nextX A).1
  | k + 1 => match (nextX A).1 with
    | none => -5
    | some _ => ordV (nextX A).2 k
def ordX (A : Ab) (v : Int32) : Int32 := if v < 0 then -2 else if v < 12 then ordV A v.toNatClampNeg else -5
def finA (A : Ab) : Nat → Ab
  | 0 => A
  | k + 1 => match (nextX A).1 with
    | none => (nextX A).2
    | some _ => finA (nextX A).2 k
def allX (A : Ab) : Int32 := if cntN (finA A 12).2.2.2.2 0 (finA A 12).1 = 0 then (finA A 12).2.1 4 - A.2.1 4 else -5
def couX (w : Wt) (v : Int32) : Int32 := if v = 17 then nI w.2.1.length else if v = 18 then nI w.2.2.2.1.1 else sheetX w.1 v
theorem snR_k {S S' : Nat → Sh} {B B' : Bc} {o : Option Ab} (h : snR S B o) (h1 : S' 3 = S 3) (h2 : B'.1 1 = B.1 1) : snR S' B' o := by
  cases o with
  | none => exact h2.trans h
  | some A => exact ⟨h2.trans h.1, by rw [h1]; exact h.2⟩
theorem stR_k {B B' : Bc} {o : Option (Nat × Int32)} (h : stR B o) (h2 : B'.1 2 = B.1 2) (h3 : B'.1 3 = B.1 3) : stR B' o := by
  cases o with
  | none => exact h3.trans h
  | some A => exact ⟨h2.trans h.1, h3.trans h.2.1, h.2.2⟩
theorem GC_rec {S : Nat → Sh} {B : Bc} {w : Wt} {σ1 σ2 : Sh} {a : (Nat → Sh) × Bc} {r : Int32 × Ab} (hG : GC S B w) (R2 : RC σ2 r.2) (ha : a.1 0 = updS (updS S 1 σ1) 0 σ2 0 ∧ a.1 3 = updS (updS S 1 σ1) 0 σ2 3 ∧ (∀ k, k ≠ 0 → a.2.1 k = B.1 k) ∧ a.2.2.2 = B.2.2 ∧ HR a.1 a.2 (if r.1 < 0 then w.2.1 else pushH w.2.1 w.1)) : GC a.1 a.2 (recX w r).2 := by
  obtain ⟨g1, g2, g3, g4, g5⟩ := hG
  obtain ⟨a1, a2, a3, a4, a5⟩ := ha
  rw [updS_same] at a1
  rw [updS_ne _ _ (by decide), updS_ne _ _ (by decide)] at a2
  refine ⟨by rw [a1]; exact R2, a5, snR_k g3 a2 (a3 1 (by decide)), ?_, stR_k g5 (a3 2 (by decide)) (a3 3 (by decide))⟩
  unfold txR at *
  rw [a4]
  exact g4
section BEAM
variable {G : GX} {S : Nat → Sh} {B : Bc} {M : Md} {j i : Nat} {σ : Sh}
variable {w : Wt}
set_option maxHeartbeats 4000000 in
set_option maxRecDepth 100000 in
theorem c_X3_tell (hG : GC S B w) (c r x h : Int32) : Ct G yX3_tell YX3_tell 0 0 [.ref (gB G + 0), .int c, .int r, .int x, .int h] (nN G) (cellOf G S B M) (Re G (some (.int (recX w (tellX w.1 c r x h)).1)) (fun a : (Nat → Sh) × Bc => a.1) (fun a => a.2) (fun _ => M) (fun a => GC a.1 a.2 (recX w (tellX w.1 c r x h)).2)) := by
  refine ct_of (by decide +kernel) rfl rfl (Nat.le_of_ble_eq_true rfl) (by simp [Value.category]) ?_
  refine x_sub (l' := [(0, .ref (gB G + 0)), (1, .int c), (2, .int r), (3, .int x), (4, .int h)]) ⟨rfl, rfl, rfl, rfl, rfl, trivial⟩ ?_
  refine x_aload_n (pc := 0) dX3_tell_0 rfl ?_
  refine x_get (pc := 1) (ci := 3) (k := 1) (C := RX3) (T := TX3) (N := 10) cell_bc rfl (nN_lt (by decide)) rfl nX3 (by decide) mF_X3_16 rfl dX3_tell_1 ?_
  refine x_aload_n (pc := 4) dX3_tell_4 rfl ?_
  refine x_get (pc := 5) (ci := 3) (k := 0) (C := RX3) (T := TX3) (N := 10) cell_bc rfl (nN_lt (by decide)) rfl nX3 (by decide) mF_X3_10 rfl dX3_tell_5 ?_
  refine e_Vv (pc := 8) (g_copyFrom (j := 1) (j2 := 0) (by decide) (by decide) (by decide) hG.1) qV_X2_copyFrom mL_X3_50 dX3_tell_8 rfl (cell_sheet' (by first | assumption | omega)) (sB_255 (by first | assumption | omega)) rfl rfl rfl ⟨by decide, by decide⟩ (Nat.le_of_ble_eq_true rfl) (Nat.le_of_ble_eq_true rfl) (Nat.le_of_ble_eq_true rfl) ?_
  intro σ1 R1
  have hR0 : RC (updS S 1 σ1 0) w.1 := by rw [updS_ne _ _ (by decide)]; exact hG.1
  refine x_aload_n (pc := 11) dX3_tell_11 rfl ?_
  refine x_aload_n (pc := 12) dX3_tell_12 rfl ?_
  refine x_get (pc := 13) (ci := 3) (k := 0) (C := RX3) (T := TX3) (N := 10) cell_bc rfl (nN_lt (by decide)) rfl nX3 (by decide) mF_X3_10 rfl dX3_tell_13 ?_
  refine x_iload_n (pc := 16) dX3_tell_16 rfl ?_
  refine x_iload_n (pc := 17) dX3_tell_17 rfl ?_
  refine x_iload_n (pc := 18) dX3_tell_18 rfl ?_
  refine x_iload (pc := 19) dX3_tell_19 rfl ?_
  refine e_Vi (pc := 21) (g_addShape (j := 0) (by decide) hR0 c r x h) qV_X2_addShape mL_X3_54 dX3_tell_21 rfl (cell_sheet' (by first | assumption | omega)) (sB_255 (by first | assumption | omega)) rfl rfl rfl ⟨by decide, by decide⟩ (Nat.le_of_ble_eq_true rfl) (Nat.le_of_ble_eq_true rfl) (Nat.le_of_ble_eq_true rfl) ?_
  intro σ2 R2
  have hH2 : HR (updS (updS S 1 σ1) 0 σ2) B w.2.1 := HR_S hG.2.1 (fun q hq => by rw [updS_ne _ _ (by omega), updS_ne _ _ (by omega)])
  have hR1 : RC (updS (updS S 1 σ1) 0 σ2 1) w.1 := by rw [updS_ne _ _ (by decide), updS_same]; exact R1
  refine e_Vi (pc := 24) (c_X3_recorded hH2 hR1 _) qV_X3_recorded mL_X3_58 dX3_tell_24 rfl cell_bc (nN_lt (by decide)) rfl rfl rfl ⟨by decide, by decide⟩ (Nat.le_of_ble_eq_true rfl) (Nat.le_of_ble_eq_true rfl) (Nat.le_of_ble_eq_true rfl) ?_
  intro a ha
  exact x_iret rfl dX3_tell_27 ⟨a, rfl, rfl, rfl, GC_rec (σ1 := σ1) hG R2 ha⟩
set_option maxHeartbeats 4000000 in
set_option maxRecDepth 100000 in
theorem c_X3_setLead (hG : GC S B w) (v c : Int32) : Ct G yX3_setLead YX3_setLead 0 0 [.ref (gB G + 0), .int v, .int c] (nN G) (cellOf G S B M) (Re G (some (.int (recX w (leadX w.1 v c)).1)) (fun a : (Nat → Sh) × Bc => a.1) (fun a => a.2) (fun _ => M) (fun a => GC a.1 a.2 (recX w (leadX w.1 v c)).2)) := by
  refine ct_of (by decide +kernel) rfl rfl (Nat.le_of_ble_eq_true rfl) (by simp [Value.category]) ?_
  refine x_sub (l' := [(0, .ref (gB G + 0)), (1, .int v), (2, .int c)]) ⟨rfl, rfl, rfl, trivial⟩ ?_
  refine x_aload_n (pc := 0) dX3_setLead_0 rfl ?_
  refine x_get (pc := 1) (ci := 3) (k := 1) (C := RX3) (T := TX3) (N := 10) cell_bc rfl (nN_lt (by decide)) rfl nX3 (by decide) mF_X3_16 rfl dX3_setLead_1 ?_
  refine x_aload_n (pc := 4) dX3_setLead_4 rfl ?_
  refine x_get (pc := 5) (ci := 3) (k := 0) (C := RX3) (T := TX3) (N := 10) cell_bc rfl (nN_lt (by decide)) rfl nX3 (by decide) mF_X3_10 rfl dX3_setLead_5 ?_
  refine e_Vv (pc := 8) (g_copyFrom (j := 1) (j2 := 0) (by decide) (by decide) (by decide) hG.1) qV_X2_copyFrom mL_X3_50 dX3_setLead_8 rfl (cell_sheet' (by first | assumption | omega)) (sB_255 (by first | assumption | omega)) rfl rfl rfl ⟨by decide, by decide⟩ (Nat.le_of_ble_eq_true rfl) (Nat.le_of_ble_eq_true rfl) (Nat.le_of_ble_eq_true rfl) ?_
  intro σ1 R1
  have hR0 : RC (updS S 1 σ1 0) w.1 := by rw [updS_ne _ _ (by decide)]; exact hG.1
  refine x_aload_n (pc := 11) dX3_setLead_11 rfl ?_
  refine x_aload_n (pc := 12) dX3_setLead_12 rfl ?_
  refine x_get (pc := 13) (ci := 3) (k := 0) (C := RX3) (T := TX3) (N := 10) cell_bc rfl (nN_lt (by decide)) rfl nX3 (by decide) mF_X3_10 rfl dX3_setLead_13 ?_
  refine x_iload_n (pc := 16) dX3_setLead_16 rfl ?_
  refine x_iload_n (pc := 17) dX3_setLead_17 rfl ?_
  refine e_Vi (pc := 18) (g_changeLead (j := 0) (by decide) hR0 v c) qV_X2_changeLead mL_X3_62 dX3_setLead_18 rfl (cell_sheet' (by first | assumption | omega)) (sB_255 (by first | assumption | omega)) rfl rfl rfl ⟨by decide, by decide⟩ (Nat.le_of_ble_eq_true rfl) (Nat.le_of_ble_eq_true rfl) (Nat.le_of_ble_eq_true rfl) ?_
  intro σ2 R2
  have hH2 : HR (updS (updS S 1 σ1) 0 σ2) B w.2.1 := HR_S hG.2.1 (fun q hq => by rw [updS_ne _ _ (by omega), updS_ne _ _ (by omega)])
  have hR1 : RC (updS (updS S 1 σ1) 0 σ2 1) w.1 := by rw [updS_ne _ _ (by decide), updS_same]; exact R1
  refine e_Vi (pc := 21) (c_X3_recorded hH2 hR1 _) qV_X3_recorded mL_X3_58 dX3_setLead_21 rfl cell_bc (nN_lt (by decide)) rfl rfl rfl ⟨by decide, by decide⟩ (Nat.le_of_ble_eq_true rfl) (Nat.le_of_ble_eq_true rfl) (Nat.le_of_ble_eq_true rfl) ?_
  intro a ha
  exact x_iret rfl dX3_setLead_24 ⟨a, rfl, rfl, rfl, GC_rec (σ1 := σ1) hG R2 ha⟩
set_option maxHeartbeats 4000000 in
set_option maxRecDepth 100000 in
theorem c_X3_set (hG : GC S B w) (v c : Int32) : Ct G yX3_set YX3_set 0 0 [.ref (gB G + 0), .int v, .int c] (nN G) (cellOf G S B M) (Re G (some (.int (recX w (setX w.1 v c)).1)) (fun a : (Nat → Sh) × Bc => a.1) (fun a => a.2) (fun _ => M) (fun a => GC a.1 a.2 (recX w (setX w.1 v c)).2)) := by
  refine ct_of (by decide +kernel) rfl rfl (Nat.le_of_ble_eq_true rfl) (by simp [Value.category]) ?_
  refine x_sub (l' := [(0, .ref (gB G + 0)), (1, .int v), (2, .int c)]) ⟨rfl, rfl, rfl, trivial⟩ ?_
  refine x_aload_n (pc := 0) dX3_set_0 rfl ?_
  refine x_get (pc := 1) (ci := 3) (k := 1) (C := RX3) (T := TX3) (N := 10) cell_bc rfl (nN_lt (by decide)) rfl nX3 (by decide) mF_X3_16 rfl dX3_set_1 ?_
  refine x_aload_n (pc := 4) dX3_set_4 rfl ?_
  refine x_get (pc := 5) (ci := 3) (k := 0) (C := RX3) (T := TX3) (N := 10) cell_bc rfl (nN_lt (by decide)) rfl nX3 (by decide) mF_X3_10 rfl dX3_set_5 ?_
  refine e_Vv (pc := 8) (g_copyFrom (j := 1) (j2 := 0) (by decide) (by decide) (by decide) hG.1) qV_X2_copyFrom mL_X3_50 dX3_set_8 rfl (cell_sheet' (by first | assumption | omega)) (sB_255 (by first | assumption | omega)) rfl rfl rfl ⟨by decide, by decide⟩ (Nat.le_of_ble_eq_true rfl) (Nat.le_of_ble_eq_true rfl) (Nat.le_of_ble_eq_true rfl) ?_
  intro σ1 R1
  have hR0 : RC (updS S 1 σ1 0) w.1 := by rw [updS_ne _ _ (by decide)]; exact hG.1
  refine x_aload_n (pc := 11) dX3_set_11 rfl ?_
  refine x_aload_n (pc := 12) dX3_set_12 rfl ?_
  refine x_get (pc := 13) (ci := 3) (k := 0) (C := RX3) (T := TX3) (N := 10) cell_bc rfl (nN_lt (by decide)) rfl nX3 (by decide) mF_X3_10 rfl dX3_set_13 ?_
  refine x_iload_n (pc := 16) dX3_set_16 rfl ?_
  refine x_iload_n (pc := 17) dX3_set_17 rfl ?_
  refine e_Vi (pc := 18) (g_changeSetting (j := 0) (by decide) hR0 v c) qV_X2_changeSetting mL_X3_66 dX3_set_18 rfl (cell_sheet' (by first | assumption | omega)) (sB_255 (by first | assumption | omega)) rfl rfl rfl ⟨by decide, by decide⟩ (Nat.le_of_ble_eq_true rfl) (Nat.le_of_ble_eq_true rfl) (Nat.le_of_ble_eq_true rfl) ?_
  intro σ2 R2
  have hH2 : HR (updS (updS S 1 σ1) 0 σ2) B w.2.1 := HR_S hG.2.1 (fun q hq => by rw [updS_ne _ _ (by omega), updS_ne _ _ (by omega)])
  have hR1 : RC (updS (updS S 1 σ1) 0 σ2 1) w.1 := by rw [updS_ne _ _ (by decide), updS_same]; exact R1
  refine e_Vi (pc := 21) (c_X3_recorded hH2 hR1 _) qV_X3_recorded mL_X3_58 dX3_set_21 rfl cell_bc (nN_lt (by decide)) rfl rfl rfl ⟨by decide, by decide⟩ (Nat.le_of_ble_eq_true rfl) (Nat.le_of_ble_eq_true rfl) (Nat.le_of_ble_eq_true rfl) ?_
  intro a ha
  exact x_iret rfl dX3_set_24 ⟨a, rfl, rfl, rfl, GC_rec (σ1 := σ1) hG R2 ha⟩
set_option maxHeartbeats 4000000 in
set_option maxRecDepth 100000 in
theorem c_X3_cut (hG : GC S B w) (v : Int32) : Ct G yX3_cut YX3_cut 0 0 [.ref (gB G + 0), .int v] (nN G) (cellOf G S B M) (Re G (some (.int (recX w (cutX w.1 v)).1)) (fun a : (Nat → Sh) × Bc => a.1) (fun a => a.2) (fun _ => M) (fun a => GC a.1 a.2 (recX w (cutX w.1 v)).2)) := by
  refine ct_of (by decide +kernel) rfl rfl (Nat.le_of_ble_eq_true rfl) (by simp [Value.category]) ?_
  refine x_sub (l' := [(0, .ref (gB G + 0)), (1, .int v)]) ⟨rfl, rfl, trivial⟩ ?_
  refine x_aload_n (pc := 0) dX3_cut_0 rfl ?_
  refine x_get (pc := 1) (ci := 3) (k := 1) (C := RX3) (T := TX3) (N := 10) cell_bc rfl (nN_lt (by decide)) rfl nX3 (by decide) mF_X3_16 rfl dX3_cut_1 ?_
  refine x_aload_n (pc := 4) dX3_cut_4 rfl ?_
  refine x_get (pc := 5) (ci := 3) (k := 0) (C := RX3) (T := TX3) (N := 10) cell_bc rfl (nN_lt (by decide)) rfl nX3 (by decide) mF_X3_10 rfl dX3_cut_5 ?_
  refine e_Vv (pc := 8) (g_copyFrom (j := 1) (j2 := 0) (by decide) (by decide) (by decide) hG.1) qV_X2_copyFrom mL_X3_50 dX3_cut_8 rfl (cell_sheet' (by first | assumption | omega)) (sB_255 (by first | assumption | omega)) rfl rfl rfl ⟨by decide, by decide⟩ (Nat.le_of_ble_eq_true rfl) (Nat.le_of_ble_eq_true rfl) (Nat.le_of_ble_eq_true rfl) ?_
  intro σ1 R1
  have hR0 : RC (updS S 1 σ1 0) w.1 := by rw [updS_ne _ _ (by decide)]; exact hG.1
  refine x_aload_n (pc := 11) dX3_cut_11 rfl ?_
  refine x_aload_n (pc := 12) dX3_cut_12 rfl ?_
  refine x_get (pc := 13) (ci := 3) (k := 0) (C := RX3) (T := TX3) (N := 10) cell_bc rfl (nN_lt (by decide)) rfl nX3 (by decide) mF_X3_10 rfl dX3_cut_13 ?_
  refine x_iload_n (pc := 16) dX3_cut_16 rfl ?_
  refine e_Vi (pc := 17) (g_cutShape (j := 0) (by decide) hR0 v) qV_X2_cutShape mL_X3_69 dX3_cut_17 rfl (cell_sheet' (by first | assumption | omega)) (sB_255 (by first | assumption | omega)) rfl rfl rfl ⟨by decide, by decide⟩ (Nat.le_of_ble_eq_true rfl) (Nat.le_of_ble_eq_true rfl) (Nat.le_of_ble_eq_true rfl) ?_
  intro σ2 R2
  have hH2 : HR (updS (updS S 1 σ1) 0 σ2) B w.2.1 := HR_S hG.2.1 (fun q hq => by rw [updS_ne _ _ (by omega), updS_ne _ _ (by omega)])
  have hR1 : RC (updS (updS S 1 σ1) 0 σ2 1) w.1 := by rw [updS_ne _ _ (by decide), updS_same]; exact R1
  refine e_Vi (pc := 20) (c_X3_recorded hH2 hR1 _) qV_X3_recorded mL_X3_58 dX3_cut_20 rfl cell_bc (nN_lt (by decide)) rfl rfl rfl ⟨by decide, by decide⟩ (Nat.le_of_ble_eq_true rfl) (Nat.le_of_ble_eq_true rfl) (Nat.le_of_ble_eq_true rfl) ?_
  intro a ha
  exact x_iret rfl dX3_cut_23 ⟨a, rfl, rfl, rfl, GC_rec (σ1 := σ1) hG R2 ha⟩
set_option maxHeartbeats 4000000 in
set_option maxRecDepth 100000 in
theorem c_X3_pause (hG : GC S B w) (v : Int32) : Ct G yX3_pause YX3_pause 0 0 [.ref (gB G + 0), .int v] (nN G) (cellOf G S B M) (Re G (some (.int (recX w (waitX w.1 v)).1)) (fun a : (Nat → Sh) × Bc => a.1) (fun a => a.2) (fun _ => M) (fun a => GC a.1 a.2 (recX w (waitX w.1 v)).2)) := by
  refine ct_of (by decide +kernel) rfl rfl (Nat.le_of_ble_eq_true rfl) (by simp [Value.category]) ?_
  refine x_sub (l' := [(0, .ref (gB G + 0)), (1, .int v)]) ⟨rfl, rfl, trivial⟩ ?_
  refine x_aload_n (pc := 0) dX3_pause_0 rfl ?_
  refine x_get (pc := 1) (ci := 3) (k := 1) (C := RX3) (T := TX3) (N := 10) cell_bc rfl (nN_lt (by decide)) rfl nX3 (by decide) mF_X3_16 rfl dX3_pause_1 ?_
  refine x_aload_n (pc := 4) dX3_pause_4 rfl ?_
  refine x_get (pc := 5) (ci := 3) (k := 0) (C := RX3) (T := TX3) (N := 10) cell_bc rfl (nN_lt (by decide)) rfl nX3 (by decide) mF_X3_10 rfl dX3_pause_5 ?_
  refine e_Vv (pc := 8) (g_copyFrom (j := 1) (j2 := 0) (by decide) (by decide) (by decide) hG.1) qV_X2_copyFrom mL_X3_50 dX3_pause_8 rfl (cell_sheet' (by first | assumption | omega)) (sB_255 (by first | assumption | omega)) rfl rfl rfl ⟨by decide, by decide⟩ (Nat.le_of_ble_eq_true rfl) (Nat.le_of_ble_eq_true rfl) (Nat.le_of_ble_eq_true rfl) ?_
  intro σ1 R1
  have hR0 : RC (updS S 1 σ1 0) w.1 := by rw [updS_ne _ _ (by decide)]; exact hG.1
  refine x_aload_n (pc := 11) dX3_pause_11 rfl ?_
  refine x_aload_n (pc := 12) dX3_pause_12 rfl ?_
  refine x_get (pc := 13) (ci := 3) (k := 0) (C := RX3) (T := TX3) (N := 10) cell_bc rfl (nN_lt (by decide)) rfl nX3 (by decide) mF_X3_10 rfl dX3_pause_13 ?_
  refine x_iload_n (pc := 16) dX3_pause_16 rfl ?_
  refine e_Vi (pc := 17) (g_waitFor (j := 0) (by decide) hR0 v) qV_X2_waitFor mL_X3_72 dX3_pause_17 rfl (cell_sheet' (by first | assumption | omega)) (sB_255 (by first | assumption | omega)) rfl rfl rfl ⟨by decide, by decide⟩ (Nat.le_of_ble_eq_true rfl) (Nat.le_of_ble_eq_true rfl) (Nat.le_of_ble_eq_true rfl) ?_
  intro σ2 R2
  have hH2 : HR (updS (updS S 1 σ1) 0 σ2) B w.2.1 := HR_S hG.2.1 (fun q hq => by rw [updS_ne _ _ (by omega), updS_ne _ _ (by omega)])
  have hR1 : RC (updS (updS S 1 σ1) 0 σ2 1) w.1 := by rw [updS_ne _ _ (by decide), updS_same]; exact R1
  refine e_Vi (pc := 20) (c_X3_recorded hH2 hR1 _) qV_X3_recorded mL_X3_58 dX3_pause_20 rfl cell_bc (nN_lt (by decide)) rfl rfl rfl ⟨by decide, by decide⟩ (Nat.le_of_ble_eq_true rfl) (Nat.le_of_ble_eq_true rfl) (Nat.le_of_ble_eq_true rfl) ?_
  intro a ha
  exact x_iret rfl dX3_pause_23 ⟨a, rfl, rfl, rfl, GC_rec (σ1 := σ1) hG R2 ha⟩
set_option maxHeartbeats 4000000 in
set_option maxRecDepth 100000 in
theorem c_X3_clean (hG : GC S B w) : Ct G yX3_clean YX3_clean 0 0 [.ref (gB G + 0)] (nN G) (cellOf G S B M) (Re G (some (.int (recX w (cleanX w.1)).1)) (fun a : (Nat → Sh) × Bc => a.1) (fun a => a.2) (fun _ => M) (fun a => GC a.1 a.2 (recX w (cleanX w.1)).2)) := by
  refine ct_of (by decide +kernel) rfl rfl (Nat.le_of_ble_eq_true rfl) (by simp [Value.category]) ?_
  refine x_sub (l' := [(0, .ref (gB G + 0))]) ⟨rfl, trivial⟩ ?_
  refine x_aload_n (pc := 0) dX3_clean_0 rfl ?_
  refine x_get (pc := 1) (ci := 3) (k := 1) (C := RX3) (T := TX3) (N := 10) cell_bc rfl (nN_lt (by decide)) rfl nX3 (by decide) mF_X3_16 rfl dX3_clean_1 ?_
  refine x_aload_n (pc := 4) dX3_clean_4 rfl ?_
  refine x_get (pc := 5) (ci := 3) (k := 0) (C := RX3) (T := TX3) (N := 10) cell_bc rfl (nN_lt (by decide)) rfl nX3 (by decide) mF_X3_10 rfl dX3_clean_5 ?_
  refine e_Vv (pc := 8) (g_copyFrom (j := 1) (j2 := 0) (by decide) (by decide) (by decide) hG.1) qV_X2_copyFrom mL_X3_50 dX3_clean_8 rfl (cell_sheet' (by first | assumption | omega)) (sB_255 (by first | assumption | omega)) rfl rfl rfl ⟨by decide, by decide⟩ (Nat.le_of_ble_eq_true rfl) (Nat.le_of_ble_eq_true rfl) (Nat.le_of_ble_eq_true rfl) ?_
  intro σ1 R1
  have hR0 : RC (updS S 1 σ1 0) w.1 := by rw [updS_ne _ _ (by decide)]; exact hG.1
  refine x_aload_n (pc := 11) dX3_clean_11 rfl ?_
  refine x_aload_n (pc := 12) dX3_clean_12 rfl ?_
  refine x_get (pc := 13) (ci := 3) (k := 0) (C := RX3) (T := TX3) (N := 10) cell_bc rfl (nN_lt (by decide)) rfl nX3 (by decide) mF_X3_10 rfl dX3_clean_13 ?_
  refine e_Vi (pc := 16) (g_cleanLens (j := 0) (by decide) hR0) qV_X2_cleanLens mL_X3_75 dX3_clean_16 rfl (cell_sheet' (by first | assumption | omega)) (sB_255 (by first | assumption | omega)) rfl rfl rfl ⟨by decide, by decide⟩ (Nat.le_of_ble_eq_true rfl) (Nat.le_of_ble_eq_true rfl) (Nat.le_of_ble_eq_true rfl) ?_
  intro σ2 R2
  have hH2 : HR (updS (updS S 1 σ1) 0 σ2) B w.2.1 := HR_S hG.2.1 (fun q hq => by rw [updS_ne _ _ (by omega), updS_ne _ _ (by omega)])
  have hR1 : RC (updS (updS S 1 σ1) 0 σ2 1) w.1 := by rw [updS_ne _ _ (by decide), updS_same]; exact R1
  refine e_Vi (pc := 19) (c_X3_recorded hH2 hR1 _) qV_X3_recorded mL_X3_58 dX3_clean_19 rfl cell_bc (nN_lt (by decide)) rfl rfl rfl ⟨by decide, by decide⟩ (Nat.le_of_ble_eq_true rfl) (Nat.le_of_ble_eq_true rfl) (Nat.le_of_ble_eq_true rfl) ?_
  intro a ha
  exact x_iret rfl dX3_clean_22 ⟨a, rfl, rfl, rfl, GC_rec (σ1 := σ1) hG R2 ha⟩
theorem HR_pop {h : List Ab} {A : Ab} (hH : HR S B h) {σ : Sh} (hl : h.getLast? = some A) : HR (updS S 0 σ) (upd B.1 0 (nI (h.length - 1)), B.2) h.dropLast := by
  obtain ⟨h1, h2, h3, h4, h5⟩ := hH
  refine ⟨?_, by rw [List.length_dropLast]; omega, h3, h4, fun k A' hk => ?_⟩
  · have e : upd B.1 0 (nI (h.length - 1)) 0 = nI (h.length - 1) := upd_same _ _ _
    rw [List.length_dropLast]
    exact e
  · show RC (updS S 0 σ (B.2.1 k)) A'
    have hk1 : k < h.dropLast.length := (List.getElem?_eq_some_iff.mp hk).1
    rw [List.length_dropLast] at hk1
    rw [updS_ne _ _ (show B.2.1 k ≠ 0 by have := (h3 k (by omega)).1; omega)]
    refine h5 k A' ?_
    rw [List.getElem?_dropLast] at hk
    rw [if_pos (by omega)] at hk
    exact hk
theorem und_last {h : List Ab} {A : Ab} (hl : h.getLast? = some A) : 0 < h.length ∧ h[h.length - 1]? = some A := by
  rw [List.getLast?_eq_getElem?] at hl
  refine ⟨?_, hl⟩
  have := (List.getElem?_eq_some_iff.mp hl).1
  omega
set_option maxHeartbeats 4000000 in
set_option maxRecDepth 100000 in
theorem c_X3_undo (hG : GC S B w) : Ct G yX3_undo YX3_undo 0 0 [.ref (gB G + 0)] (nN G) (cellOf G S B M) (Re G (some (.int (undX w).1)) (fun a : (Nat → Sh) × Bc => a.1) (fun a => a.2) (fun _ => M) (fun a => GC a.1 a.2 (undX w).2)) := by
  refine ct_of (by decide +kernel) rfl rfl (Nat.le_of_ble_eq_true rfl) (by simp [Value.category]) ?_
  refine x_sub (l' := [(0, .ref (gB G + 0))]) ⟨rfl, trivial⟩ ?_
  have hH := hG.2.1
  cases hl : w.2.1.getLast? with
  | none =>
    have h0 : w.2.1 = [] := List.getLast?_eq_none_iff.mp hl
    have hB : B.1 0 = 0 := hH.1.trans (by rw [h0]; rfl)
    have hX : undX w = (-5, w) := by simp only [undX, hl]
    rw [hX]
    refine x_aload_n (pc := 0) dX3_undo_0 rfl ?_
    refine x_get (pc := 1) (ci := 3) (k := 6) (C := RX3) (T := TX3) (N := 10) cell_bc rfl (nN_lt (by decide)) rfl nX3 (by decide) mF_X3_36 rfl dX3_undo_1 ?_
    try dsimp only
    rw [hB]
    refine x_ifle (pc := 4) 15 dX3_undo_4 (by decide) (fun c4 => ?_) (fun c4 => absurd c4 (by decide))
    refine x_bipush (pc := 15) (-5) dX3_undo_15 (by decide) ?_
    exact x_iret rfl dX3_undo_17 ⟨(S, B), rfl, rfl, rfl, hG⟩
  | some A =>
    obtain ⟨hp, hk⟩ := und_last hl
    have h4 := hH.2.1
    have hX : undX w = (nI (w.2.1.length - 1), (A, w.2.1.dropLast, w.2.2)) := by simp only [undX, hl]
    rw [hX]
    have hb := hH.2.2.1 (w.2.1.length - 1) (by omega)
    have hRk := hH.2.2.2.2 _ _ hk
    have hpd : nI w.2.1.length - 1 = nI (w.2.1.length - 1) := by
      have := nI_pred (w.2.1.length - 1)
      rwa [Nat.sub_add_cancel hp] at this
    refine x_aload_n (pc := 0) dX3_undo_0 rfl ?_
    refine x_get (pc := 1) (ci := 3) (k := 6) (C := RX3) (T := TX3) (N := 10) cell_bc rfl (nN_lt (by decide)) rfl nX3 (by decide) mF_X3_36 rfl dX3_undo_1 ?_
    try dsimp only
    rw [hH.1]
    refine x_ifle (pc := 4) 15 dX3_undo_4 (by decide) (fun c4 => absurd (show (0 : Int32) < nI w.2.1.length from (lt_nI (a := 0) (by decide) (by omega)).mpr hp) c4) (fun c4 => ?_)
    refine x_aload_n (pc := 7) dX3_undo_7 rfl ?_
    refine x_get (pc := 8) (ci := 3) (k := 6) (C := RX3) (T := TX3) (N := 10) cell_bc rfl (nN_lt (by decide)) rfl nX3 (by decide) mF_X3_36 rfl dX3_undo_8 ?_
    try dsimp only
    rw [hH.1]
    refine x_iconst (pc := 11) (4) dX3_undo_11 (by decide) ?_
    refine x_cmple (pc := 12) 18 dX3_undo_12 (by decide) (fun c12 => ?_) (fun c12 => absurd ((lt_nI (a := 4) (by decide) (by omega)).mp (show nI 4 < nI w.2.1.length from c12)) (by omega))
    refine x_aload_n (pc := 18) dX3_undo_18 rfl ?_
    refine x_dup (pc := 19) dX3_undo_19 rfl ?_
    refine x_get (pc := 20) (ci := 3) (k := 6) (C := RX3) (T := TX3) (N := 10) cell_bc rfl (nN_lt (by decide)) rfl nX3 (by decide) mF_X3_36 rfl dX3_undo_20 ?_
    try dsimp only
    rw [hH.1]
    refine x_iconst (pc := 23) (1) dX3_undo_23 (by decide) ?_
    refine x_isub (pc := 24) dX3_undo_24 ?_
    try dsimp only
    rw [hpd]
    refine t_putBc (pc := 25) 0 (by decide) rfl rfl mF_X3_36 dX3_undo_25 ?_
    try dsimp only
    refine x_aload_n (pc := 28) dX3_undo_28 rfl ?_
    refine x_get (pc := 29) (ci := 3) (k := 0) (C := RX3) (T := TX3) (N := 10) cell_bc rfl (nN_lt (by decide)) rfl nX3 (by decide) mF_X3_10 rfl dX3_undo_29 ?_
    refine x_aload_n (pc := 32) dX3_undo_32 rfl ?_
    refine x_get (pc := 33) (ci := 3) (k := 4) (C := RX3) (T := TX3) (N := 10) cell_bc rfl (nN_lt (by decide)) rfl nX3 (by decide) mF_X3_25 rfl dX3_undo_33 ?_
    refine x_aload_n (pc := 36) dX3_undo_36 rfl ?_
    refine x_get (pc := 37) (ci := 3) (k := 6) (C := RX3) (T := TX3) (N := 10) cell_bc rfl (nN_lt (by decide)) rfl nX3 (by decide) mF_X3_36 rfl dX3_undo_37 ?_
    try dsimp only
    rw [upd_same]
    refine t_hist (pc := 40) (w.2.1.length - 1) rfl (by omega) dX3_undo_40 ?_
    refine e_Vv (pc := 41) (g_copyFrom (j := 0) (j2 := B.2.1 (w.2.1.length - 1)) (by decide) hb.2 (by omega) hRk) qV_X2_copyFrom mL_X3_50 dX3_undo_41 rfl (cell_sheet' (by first | assumption | omega)) (sB_255 (by first | assumption | omega)) rfl rfl rfl ⟨by decide, by decide⟩ (Nat.le_of_ble_eq_true rfl) (Nat.le_of_ble_eq_true rfl) (Nat.le_of_ble_eq_true rfl) ?_
    intro σ1 R1
    refine x_aload_n (pc := 44) dX3_undo_44 rfl ?_
    refine x_get (pc := 45) (ci := 3) (k := 6) (C := RX3) (T := TX3) (N := 10) cell_bc rfl (nN_lt (by decide)) rfl nX3 (by decide) mF_X3_36 rfl dX3_undo_45 ?_
    try dsimp only
    rw [upd_same]
    have r0 : RC (updS S 0 σ1 0) A := by rw [updS_same]; exact R1
    exact x_iret rfl dX3_undo_48 ⟨(updS S 0 σ1, upd B.1 0 (nI (w.2.1.length - 1)), B.2), rfl, rfl, rfl, r0, HR_pop hH hl, snR_k hG.2.2.1 (updS_ne S σ1 (show 3 ≠ 0 by decide)) (upd_ne B.1 (nI (w.2.1.length - 1)) (show 1 ≠ 0 by decide)), hG.2.2.2.1, stR_k hG.2.2.2.2 (upd_ne B.1 (nI (w.2.1.length - 1)) (show 2 ≠ 0 by decide)) (upd_ne B.1 (nI (w.2.1.length - 1)) (show 3 ≠ 0 by decide))⟩
set_option maxHeartbeats 4000000 in
set_option maxRecDepth 100000 in
theorem c_X3_restore (hG : GC S B w) : Ct G yX3_restore YX3_restore 0 0 [.ref (gB G + 0)] (nN G) (cellOf G S B M) (Re G (some (.int (resX w).1)) (fun a : (Nat → Sh) × Bc => a.1) (fun a => a.2) (fun _ => M) (fun a => GC a.1 a.2 (resX w).2)) := by
  refine ct_of (by decide +kernel) rfl rfl (Nat.le_of_ble_eq_true rfl) (by simp [Value.category]) ?_
  refine x_sub (l' := [(0, .ref (gB G + 0))]) ⟨rfl, trivial⟩ ?_
  have h3 := hG.2.2.1
  cases hs : w.2.2.1 with
  | none =>
    rw [hs] at h3
    have hX : resX w = (-5, w) := by simp only [resX, hs]
    rw [hX]
    have h3 : B.1 1 = 0 := h3
    refine x_aload_n (pc := 0) dX3_restore_0 rfl ?_
    refine x_get (pc := 1) (ci := 3) (k := 7) (C := RX3) (T := TX3) (N := 10) cell_bc rfl (nN_lt (by decide)) rfl nX3 (by decide) mF_X3_40 rfl dX3_restore_1 ?_
    try dsimp only
    rw [h3]
    refine x_ifne (pc := 4) 10 dX3_restore_4 (by decide) (fun c4 => absurd rfl c4) (fun c4 => ?_)
    refine x_bipush (pc := 7) (-5) dX3_restore_7 (by decide) ?_
    exact x_iret rfl dX3_restore_9 ⟨(S, B), rfl, rfl, rfl, hG⟩
  | some A =>
    rw [hs] at h3
    have hX : resX w = recX w (nI A.1, A) := by simp only [resX, hs]
    rw [hX]
    have h3a : B.1 1 = 1 := h3.1
    refine x_aload_n (pc := 0) dX3_restore_0 rfl ?_
    refine x_get (pc := 1) (ci := 3) (k := 7) (C := RX3) (T := TX3) (N := 10) cell_bc rfl (nN_lt (by decide)) rfl nX3 (by decide) mF_X3_40 rfl dX3_restore_1 ?_
    try dsimp only
    rw [h3a]
    refine x_ifne (pc := 4) 10 dX3_restore_4 (by decide) (fun c4 => ?_) (fun c4 => absurd c4 (by decide))
    refine x_aload_n (pc := 10) dX3_restore_10 rfl ?_
    refine x_get (pc := 11) (ci := 3) (k := 1) (C := RX3) (T := TX3) (N := 10) cell_bc rfl (nN_lt (by decide)) rfl nX3 (by decide) mF_X3_16 rfl dX3_restore_11 ?_
    refine x_aload_n (pc := 14) dX3_restore_14 rfl ?_
    refine x_get (pc := 15) (ci := 3) (k := 0) (C := RX3) (T := TX3) (N := 10) cell_bc rfl (nN_lt (by decide)) rfl nX3 (by decide) mF_X3_10 rfl dX3_restore_15 ?_
    refine e_Vv (pc := 18) (g_copyFrom (j := 1) (j2 := 0) (by decide) (by decide) (by decide) hG.1) qV_X2_copyFrom mL_X3_50 dX3_restore_18 rfl (cell_sheet' (by first | assumption | omega)) (sB_255 (by first | assumption | omega)) rfl rfl rfl ⟨by decide, by decide⟩ (Nat.le_of_ble_eq_true rfl) (Nat.le_of_ble_eq_true rfl) (Nat.le_of_ble_eq_true rfl) ?_
    intro σ1 R1
    have hR0 : RC (updS S 1 σ1 0) w.1 := by rw [updS_ne _ _ (by decide)]; exact hG.1
    refine x_aload_n (pc := 21) dX3_restore_21 rfl ?_
    refine x_get (pc := 22) (ci := 3) (k := 0) (C := RX3) (T := TX3) (N := 10) cell_bc rfl (nN_lt (by decide)) rfl nX3 (by decide) mF_X3_10 rfl dX3_restore_22 ?_
    refine x_aload_n (pc := 25) dX3_restore_25 rfl ?_
    refine x_get (pc := 26) (ci := 3) (k := 3) (C := RX3) (T := TX3) (N := 10) cell_bc rfl (nN_lt (by decide)) rfl nX3 (by decide) mF_X3_22 rfl dX3_restore_26 ?_
    refine e_Vv (pc := 29) (g_copyFrom (j := 0) (j2 := 3) (A := A) (by decide) (by decide) (by decide) (by rw [updS_ne _ _ (by decide)]; exact h3.2)) qV_X2_copyFrom mL_X3_50 dX3_restore_29 rfl (cell_sheet' (by first | assumption | omega)) (sB_255 (by first | assumption | omega)) rfl rfl rfl ⟨by decide, by decide⟩ (Nat.le_of_ble_eq_true rfl) (Nat.le_of_ble_eq_true rfl) (Nat.le_of_ble_eq_true rfl) ?_
    intro σ2 R2
    have hH2 : HR (updS (updS S 1 σ1) 0 σ2) B w.2.1 := HR_S hG.2.1 (fun q hq => by rw [updS_ne _ _ (by omega), updS_ne _ _ (by omega)])
    have hR1 : RC (updS (updS S 1 σ1) 0 σ2 1) w.1 := by rw [updS_ne _ _ (by decide), updS_same]; exact R1
    refine x_aload_n (pc := 32) dX3_restore_32 rfl ?_
    refine x_aload_n (pc := 33) dX3_restore_33 rfl ?_
    refine x_get (pc := 34) (ci := 3) (k := 0) (C := RX3) (T := TX3) (N := 10) cell_bc rfl (nN_lt (by decide)) rfl nX3 (by decide) mF_X3_10 rfl dX3_restore_34 ?_
    refine x_get (pc := 37) (ci := 2) (k := 3) (C := RX2) (T := TX2) (N := 10) (cell_sheet' (by first | assumption | omega)) rfl (sB_255 (by first | assumption | omega)) rfl nX2 (by decide) mF_X3_96 rfl dX3_restore_37 ?_
    try dsimp only
    rw [updS_same, R2.told]
    refine e_Vi (pc := 40) (c_X3_recorded hH2 hR1 _) qV_X3_recorded mL_X3_58 dX3_restore_40 rfl cell_bc (nN_lt (by decide)) rfl rfl rfl ⟨by decide, by decide⟩ (Nat.le_of_ble_eq_true rfl) (Nat.le_of_ble_eq_true rfl) (Nat.le_of_ble_eq_true rfl) ?_
    intro a ha
    exact x_iret rfl dX3_restore_43 ⟨a, rfl, rfl, rfl, GC_rec (σ1 := σ1) (r := (nI A.1, A)) hG R2 ha⟩
set_option maxHeartbeats 4000000 in
set_option maxRecDepth 100000 in
theorem c_X3_shape (hG : GC S B w) (v c : Int32) : Ct G yX3_shape YX3_shape 0 0 [.ref (gB G + 0), .int v, .int c] (nN G) (cellOf G S B M) (Rt G (some (.int (factX w.1 v c))) S B M) := by
  refine ct_of (by decide +kernel) rfl rfl (Nat.le_of_ble_eq_true rfl) (by simp [Value.category]) ?_
  refine x_sub (l' := [(0, .ref (gB G + 0)), (1, .int v), (2, .int c)]) ⟨rfl, rfl, rfl, trivial⟩ ?_
  refine x_aload_n (pc := 0) dX3_shape_0 rfl ?_
  refine x_get (pc := 1) (ci := 3) (k := 0) (C := RX3) (T := TX3) (N := 10) cell_bc rfl (nN_lt (by decide)) rfl nX3 (by decide) mF_X3_10 rfl dX3_shape_1 ?_
  refine x_iload_n (pc := 4) dX3_shape_4 rfl ?_
  refine x_iload_n (pc := 5) dX3_shape_5 rfl ?_
  refine t_Vi (pc := 6) (g_factOfShape (j := 0) (by decide) hG.1 v c) qV_X2_factOfShape mL_X3_99 dX3_shape_6 rfl (cell_sheet' (by first | assumption | omega)) (sB_255 (by first | assumption | omega)) rfl rfl rfl ⟨by decide, by decide⟩ (Nat.le_of_ble_eq_true rfl) (Nat.le_of_ble_eq_true rfl) (Nat.le_of_ble_eq_true rfl) ?_
  exact x_iret rfl dX3_shape_9 ⟨by rfl, rfl, rfl⟩
set_option maxHeartbeats 4000000 in
set_option maxRecDepth 100000 in
theorem c_X3_heat (hG : GC S B w) (v : Int32) : Ct G yX3_heat YX3_heat 0 0 [.ref (gB G + 0), .int v] (nN G) (cellOf G S B M) (Rt G (some (.int (hinV w.1.2.2.1 v))) S B M) := by
  refine ct_of (by decide +kernel) rfl rfl (Nat.le_of_ble_eq_true rfl) (by simp [Value.category]) ?_
  refine x_sub (l' := [(0, .ref (gB G + 0)), (1, .int v)]) ⟨rfl, rfl, trivial⟩ ?_
  refine x_aload_n (pc := 0) dX3_heat_0 rfl ?_
  refine x_get (pc := 1) (ci := 3) (k := 0) (C := RX3) (T := TX3) (N := 10) cell_bc rfl (nN_lt (by decide)) rfl nX3 (by decide) mF_X3_10 rfl dX3_heat_1 ?_
  refine x_iload_n (pc := 4) dX3_heat_4 rfl ?_
  refine t_Vi (pc := 5) (g_heatIn (j := 0) (by decide) hG.1 v) qV_X2_heatIn mL_X3_102 dX3_heat_5 rfl (cell_sheet' (by first | assumption | omega)) (sB_255 (by first | assumption | omega)) rfl rfl rfl ⟨by decide, by decide⟩ (Nat.le_of_ble_eq_true rfl) (Nat.le_of_ble_eq_true rfl) (Nat.le_of_ble_eq_true rfl) ?_
  exact x_iret rfl dX3_heat_8 ⟨by rfl, rfl, rfl⟩
set_option maxHeartbeats 4000000 in
set_option maxRecDepth 100000 in
theorem c_X3_takes (hG : GC S B w) (v : Int32) : Ct G yX3_takes YX3_takes 0 0 [.ref (gB G + 0), .int v] (nN G) (cellOf G S B M) (Rt G (some (.int (tcX w.1 v))) S B M) := by
  refine ct_of (by decide +kernel) rfl rfl (Nat.le_of_ble_eq_true rfl) (by simp [Value.category]) ?_
  refine x_sub (l' := [(0, .ref (gB G + 0)), (1, .int v)]) ⟨rfl, rfl, trivial⟩ ?_
  refine x_aload_n (pc := 0) dX3_takes_0 rfl ?_
  refine x_get (pc := 1) (ci := 3) (k := 0) (C := RX3) (T := TX3) (N := 10) cell_bc rfl (nN_lt (by decide)) rfl nX3 (by decide) mF_X3_10 rfl dX3_takes_1 ?_
  refine x_iload_n (pc := 4) dX3_takes_4 rfl ?_
  refine t_Vi (pc := 5) (g_ticksToCut (j := 0) (by decide) hG.1 v) qV_X2_ticksToCut mL_X3_112 dX3_takes_5 rfl (cell_sheet' (by first | assumption | omega)) (sB_255 (by first | assumption | omega)) rfl rfl rfl ⟨by decide, by decide⟩ (Nat.le_of_ble_eq_true rfl) (Nat.le_of_ble_eq_true rfl) (Nat.le_of_ble_eq_true rfl) ?_
  exact x_iret rfl dX3_takes_8 ⟨by rfl, rfl, rfl⟩
set_option maxHeartbeats 4000000 in
set_option maxRecDepth 100000 in
theorem c_X3_coolsIn (hG : GC S B w) (v : Int32) : Ct G yX3_coolsIn YX3_coolsIn 0 0 [.ref (gB G + 0), .int v] (nN G) (cellOf G S B M) (Rt G (some (.int (kcX w.1 v))) S B M) := by
  refine ct_of (by decide +kernel) rfl rfl (Nat.le_of_ble_eq_true rfl) (by simp [Value.category]) ?_
  refine x_sub (l' := [(0, .ref (gB G + 0)), (1, .int v)]) ⟨rfl, rfl, trivial⟩ ?_
  refine x_aload_n (pc := 0) dX3_coolsIn_0 rfl ?_
  refine x_get (pc := 1) (ci := 3) (k := 0) (C := RX3) (T := TX3) (N := 10) cell_bc rfl (nN_lt (by decide)) rfl nX3 (by decide) mF_X3_10 rfl dX3_coolsIn_1 ?_
  refine x_iload_n (pc := 4) dX3_coolsIn_4 rfl ?_
  refine t_Vi (pc := 5) (g_ticksToCool (j := 0) (by decide) hG.1 v) qV_X2_ticksToCool mL_X3_115 dX3_coolsIn_5 rfl (cell_sheet' (by first | assumption | omega)) (sB_255 (by first | assumption | omega)) rfl rfl rfl ⟨by decide, by decide⟩ (Nat.le_of_ble_eq_true rfl) (Nat.le_of_ble_eq_true rfl) (Nat.le_of_ble_eq_true rfl) ?_
  exact x_iret rfl dX3_coolsIn_8 ⟨by rfl, rfl, rfl⟩
set_option maxHeartbeats 4000000 in
set_option maxRecDepth 100000 in
theorem c_X3_best (hG : GC S B w) : Ct G yX3_best YX3_best 0 0 [.ref (gB G + 0)] (nN G) (cellOf G S B M) (Rt G (some (.int (oV (besO w.1 w.1.1)))) S B M) := by
  refine ct_of (by decide +kernel) rfl rfl (Nat.le_of_ble_eq_true rfl) (by simp [Value.category]) ?_
  refine x_sub (l' := [(0, .ref (gB G + 0))]) ⟨rfl, trivial⟩ ?_
  refine x_aload_n (pc := 0) dX3_best_0 rfl ?_
  refine x_get (pc := 1) (ci := 3) (k := 0) (C := RX3) (T := TX3) (N := 10) cell_bc rfl (nN_lt (by decide)) rfl nX3 (by decide) mF_X3_10 rfl dX3_best_1 ?_
  refine t_Vi (pc := 4) (g_bestShape (j := 0) (by decide) hG.1) qV_X2_bestShape mL_X3_118 dX3_best_4 rfl (cell_sheet' (by first | assumption | omega)) (sB_255 (by first | assumption | omega)) rfl rfl rfl ⟨by decide, by decide⟩ (Nat.le_of_ble_eq_true rfl) (Nat.le_of_ble_eq_true rfl) (Nat.le_of_ble_eq_true rfl) ?_
  exact x_iret rfl dX3_best_7 ⟨by rfl, rfl, rfl⟩
set_option maxHeartbeats 4000000 in
set_option maxRecDepth 100000 in
theorem c_X3_reason (hG : GC S B w) (v : Int32) : Ct G yX3_reason YX3_reason 0 0 [.ref (gB G + 0), .int v] (nN G) (cellOf G S B M) (Rt G (some (.int (reaX w.1 v))) S B M) := by
  refine ct_of (by decide +kernel) rfl rfl (Nat.le_of_ble_eq_true rfl) (by simp [Value.category]) ?_
  refine x_sub (l' := [(0, .ref (gB G + 0)), (1, .int v)]) ⟨rfl, rfl, trivial⟩ ?_
  refine x_aload_n (pc := 0) dX3_reason_0 rfl ?_
  refine x_get (pc := 1) (ci := 3) (k := 0) (C := RX3) (T := TX3) (N := 10) cell_bc rfl (nN_lt (by decide)) rfl nX3 (by decide) mF_X3_10 rfl dX3_reason_1 ?_
  refine x_iload_n (pc := 4) dX3_reason_4 rfl ?_
  refine t_Vi (pc := 5) (g_knows (j := 0) (by decide) hG.1 v) qV_X2_knows mL_X3_105 dX3_reason_5 rfl (cell_sheet' (by first | assumption | omega)) (sB_255 (by first | assumption | omega)) rfl rfl rfl ⟨by decide, by decide⟩ (Nat.le_of_ble_eq_true rfl) (Nat.le_of_ble_eq_true rfl) (Nat.le_of_ble_eq_true rfl) ?_
  refine x_ifeq (pc := 8) 22 dX3_reason_8 (by decide) (fun c8 => ?_) (fun c8 => ?_)
  · have t := b01_eq c8
    refine x_iconst (pc := 22) (-1) dX3_reason_22 (by decide) ?_
    first
    | (have u := hcl; exact x_iret rfl dX3_reason_23 ⟨by simp only [reaX, t, if_true, u], rfl, rfl⟩)
    | exact x_iret rfl dX3_reason_23 ⟨by simp only [reaX, t, Bool.false_eq_true, if_false], rfl, rfl⟩
  · have t := b01_ne c8
    obtain ⟨i, hi, rfl, hcl⟩ := knB_some hG.1.le t
    refine x_aload_n (pc := 11) dX3_reason_11 rfl ?_
    refine x_get (pc := 12) (ci := 3) (k := 0) (C := RX3) (T := TX3) (N := 10) cell_bc rfl (nN_lt (by decide)) rfl nX3 (by decide) mF_X3_10 rfl dX3_reason_12 ?_
    refine x_iload_n (pc := 15) dX3_reason_15 rfl ?_
    refine t_Vi (pc := 16) (g_reasonAgainst (j := 0) (by decide) hG.1 i hi) qV_X2_reasonAgainst mL_X3_109 dX3_reason_16 rfl (cell_sheet' (by first | assumption | omega)) (sB_255 (by first | assumption | omega)) rfl rfl rfl ⟨by decide, by decide⟩ (Nat.le_of_ble_eq_true rfl) (Nat.le_of_ble_eq_true rfl) (Nat.le_of_ble_eq_true rfl) ?_
    refine x_goto (pc := 19) 23 dX3_reason_19 (by decide) ?_
    first
    | (have u := hcl; exact x_iret rfl dX3_reason_23 ⟨by simp only [reaX, t, if_true, u], rfl, rfl⟩)
    | exact x_iret rfl dX3_reason_23 ⟨by simp only [reaX, t, Bool.false_eq_true, if_false], rfl, rfl⟩
set_option maxHeartbeats 4000000 in
set_option maxRecDepth 100000 in
theorem c_X3_count (hG : GC S B w) (v : Int32) : Ct G yX3_count YX3_count 0 0 [.ref (gB G + 0), .int v] (nN G) (cellOf G S B M) (Rt G (some (.int (couX w v))) S B M) := by
  refine ct_of (by decide +kernel) rfl rfl (Nat.le_of_ble_eq_true rfl) (by simp [Value.category]) ?_
  refine x_sub (l' := [(0, .ref (gB G + 0)), (1, .int v)]) ⟨rfl, rfl, trivial⟩ ?_
  refine x_iload_n (pc := 0) dX3_count_0 rfl ?_
  refine x_bipush (pc := 1) (17) dX3_count_1 (by decide) ?_
  refine x_cmpne (pc := 3) 11 dX3_count_3 (by decide) (fun c3 => ?_) (fun c3 => ?_)
  · refine x_iload_n (pc := 11) dX3_count_11 rfl ?_
    refine x_bipush (pc := 12) (18) dX3_count_12 (by decide) ?_
    refine x_cmpne (pc := 14) 25 dX3_count_14 (by decide) (fun c14 => ?_) (fun c14 => ?_)
    · refine x_aload_n (pc := 25) dX3_count_25 rfl ?_
      refine x_get (pc := 26) (ci := 3) (k := 0) (C := RX3) (T := TX3) (N := 10) cell_bc rfl (nN_lt (by decide)) rfl nX3 (by decide) mF_X3_10 rfl dX3_count_26 ?_
      refine x_iload_n (pc := 29) dX3_count_29 rfl ?_
      refine t_Vi (pc := 30) (g_factOfSheet (j := 0) (by decide) hG.1 v) qV_X2_factOfSheet mL_X3_135 dX3_count_30 rfl (cell_sheet' (by first | assumption | omega)) (sB_255 (by first | assumption | omega)) rfl rfl rfl ⟨by decide, by decide⟩ (Nat.le_of_ble_eq_true rfl) (Nat.le_of_ble_eq_true rfl) (Nat.le_of_ble_eq_true rfl) ?_
      exact x_iret rfl dX3_count_33 ⟨by simp only [couX, if_neg c3, if_neg c14], rfl, rfl⟩
    · refine x_aload_n (pc := 17) dX3_count_17 rfl ?_
      refine x_get (pc := 18) (ci := 3) (k := 5) (C := RX3) (T := TX3) (N := 10) cell_bc rfl (nN_lt (by decide)) rfl nX3 (by decide) mF_X3_32 rfl dX3_count_18 ?_
      refine x_get (pc := 21) (ci := 0) (k := 4) (C := RX0) (T := TX0) (N := 7) cell_plan rfl (nN_lt (by decide)) rfl nX0 (by decide) mF_X3_132 rfl dX3_count_21 ?_
      try dsimp only
      rw [hG.2.2.2.1.1]
      exact x_iret rfl dX3_count_24 ⟨by simp only [couX, if_neg c3, if_pos c14], rfl, rfl⟩
  · refine x_aload_n (pc := 6) dX3_count_6 rfl ?_
    refine x_get (pc := 7) (ci := 3) (k := 6) (C := RX3) (T := TX3) (N := 10) cell_bc rfl (nN_lt (by decide)) rfl nX3 (by decide) mF_X3_36 rfl dX3_count_7 ?_
    try dsimp only
    rw [hG.2.1.1]
    exact x_iret rfl dX3_count_10 ⟨by simp only [couX, if_pos c3], rfl, rfl⟩
end BEAM
