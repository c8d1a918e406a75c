/-! the reference: readers (rows laid by wip/whole/p27.py) -/
/-- the reference's row of numbers, and the value that it tells -/
def RM (s : Fs) (A : Ab) : Prop := A.1 ≤ 12 ∧ s 0 = nI A.1 ∧ (∀ k, 1 ≤ k → k < 7 → s k = A.2.1 k) ∧ (∀ k, k < 12 → s (11 + k) = A.2.2.1 k) ∧ (∀ k, k < 4 → s (7 + k) = A.2.2.2.1 k) ∧ (∀ i, i < A.1 → ∀ k, k < 8 → s (23 + 8 * i + k) = A.2.2.2.2 i k)
def vS (A : Ab) : Prop := ∀ q, q < A.1 → vF (A.2.2.2.2 q)
theorem VA.vS {A : Ab} (h : VA A) : vS A := h.2.1
theorem RM.le {s : Fs} {A : Ab} (h : RM s A) : A.1 ≤ 12 := h.1
theorem RM.told {s : Fs} {A : Ab} (h : RM s A) : s 0 = nI A.1 := h.2.1
theorem RM.int {s : Fs} {A : Ab} (h : RM s A) (k : Nat) (h1 : 1 ≤ k := by decide) (h2 : k < 7 := by decide) : s k = A.2.1 k := h.2.2.1 k h1 h2
theorem RM.heat {s : Fs} {A : Ab} (h : RM s A) (k : Nat) (h1 : k < 12) : s (11 + k) = A.2.2.1 k := h.2.2.2.1 k h1
theorem RM.sett {s : Fs} {A : Ab} (h : RM s A) (k : Nat) (h1 : k < 4 := by decide) : s (7 + k) = A.2.2.2.1 k := h.2.2.2.2.1 k h1
theorem RM.shp {s : Fs} {A : Ab} (h : RM s A) {i : Nat} (hi : i < A.1) (k : Nat) (h1 : k < 8 := by decide) : s (23 + 8 * i + k) = A.2.2.2.2 i k := h.2.2.2.2.2 i hi k h1
theorem nI_m8 (a : Nat) : 8 * nI a = nI (8 * a) := (Int32.ofNat_mul 8 a).symm
theorem nI_11 (a : Nat) : 11 + nI a = nI (11 + a) := nI_add 11 a
theorem nI_at (a b : Nat) : 23 + 8 * nI a + nI b = nI (23 + 8 * a + b) := by
  rw [nI_m8, ← nI_add (23 + 8 * a) b, ← nI_add 23 (8 * a)]
  rfl
theorem rem4 : ∀ q, q < 12 → nI q - nI q / 4 * 4 = nI q % 4 := by decide +kernel
theorem rem8 : ∀ q, q < 64 → nI q - nI q / 8 * 8 = nI q % 8 := by decide +kernel
section MREAD
variable {G : GX} {S : Nat → Sh} {B : Bc} {N s : Fs} {T : Fs × Fs × Fs × Fs × Fs × Fs} {A : Ab} {i k : Nat}
set_option maxHeartbeats 4000000 in
set_option maxRecDepth 100000 in
theorem c_X4_in (v a b : Int32) : Ct G yX4_in YX4_in 0 0 [.int v, .int a, .int b] 255 (cellOf G S B (N, s, T)) (Rt G (some (.int (b01 (betw v a b)))) S B (N, s, T)) := by
  refine ct_of (by decide +kernel) rfl rfl (Nat.le_of_ble_eq_true rfl) (by simp [Value.category]) ?_
  refine x_sub (l' := [(0, .int v), (1, .int a), (2, .int b)]) ⟨rfl, rfl, rfl, trivial⟩ ?_
  refine x_iload_n (pc := 0) dX4_in_0 rfl ?_
  refine x_iload_n (pc := 1) dX4_in_1 rfl ?_
  refine x_cmplt (pc := 2) 14 dX4_in_2 (by decide) (fun c2 => ?_) (fun c2 => ?_)
  · refine x_iconst (pc := 14) (0) dX4_in_14 (by decide) ?_
    exact x_zret rfl rfl dX4_in_15 ⟨by simp only [b01, betw, *, decide_true, decide_false, decide_not, Bool.and_true, Bool.true_and, Bool.and_false, Bool.false_and, Bool.or_true, Bool.true_or, Bool.or_false, Bool.false_or, Bool.not_true, Bool.not_false, if_true, if_false, not_true, not_false_eq_true, not_false_iff, Bool.false_eq_true, reduceIte, or_true, true_or, or_false, false_or, and_true, true_and, and_false, false_and, ite_self], rfl, rfl⟩
  · refine x_iload_n (pc := 5) dX4_in_5 rfl ?_
    refine x_iload_n (pc := 6) dX4_in_6 rfl ?_
    refine x_cmpgt (pc := 7) 14 dX4_in_7 (by decide) (fun c7 => ?_) (fun c7 => ?_)
    · refine x_iconst (pc := 14) (0) dX4_in_14 (by decide) ?_
      exact x_zret rfl rfl dX4_in_15 ⟨by simp only [b01, betw, *, decide_true, decide_false, decide_not, Bool.and_true, Bool.true_and, Bool.and_false, Bool.false_and, Bool.or_true, Bool.true_or, Bool.or_false, Bool.false_or, Bool.not_true, Bool.not_false, if_true, if_false, not_true, not_false_eq_true, not_false_iff, Bool.false_eq_true, reduceIte, or_true, true_or, or_false, false_or, and_true, true_and, and_false, false_and, ite_self], rfl, rfl⟩
    · refine x_iconst (pc := 10) (1) dX4_in_10 (by decide) ?_
      refine x_goto (pc := 11) 15 dX4_in_11 (by decide) ?_
      exact x_zret rfl rfl dX4_in_15 ⟨by simp only [b01, betw, *, decide_true, decide_false, decide_not, Bool.and_true, Bool.true_and, Bool.and_false, Bool.false_and, Bool.or_true, Bool.true_or, Bool.or_false, Bool.false_or, Bool.not_true, Bool.not_false, if_true, if_false, not_true, not_false_eq_true, not_false_iff, Bool.false_eq_true, reduceIte, or_true, true_or, or_false, false_or, and_true, true_and, and_false, false_and, ite_self], rfl, rfl⟩
set_option maxHeartbeats 4000000 in
set_option maxRecDepth 100000 in
theorem c_X4_isShape (hM : RM s A) (v : Int32) : Ct G yX4_isShape YX4_isShape 0 0 [.ref (gB G + 247), .int v] 255 (cellOf G S B (N, s, T)) (Rt G (some (.int (b01 (knB A v)))) S B (N, s, T)) := by
  refine ct_of (by decide +kernel) rfl rfl (Nat.le_of_ble_eq_true rfl) (by simp [Value.category]) ?_
  refine x_sub (l' := [(0, .ref (gB G + 247)), (1, .int v)]) ⟨rfl, rfl, trivial⟩ ?_
  refine x_iload_n (pc := 0) dX4_isShape_0 rfl ?_
  refine x_iconst (pc := 1) (0) dX4_isShape_1 (by decide) ?_
  refine x_aload_n (pc := 2) dX4_isShape_2 rfl ?_
  refine x_get (pc := 3) (ci := 4) (k := 0) (C := RX4) (T := TX4) (N := 21) cell_model rfl (by decide) rfl nX4 (by decide) mF_X4_7 rfl dX4_isShape_3 ?_
  refine x_iconst (pc := 6) (0) dX4_isShape_6 (by decide) ?_
  refine t_ild (pc := 7) 0 cell_s (by decide) rfl (by decide) (by decide) dX4_isShape_7 ?_
  try dsimp only
  rw [hM.told]
  refine x_iconst (pc := 8) (1) dX4_isShape_8 (by decide) ?_
  refine x_isub (pc := 9) dX4_isShape_9 ?_
  refine t_Si (pc := 10) (c_X4_in _ _ _) qS_X4_in mL_X4_38 dX4_isShape_10 rfl rfl rfl ⟨by decide, by decide⟩ (Nat.le_of_ble_eq_true rfl) (Nat.le_of_ble_eq_true rfl) (Nat.le_of_ble_eq_true rfl) ?_
  rw [kn_eq hM.le]
  exact x_zret rfl (narrow_b01 _) dX4_isShape_13 ⟨rfl, rfl, rfl⟩
set_option maxHeartbeats 4000000 in
set_option maxRecDepth 100000 in
theorem c_X4_at (a b : Nat) : Ct G yX4_at YX4_at 0 0 [.int (nI a), .int (nI b)] 255 (cellOf G S B (N, s, T)) (Rt G (some (.int (nI (23 + 8 * a + b)))) S B (N, s, T)) := by
  refine ct_of (by decide +kernel) rfl rfl (Nat.le_of_ble_eq_true rfl) (by simp [Value.category]) ?_
  refine x_sub (l' := [(0, .int (nI a)), (1, .int (nI b))]) ⟨rfl, rfl, trivial⟩ ?_
  refine x_bipush (pc := 0) (23) dX4_at_0 (by decide) ?_
  refine x_bipush (pc := 2) (8) dX4_at_2 (by decide) ?_
  refine x_iload_n (pc := 4) dX4_at_4 rfl ?_
  refine x_imul (pc := 5) dX4_at_5 ?_
  refine x_iadd (pc := 6) dX4_at_6 ?_
  refine x_iload_n (pc := 7) dX4_at_7 rfl ?_
  refine x_iadd (pc := 8) dX4_at_8 ?_
  rw [nI_at]
  exact x_iret rfl dX4_at_9 ⟨rfl, rfl, rfl⟩
set_option maxHeartbeats 4000000 in
set_option maxRecDepth 100000 in
theorem c_X4_of (hM : RM s A) (hi : i < A.1) (w : Nat) (hw : w < 8) : Ct G yX4_of YX4_of 0 0 [.ref (gB G + 247), .int (nI i), .int (nI w)] 255 (cellOf G S B (N, s, T)) (Rt G (some (.int (A.2.2.2.2 i w))) S B (N, s, T)) := by
  refine ct_of (by decide +kernel) rfl rfl (Nat.le_of_ble_eq_true rfl) (by simp [Value.category]) ?_
  refine x_sub (l' := [(0, .ref (gB G + 247)), (1, .int (nI i)), (2, .int (nI w))]) ⟨rfl, rfl, rfl, trivial⟩ ?_
  have h12 := hM.le
  refine x_aload_n (pc := 0) dX4_of_0 rfl ?_
  refine x_get (pc := 1) (ci := 4) (k := 0) (C := RX4) (T := TX4) (N := 21) cell_model rfl (by decide) rfl nX4 (by decide) mF_X4_7 rfl dX4_of_1 ?_
  refine x_iload_n (pc := 4) dX4_of_4 rfl ?_
  refine x_iload_n (pc := 5) dX4_of_5 rfl ?_
  refine t_Si (pc := 6) (c_X4_at i w) qS_X4_at mL_X4_42 dX4_of_6 rfl rfl rfl ⟨by decide, by decide⟩ (Nat.le_of_ble_eq_true rfl) (Nat.le_of_ble_eq_true rfl) (Nat.le_of_ble_eq_true rfl) ?_
  refine t_ild (pc := 9) (23 + 8 * i + w) cell_s (by decide) rfl (by omega) (by decide) dX4_of_9 ?_
  try dsimp only
  try dsimp only
  rw [hM.shp hi w hw]
  exact x_iret rfl dX4_of_10 ⟨by rfl, rfl, rfl⟩
set_option maxHeartbeats 4000000 in
set_option maxRecDepth 100000 in
theorem c_X4_isWhole (hM : RM s A) (hi : i < A.1) : Ct G yX4_isWhole YX4_isWhole 0 0 [.ref (gB G + 247), .int (nI i)] 255 (cellOf G S B (N, s, T)) (Rt G (some (.int (b01 (decide (A.2.2.2.2 i 5 = 0))))) S B (N, s, T)) := by
  refine ct_of (by decide +kernel) rfl rfl (Nat.le_of_ble_eq_true rfl) (by simp [Value.category]) ?_
  refine x_sub (l' := [(0, .ref (gB G + 247)), (1, .int (nI i))]) ⟨rfl, rfl, trivial⟩ ?_
  refine x_aload_n (pc := 0) dX4_isWhole_0 rfl ?_
  refine x_iload_n (pc := 1) dX4_isWhole_1 rfl ?_
  refine x_iconst (pc := 2) (5) dX4_isWhole_2 (by decide) ?_
  refine t_Vi (pc := 3) (c_X4_of hM (by first | assumption | omega) 5 (by decide)) qV_X4_of mL_X4_46 dX4_isWhole_3 rfl cell_model (by decide) rfl rfl rfl ⟨by decide, by decide⟩ (Nat.le_of_ble_eq_true rfl) (Nat.le_of_ble_eq_true rfl) (Nat.le_of_ble_eq_true rfl) ?_
  refine x_ifne (pc := 6) 13 dX4_isWhole_6 (by decide) (fun c6 => ?_) (fun c6 => ?_)
  · refine x_iconst (pc := 13) (0) dX4_isWhole_13 (by decide) ?_
    exact x_zret rfl rfl dX4_isWhole_14 ⟨by simp only [b01, *, decide_true, decide_false, decide_not, Bool.and_true, Bool.true_and, Bool.and_false, Bool.false_and, Bool.or_true, Bool.true_or, Bool.or_false, Bool.false_or, Bool.not_true, Bool.not_false, if_true, if_false, not_true, not_false_eq_true, not_false_iff, Bool.false_eq_true, reduceIte, or_true, true_or, or_false, false_or, and_true, true_and, and_false, false_and, ite_self], rfl, rfl⟩
  · refine x_iconst (pc := 9) (1) dX4_isWhole_9 (by decide) ?_
    refine x_goto (pc := 10) 14 dX4_isWhole_10 (by decide) ?_
    exact x_zret rfl rfl dX4_isWhole_14 ⟨by simp only [b01, *, decide_true, decide_false, decide_not, Bool.and_true, Bool.true_and, Bool.and_false, Bool.false_and, Bool.or_true, Bool.true_or, Bool.or_false, Bool.false_or, Bool.not_true, Bool.not_false, if_true, if_false, not_true, not_false_eq_true, not_false_iff, Bool.false_eq_true, reduceIte, or_true, true_or, or_false, false_or, and_true, true_and, and_false, false_and, ite_self], rfl, rfl⟩
set_option maxHeartbeats 4000000 in
set_option maxRecDepth 100000 in
theorem c_X4_lastColumn (hM : RM s A) (hi : i < A.1) : Ct G yX4_lastColumn YX4_lastColumn 0 0 [.ref (gB G + 247), .int (nI i)] 255 (cellOf G S B (N, s, T)) (Rt G (some (.int (A.2.2.2.2 i 0 + A.2.2.2.2 i 2 - 1))) S B (N, s, T)) := by
  refine ct_of (by decide +kernel) rfl rfl (Nat.le_of_ble_eq_true rfl) (by simp [Value.category]) ?_
  refine x_sub (l' := [(0, .ref (gB G + 247)), (1, .int (nI i))]) ⟨rfl, rfl, trivial⟩ ?_
  refine x_aload_n (pc := 0) dX4_lastColumn_0 rfl ?_
  refine x_iload_n (pc := 1) dX4_lastColumn_1 rfl ?_
  refine x_iconst (pc := 2) (0) dX4_lastColumn_2 (by decide) ?_
  refine t_Vi (pc := 3) (c_X4_of hM (by first | assumption | omega) 0 (by decide)) qV_X4_of mL_X4_46 dX4_lastColumn_3 rfl cell_model (by decide) rfl rfl rfl ⟨by decide, by decide⟩ (Nat.le_of_ble_eq_true rfl) (Nat.le_of_ble_eq_true rfl) (Nat.le_of_ble_eq_true rfl) ?_
  refine x_aload_n (pc := 6) dX4_lastColumn_6 rfl ?_
  refine x_iload_n (pc := 7) dX4_lastColumn_7 rfl ?_
  refine x_iconst (pc := 8) (2) dX4_lastColumn_8 (by decide) ?_
  refine t_Vi (pc := 9) (c_X4_of hM (by first | assumption | omega) 2 (by decide)) qV_X4_of mL_X4_46 dX4_lastColumn_9 rfl cell_model (by decide) rfl rfl rfl ⟨by decide, by decide⟩ (Nat.le_of_ble_eq_true rfl) (Nat.le_of_ble_eq_true rfl) (Nat.le_of_ble_eq_true rfl) ?_
  refine x_iadd (pc := 12) dX4_lastColumn_12 ?_
  refine x_iconst (pc := 13) (1) dX4_lastColumn_13 (by decide) ?_
  refine x_isub (pc := 14) dX4_lastColumn_14 ?_
  exact x_iret rfl dX4_lastColumn_15 ⟨by rfl, rfl, rfl⟩
set_option maxHeartbeats 4000000 in
set_option maxRecDepth 100000 in
theorem c_X4_lastRow (hM : RM s A) (hi : i < A.1) : Ct G yX4_lastRow YX4_lastRow 0 0 [.ref (gB G + 247), .int (nI i)] 255 (cellOf G S B (N, s, T)) (Rt G (some (.int (A.2.2.2.2 i 1 + A.2.2.2.2 i 3 - 1))) S B (N, s, T)) := by
  refine ct_of (by decide +kernel) rfl rfl (Nat.le_of_ble_eq_true rfl) (by simp [Value.category]) ?_
  refine x_sub (l' := [(0, .ref (gB G + 247)), (1, .int (nI i))]) ⟨rfl, rfl, trivial⟩ ?_
  refine x_aload_n (pc := 0) dX4_lastRow_0 rfl ?_
  refine x_iload_n (pc := 1) dX4_lastRow_1 rfl ?_
  refine x_iconst (pc := 2) (1) dX4_lastRow_2 (by decide) ?_
  refine t_Vi (pc := 3) (c_X4_of hM (by first | assumption | omega) 1 (by decide)) qV_X4_of mL_X4_46 dX4_lastRow_3 rfl cell_model (by decide) rfl rfl rfl ⟨by decide, by decide⟩ (Nat.le_of_ble_eq_true rfl) (Nat.le_of_ble_eq_true rfl) (Nat.le_of_ble_eq_true rfl) ?_
  refine x_aload_n (pc := 6) dX4_lastRow_6 rfl ?_
  refine x_iload_n (pc := 7) dX4_lastRow_7 rfl ?_
  refine x_iconst (pc := 8) (3) dX4_lastRow_8 (by decide) ?_
  refine t_Vi (pc := 9) (c_X4_of hM (by first | assumption | omega) 3 (by decide)) qV_X4_of mL_X4_46 dX4_lastRow_9 rfl cell_model (by decide) rfl rfl rfl ⟨by decide, by decide⟩ (Nat.le_of_ble_eq_true rfl) (Nat.le_of_ble_eq_true rfl) (Nat.le_of_ble_eq_true rfl) ?_
  refine x_iadd (pc := 12) dX4_lastRow_12 ?_
  refine x_iconst (pc := 13) (1) dX4_lastRow_13 (by decide) ?_
  refine x_isub (pc := 14) dX4_lastRow_14 ?_
  exact x_iret rfl dX4_lastRow_15 ⟨by rfl, rfl, rfl⟩
set_option maxHeartbeats 4000000 in
set_option maxRecDepth 100000 in
theorem c_X4_isInside (hM : RM s A) (hF : vS A) (hi : i < A.1) (hk : k < A.1) : Ct G yX4_isInside YX4_isInside 0 0 [.ref (gB G + 247), .int (nI i), .int (nI k)] 255 (cellOf G S B (N, s, T)) (Rt G (some (.int (b01 (insB (A.2.2.2.2 i) (A.2.2.2.2 k))))) S B (N, s, T)) := by
  refine ct_of (by decide +kernel) rfl rfl (Nat.le_of_ble_eq_true rfl) (by simp [Value.category]) ?_
  refine x_sub (l' := [(0, .ref (gB G + 247)), (1, .int (nI i)), (2, .int (nI k))]) ⟨rfl, rfl, rfl, trivial⟩ ?_
  rw [← insR_eq (hF i hi) (hF k hk)]
  refine x_aload_n (pc := 0) dX4_isInside_0 rfl ?_
  refine x_iload_n (pc := 1) dX4_isInside_1 rfl ?_
  refine x_iconst (pc := 2) (0) dX4_isInside_2 (by decide) ?_
  refine t_Vi (pc := 3) (c_X4_of hM (by first | assumption | omega) 0 (by decide)) qV_X4_of mL_X4_46 dX4_isInside_3 rfl cell_model (by decide) rfl rfl rfl ⟨by decide, by decide⟩ (Nat.le_of_ble_eq_true rfl) (Nat.le_of_ble_eq_true rfl) (Nat.le_of_ble_eq_true rfl) ?_
  refine x_aload_n (pc := 6) dX4_isInside_6 rfl ?_
  refine x_iload_n (pc := 7) dX4_isInside_7 rfl ?_
  refine x_iconst (pc := 8) (0) dX4_isInside_8 (by decide) ?_
  refine t_Vi (pc := 9) (c_X4_of hM (by first | assumption | omega) 0 (by decide)) qV_X4_of mL_X4_46 dX4_isInside_9 rfl cell_model (by decide) rfl rfl rfl ⟨by decide, by decide⟩ (Nat.le_of_ble_eq_true rfl) (Nat.le_of_ble_eq_true rfl) (Nat.le_of_ble_eq_true rfl) ?_
  refine x_cmple (pc := 12) 32 dX4_isInside_12 (by decide) (fun c12 => ?_) (fun c12 => ?_)
  · refine x_iconst (pc := 32) (0) dX4_isInside_32 (by decide) ?_
    refine x_istore_n (pc := 33) dX4_isInside_33 (by decide) ?_
    refine x_iload_n (pc := 34) dX4_isInside_34 rfl ?_
    refine x_ifeq (pc := 35) 70 dX4_isInside_35 (by decide) (fun _ => ?_) (fun h => absurd h (by decide))
    refine x_iconst (pc := 70) (0) dX4_isInside_70 (by decide) ?_
    exact x_zret rfl rfl dX4_isInside_71 ⟨by simp only [b01, insR, *, decide_true, decide_false, decide_not, Bool.and_true, Bool.true_and, Bool.and_false, Bool.false_and, Bool.or_true, Bool.true_or, Bool.or_false, Bool.false_or, Bool.not_true, Bool.not_false, if_true, if_false, not_true, not_false_eq_true, not_false_iff, Bool.false_eq_true, reduceIte, or_true, true_or, or_false, false_or, and_true, true_and, and_false, false_and, ite_self], rfl, rfl⟩
  · refine x_aload_n (pc := 15) dX4_isInside_15 rfl ?_
    refine x_iload_n (pc := 16) dX4_isInside_16 rfl ?_
    refine t_Vi (pc := 17) (c_X4_lastColumn hM (by first | assumption | omega)) qV_X4_lastColumn mL_X4_52 dX4_isInside_17 rfl cell_model (by decide) rfl rfl rfl ⟨by decide, by decide⟩ (Nat.le_of_ble_eq_true rfl) (Nat.le_of_ble_eq_true rfl) (Nat.le_of_ble_eq_true rfl) ?_
    refine x_aload_n (pc := 20) dX4_isInside_20 rfl ?_
    refine x_iload_n (pc := 21) dX4_isInside_21 rfl ?_
    refine t_Vi (pc := 22) (c_X4_lastColumn hM (by first | assumption | omega)) qV_X4_lastColumn mL_X4_52 dX4_isInside_22 rfl cell_model (by decide) rfl rfl rfl ⟨by decide, by decide⟩ (Nat.le_of_ble_eq_true rfl) (Nat.le_of_ble_eq_true rfl) (Nat.le_of_ble_eq_true rfl) ?_
    refine x_cmpge (pc := 25) 32 dX4_isInside_25 (by decide) (fun c25 => ?_) (fun c25 => ?_)
    · refine x_iconst (pc := 32) (0) dX4_isInside_32 (by decide) ?_
      refine x_istore_n (pc := 33) dX4_isInside_33 (by decide) ?_
      refine x_iload_n (pc := 34) dX4_isInside_34 rfl ?_
      refine x_ifeq (pc := 35) 70 dX4_isInside_35 (by decide) (fun _ => ?_) (fun h => absurd h (by decide))
      refine x_iconst (pc := 70) (0) dX4_isInside_70 (by decide) ?_
      exact x_zret rfl rfl dX4_isInside_71 ⟨by simp only [b01, insR, *, decide_true, decide_false, decide_not, Bool.and_true, Bool.true_and, Bool.and_false, Bool.false_and, Bool.or_true, Bool.true_or, Bool.or_false, Bool.false_or, Bool.not_true, Bool.not_false, if_true, if_false, not_true, not_false_eq_true, not_false_iff, Bool.false_eq_true, reduceIte, or_true, true_or, or_false, false_or, and_true, true_and, and_false, false_and, ite_self], rfl, rfl⟩
    · refine x_iconst (pc := 28) (1) dX4_isInside_28 (by decide) ?_
      refine x_goto (pc := 29) 33 dX4_isInside_29 (by decide) ?_
      refine x_istore_n (pc := 33) dX4_isInside_33 (by decide) ?_
      refine x_iload_n (pc := 34) dX4_isInside_34 rfl ?_
      refine x_ifeq (pc := 35) 70 dX4_isInside_35 (by decide) (fun h => absurd h (by decide)) (fun _ => ?_)
      refine x_aload_n (pc := 38) dX4_isInside_38 rfl ?_
      refine x_iload_n (pc := 39) dX4_isInside_39 rfl ?_
      refine x_iconst (pc := 40) (1) dX4_isInside_40 (by decide) ?_
      refine t_Vi (pc := 41) (c_X4_of hM (by first | assumption | omega) 1 (by decide)) qV_X4_of mL_X4_46 dX4_isInside_41 rfl cell_model (by decide) rfl rfl rfl ⟨by decide, by decide⟩ (Nat.le_of_ble_eq_true rfl) (Nat.le_of_ble_eq_true rfl) (Nat.le_of_ble_eq_true rfl) ?_
      refine x_aload_n (pc := 44) dX4_isInside_44 rfl ?_
      refine x_iload_n (pc := 45) dX4_isInside_45 rfl ?_
      refine x_iconst (pc := 46) (1) dX4_isInside_46 (by decide) ?_
      refine t_Vi (pc := 47) (c_X4_of hM (by first | assumption | omega) 1 (by decide)) qV_X4_of mL_X4_46 dX4_isInside_47 rfl cell_model (by decide) rfl rfl rfl ⟨by decide, by decide⟩ (Nat.le_of_ble_eq_true rfl) (Nat.le_of_ble_eq_true rfl) (Nat.le_of_ble_eq_true rfl) ?_
      refine x_cmple (pc := 50) 70 dX4_isInside_50 (by decide) (fun c50 => ?_) (fun c50 => ?_)
      · refine x_iconst (pc := 70) (0) dX4_isInside_70 (by decide) ?_
        exact x_zret rfl rfl dX4_isInside_71 ⟨by simp only [b01, insR, *, decide_true, decide_false, decide_not, Bool.and_true, Bool.true_and, Bool.and_false, Bool.false_and, Bool.or_true, Bool.true_or, Bool.or_false, Bool.false_or, Bool.not_true, Bool.not_false, if_true, if_false, not_true, not_false_eq_true, not_false_iff, Bool.false_eq_true, reduceIte, or_true, true_or, or_false, false_or, and_true, true_and, and_false, false_and, ite_self], rfl, rfl⟩
      · refine x_aload_n (pc := 53) dX4_isInside_53 rfl ?_
        refine x_iload_n (pc := 54) dX4_isInside_54 rfl ?_
        refine t_Vi (pc := 55) (c_X4_lastRow hM (by first | assumption | omega)) qV_X4_lastRow mL_X4_56 dX4_isInside_55 rfl cell_model (by decide) rfl rfl rfl ⟨by decide, by decide⟩ (Nat.le_of_ble_eq_true rfl) (Nat.le_of_ble_eq_true rfl) (Nat.le_of_ble_eq_true rfl) ?_
        refine x_aload_n (pc := 58) dX4_isInside_58 rfl ?_
        refine x_iload_n (pc := 59) dX4_isInside_59 rfl ?_
        refine t_Vi (pc := 60) (c_X4_lastRow hM (by first | assumption | omega)) qV_X4_lastRow mL_X4_56 dX4_isInside_60 rfl cell_model (by decide) rfl rfl rfl ⟨by decide, by decide⟩ (Nat.le_of_ble_eq_true rfl) (Nat.le_of_ble_eq_true rfl) (Nat.le_of_ble_eq_true rfl) ?_
        refine x_cmpge (pc := 63) 70 dX4_isInside_63 (by decide) (fun c63 => ?_) (fun c63 => ?_)
        · refine x_iconst (pc := 70) (0) dX4_isInside_70 (by decide) ?_
          exact x_zret rfl rfl dX4_isInside_71 ⟨by simp only [b01, insR, *, decide_true, decide_false, decide_not, Bool.and_true, Bool.true_and, Bool.and_false, Bool.false_and, Bool.or_true, Bool.true_or, Bool.or_false, Bool.false_or, Bool.not_true, Bool.not_false, if_true, if_false, not_true, not_false_eq_true, not_false_iff, Bool.false_eq_true, reduceIte, or_true, true_or, or_false, false_or, and_true, true_and, and_false, false_and, ite_self], rfl, rfl⟩
        · refine x_iconst (pc := 66) (1) dX4_isInside_66 (by decide) ?_
          refine x_goto (pc := 67) 71 dX4_isInside_67 (by decide) ?_
          exact x_zret rfl rfl dX4_isInside_71 ⟨by simp only [b01, insR, *, decide_true, decide_false, decide_not, Bool.and_true, Bool.true_and, Bool.and_false, Bool.false_and, Bool.or_true, Bool.true_or, Bool.or_false, Bool.false_or, Bool.not_true, Bool.not_false, if_true, if_false, not_true, not_false_eq_true, not_false_iff, Bool.false_eq_true, reduceIte, or_true, true_or, or_false, false_or, and_true, true_and, and_false, false_and, ite_self], rfl, rfl⟩
set_option maxHeartbeats 4000000 in
set_option maxRecDepth 100000 in
theorem c_X4_edge (hM : RM s A) (hi : i < A.1) : Ct G yX4_edge YX4_edge 0 0 [.ref (gB G + 247), .int (nI i)] 255 (cellOf G S B (N, s, T)) (Rt G (some (.int (edgV (A.2.2.2.2 i)))) S B (N, s, T)) := by
  refine ct_of (by decide +kernel) rfl rfl (Nat.le_of_ble_eq_true rfl) (by simp [Value.category]) ?_
  refine x_sub (l' := [(0, .ref (gB G + 247)), (1, .int (nI i))]) ⟨rfl, rfl, trivial⟩ ?_
  refine x_iconst (pc := 0) (2) dX4_edge_0 (by decide) ?_
  refine x_aload_n (pc := 1) dX4_edge_1 rfl ?_
  refine x_iload_n (pc := 2) dX4_edge_2 rfl ?_
  refine x_iconst (pc := 3) (2) dX4_edge_3 (by decide) ?_
  refine t_Vi (pc := 4) (c_X4_of hM (by first | assumption | omega) 2 (by decide)) qV_X4_of mL_X4_46 dX4_edge_4 rfl cell_model (by decide) rfl rfl rfl ⟨by decide, by decide⟩ (Nat.le_of_ble_eq_true rfl) (Nat.le_of_ble_eq_true rfl) (Nat.le_of_ble_eq_true rfl) ?_
  refine x_aload_n (pc := 7) dX4_edge_7 rfl ?_
  refine x_iload_n (pc := 8) dX4_edge_8 rfl ?_
  refine x_iconst (pc := 9) (3) dX4_edge_9 (by decide) ?_
  refine t_Vi (pc := 10) (c_X4_of hM (by first | assumption | omega) 3 (by decide)) qV_X4_of mL_X4_46 dX4_edge_10 rfl cell_model (by decide) rfl rfl rfl ⟨by decide, by decide⟩ (Nat.le_of_ble_eq_true rfl) (Nat.le_of_ble_eq_true rfl) (Nat.le_of_ble_eq_true rfl) ?_
  refine x_iadd (pc := 13) dX4_edge_13 ?_
  refine x_imul (pc := 14) dX4_edge_14 ?_
  refine x_iconst (pc := 15) (4) dX4_edge_15 (by decide) ?_
  refine x_isub (pc := 16) dX4_edge_16 ?_
  exact x_iret rfl dX4_edge_17 ⟨by rfl, rfl, rfl⟩
set_option maxHeartbeats 4000000 in
set_option maxRecDepth 100000 in
theorem c_X4_isOnEdge (hM : RM s A) (hi : i < A.1) (c r : Int32) : Ct G yX4_isOnEdge YX4_isOnEdge 0 0 [.ref (gB G + 247), .int (nI i), .int c, .int r] 255 (cellOf G S B (N, s, T)) (Rt G (some (.int (b01 (onR (A.2.2.2.2 i) c r)))) S B (N, s, T)) := by
  refine ct_of (by decide +kernel) rfl rfl (Nat.le_of_ble_eq_true rfl) (by simp [Value.category]) ?_
  refine x_sub (l' := [(0, .ref (gB G + 247)), (1, .int (nI i)), (2, .int c), (3, .int r)]) ⟨rfl, rfl, rfl, rfl, trivial⟩ ?_
  refine x_iload_n (pc := 0) dX4_isOnEdge_0 rfl ?_
  refine x_aload_n (pc := 1) dX4_isOnEdge_1 rfl ?_
  refine x_iload_n (pc := 2) dX4_isOnEdge_2 rfl ?_
  refine x_iconst (pc := 3) (0) dX4_isOnEdge_3 (by decide) ?_
  refine t_Vi (pc := 4) (c_X4_of hM (by first | assumption | omega) 0 (by decide)) qV_X4_of mL_X4_46 dX4_isOnEdge_4 rfl cell_model (by decide) rfl rfl rfl ⟨by decide, by decide⟩ (Nat.le_of_ble_eq_true rfl) (Nat.le_of_ble_eq_true rfl) (Nat.le_of_ble_eq_true rfl) ?_
  refine x_aload_n (pc := 7) dX4_isOnEdge_7 rfl ?_
  refine x_iload_n (pc := 8) dX4_isOnEdge_8 rfl ?_
  refine t_Vi (pc := 9) (c_X4_lastColumn hM (by first | assumption | omega)) qV_X4_lastColumn mL_X4_52 dX4_isOnEdge_9 rfl cell_model (by decide) rfl rfl rfl ⟨by decide, by decide⟩ (Nat.le_of_ble_eq_true rfl) (Nat.le_of_ble_eq_true rfl) (Nat.le_of_ble_eq_true rfl) ?_
  refine t_Si (pc := 12) (c_X4_in _ _ _) qS_X4_in mL_X4_38 dX4_isOnEdge_12 rfl rfl rfl ⟨by decide, by decide⟩ (Nat.le_of_ble_eq_true rfl) (Nat.le_of_ble_eq_true rfl) (Nat.le_of_ble_eq_true rfl) ?_
  refine x_ifeq (pc := 15) 40 dX4_isOnEdge_15 (by decide) (fun c15 => ?_) (fun c15 => ?_)
  · have t15 := b01_eq c15
    refine x_iconst (pc := 40) (0) dX4_isOnEdge_40 (by decide) ?_
    refine x_istore (pc := 41) dX4_isOnEdge_41 (by decide) ?_
    refine x_iload (pc := 43) dX4_isOnEdge_43 rfl ?_
    refine x_ifeq (pc := 45) 90 dX4_isOnEdge_45 (by decide) (fun _ => ?_) (fun h => absurd h (by decide))
    refine x_iconst (pc := 90) (0) dX4_isOnEdge_90 (by decide) ?_
    first
    | (have z := t83; exact x_zret rfl rfl dX4_isOnEdge_91 ⟨by simp only [onR, t15, t33, t55, t64, t74, t83, decide_true, decide_false, decide_not, Bool.and_true, Bool.true_and, Bool.and_false, Bool.false_and, Bool.or_true, Bool.true_or, Bool.or_false, Bool.false_or, Bool.not_true, Bool.not_false, if_true, if_false, not_true, not_false_eq_true, not_false_iff, Bool.false_eq_true, reduceIte, or_true, true_or, or_false, false_or, and_true, true_and, and_false, false_and, ite_self, b01_1, b01_0], rfl, rfl⟩)
    | (have z := t74; exact x_zret rfl rfl dX4_isOnEdge_91 ⟨by simp only [onR, t15, t33, t55, t64, t74, decide_true, decide_false, decide_not, Bool.and_true, Bool.true_and, Bool.and_false, Bool.false_and, Bool.or_true, Bool.true_or, Bool.or_false, Bool.false_or, Bool.not_true, Bool.not_false, if_true, if_false, not_true, not_false_eq_true, not_false_iff, Bool.false_eq_true, reduceIte, or_true, true_or, or_false, false_or, and_true, true_and, and_false, false_and, ite_self, b01_1, b01_0], rfl, rfl⟩)
    | (have z := t64; exact x_zret rfl rfl dX4_isOnEdge_91 ⟨by simp only [onR, t15, t33, t55, t64, decide_true, decide_false, decide_not, Bool.and_true, Bool.true_and, Bool.and_false, Bool.false_and, Bool.or_true, Bool.true_or, Bool.or_false, Bool.false_or, Bool.not_true, Bool.not_false, if_true, if_false, not_true, not_false_eq_true, not_false_iff, Bool.false_eq_true, reduceIte, or_true, true_or, or_false, false_or, and_true, true_and, and_false, false_and, ite_self, b01_1, b01_0], rfl, rfl⟩)
    | (have z := t55; exact x_zret rfl rfl dX4_isOnEdge_91 ⟨by simp only [onR, t15, t33, t55, decide_true, decide_false, decide_not, Bool.and_true, Bool.true_and, Bool.and_false, Bool.false_and, Bool.or_true, Bool.true_or, Bool.or_false, Bool.false_or, Bool.not_true, Bool.not_false, if_true, if_false, not_true, not_false_eq_true, not_false_iff, Bool.false_eq_true, reduceIte, or_true, true_or, or_false, false_or, and_true, true_and, and_false, false_and, ite_self, b01_1, b01_0], rfl, rfl⟩)
    | (have z := t33; exact x_zret rfl rfl dX4_isOnEdge_91 ⟨by simp only [onR, t15, t33, decide_true, decide_false, decide_not, Bool.and_true, Bool.true_and, Bool.and_false, Bool.false_and, Bool.or_true, Bool.true_or, Bool.or_false, Bool.false_or, Bool.not_true, Bool.not_false, if_true, if_false, not_true, not_false_eq_true, not_false_iff, Bool.false_eq_true, reduceIte, or_true, true_or, or_false, false_or, and_true, true_and, and_false, false_and, ite_self, b01_1, b01_0], rfl, rfl⟩)
    | (have z := t15; exact x_zret rfl rfl dX4_isOnEdge_91 ⟨by simp only [onR, t15, decide_true, decide_false, decide_not, Bool.and_true, Bool.true_and, Bool.and_false, Bool.false_and, Bool.or_true, Bool.true_or, Bool.or_false, Bool.false_or, Bool.not_true, Bool.not_false, if_true, if_false, not_true, not_false_eq_true, not_false_iff, Bool.false_eq_true, reduceIte, or_true, true_or, or_false, false_or, and_true, true_and, and_false, false_and, ite_self, b01_1, b01_0], rfl, rfl⟩)
  · have t15 := b01_ne c15
    refine x_iload_n (pc := 18) dX4_isOnEdge_18 rfl ?_
    refine x_aload_n (pc := 19) dX4_isOnEdge_19 rfl ?_
    refine x_iload_n (pc := 20) dX4_isOnEdge_20 rfl ?_
    refine x_iconst (pc := 21) (1) dX4_isOnEdge_21 (by decide) ?_
    refine t_Vi (pc := 22) (c_X4_of hM (by first | assumption | omega) 1 (by decide)) qV_X4_of mL_X4_46 dX4_isOnEdge_22 rfl cell_model (by decide) rfl rfl rfl ⟨by decide, by decide⟩ (Nat.le_of_ble_eq_true rfl) (Nat.le_of_ble_eq_true rfl) (Nat.le_of_ble_eq_true rfl) ?_
    refine x_aload_n (pc := 25) dX4_isOnEdge_25 rfl ?_
    refine x_iload_n (pc := 26) dX4_isOnEdge_26 rfl ?_
    refine t_Vi (pc := 27) (c_X4_lastRow hM (by first | assumption | omega)) qV_X4_lastRow mL_X4_56 dX4_isOnEdge_27 rfl cell_model (by decide) rfl rfl rfl ⟨by decide, by decide⟩ (Nat.le_of_ble_eq_true rfl) (Nat.le_of_ble_eq_true rfl) (Nat.le_of_ble_eq_true rfl) ?_
    refine t_Si (pc := 30) (c_X4_in _ _ _) qS_X4_in mL_X4_38 dX4_isOnEdge_30 rfl rfl rfl ⟨by decide, by decide⟩ (Nat.le_of_ble_eq_true rfl) (Nat.le_of_ble_eq_true rfl) (Nat.le_of_ble_eq_true rfl) ?_
    refine x_ifeq (pc := 33) 40 dX4_isOnEdge_33 (by decide) (fun c33 => ?_) (fun c33 => ?_)
    · have t33 := b01_eq c33
      refine x_iconst (pc := 40) (0) dX4_isOnEdge_40 (by decide) ?_
      refine x_istore (pc := 41) dX4_isOnEdge_41 (by decide) ?_
      refine x_iload (pc := 43) dX4_isOnEdge_43 rfl ?_
      refine x_ifeq (pc := 45) 90 dX4_isOnEdge_45 (by decide) (fun _ => ?_) (fun h => absurd h (by decide))
      refine x_iconst (pc := 90) (0) dX4_isOnEdge_90 (by decide) ?_
      first
      | (have z := t83; exact x_zret rfl rfl dX4_isOnEdge_91 ⟨by simp only [onR, t15, t33, t55, t64, t74, t83, decide_true, decide_false, decide_not, Bool.and_true, Bool.true_and, Bool.and_false, Bool.false_and, Bool.or_true, Bool.true_or, Bool.or_false, Bool.false_or, Bool.not_true, Bool.not_false, if_true, if_false, not_true, not_false_eq_true, not_false_iff, Bool.false_eq_true, reduceIte, or_true, true_or, or_false, false_or, and_true, true_and, and_false, false_and, ite_self, b01_1, b01_0], rfl, rfl⟩)
      | (have z := t74; exact x_zret rfl rfl dX4_isOnEdge_91 ⟨by simp only [onR, t15, t33, t55, t64, t74, decide_true, decide_false, decide_not, Bool.and_true, Bool.true_and, Bool.and_false, Bool.false_and, Bool.or_true, Bool.true_or, Bool.or_false, Bool.false_or, Bool.not_true, Bool.not_false, if_true, if_false, not_true, not_false_eq_true, not_false_iff, Bool.false_eq_true, reduceIte, or_true, true_or, or_false, false_or, and_true, true_and, and_false, false_and, ite_self, b01_1, b01_0], rfl, rfl⟩)
      | (have z := t64; exact x_zret rfl rfl dX4_isOnEdge_91 ⟨by simp only [onR, t15, t33, t55, t64, decide_true, decide_false, decide_not, Bool.and_true, Bool.true_and, Bool.and_false, Bool.false_and, Bool.or_true, Bool.true_or, Bool.or_false, Bool.false_or, Bool.not_true, Bool.not_false, if_true, if_false, not_true, not_false_eq_true, not_false_iff, Bool.false_eq_true, reduceIte, or_true, true_or, or_false, false_or, and_true, true_and, and_false, false_and, ite_self, b01_1, b01_0], rfl, rfl⟩)
      | (have z := t55; exact x_zret rfl rfl dX4_isOnEdge_91 ⟨by simp only [onR, t15, t33, t55, decide_true, decide_false, decide_not, Bool.and_true, Bool.true_and, Bool.and_false, Bool.false_and, Bool.or_true, Bool.true_or, Bool.or_false, Bool.false_or, Bool.not_true, Bool.not_false, if_true, if_false, not_true, not_false_eq_true, not_false_iff, Bool.false_eq_true, reduceIte, or_true, true_or, or_false, false_or, and_true, true_and, and_false, false_and, ite_self, b01_1, b01_0], rfl, rfl⟩)
      | (have z := t33; exact x_zret rfl rfl dX4_isOnEdge_91 ⟨by simp only [onR, t15, t33, decide_true, decide_false, decide_not, Bool.and_true, Bool.true_and, Bool.and_false, Bool.false_and, Bool.or_true, Bool.true_or, Bool.or_false, Bool.false_or, Bool.not_true, Bool.not_false, if_true, if_false, not_true, not_false_eq_true, not_false_iff, Bool.false_eq_true, reduceIte, or_true, true_or, or_false, false_or, and_true, true_and, and_false, false_and, ite_self, b01_1, b01_0], rfl, rfl⟩)
      | (have z := t15; exact x_zret rfl rfl dX4_isOnEdge_91 ⟨by simp only [onR, t15, decide_true, decide_false, decide_not, Bool.and_true, Bool.true_and, Bool.and_false, Bool.false_and, Bool.or_true, Bool.true_or, Bool.or_false, Bool.false_or, Bool.not_true, Bool.not_false, if_true, if_false, not_true, not_false_eq_true, not_false_iff, Bool.false_eq_true, reduceIte, or_true, true_or, or_false, false_or, and_true, true_and, and_false, false_and, ite_self, b01_1, b01_0], rfl, rfl⟩)
    · have t33 := b01_ne c33
      refine x_iconst (pc := 36) (1) dX4_isOnEdge_36 (by decide) ?_
      refine x_goto (pc := 37) 41 dX4_isOnEdge_37 (by decide) ?_
      refine x_istore (pc := 41) dX4_isOnEdge_41 (by decide) ?_
      refine x_iload (pc := 43) dX4_isOnEdge_43 rfl ?_
      refine x_ifeq (pc := 45) 90 dX4_isOnEdge_45 (by decide) (fun h => absurd h (by decide)) (fun _ => ?_)
      refine x_iload_n (pc := 48) dX4_isOnEdge_48 rfl ?_
      refine x_aload_n (pc := 49) dX4_isOnEdge_49 rfl ?_
      refine x_iload_n (pc := 50) dX4_isOnEdge_50 rfl ?_
      refine x_iconst (pc := 51) (0) dX4_isOnEdge_51 (by decide) ?_
      refine t_Vi (pc := 52) (c_X4_of hM (by first | assumption | omega) 0 (by decide)) qV_X4_of mL_X4_46 dX4_isOnEdge_52 rfl cell_model (by decide) rfl rfl rfl ⟨by decide, by decide⟩ (Nat.le_of_ble_eq_true rfl) (Nat.le_of_ble_eq_true rfl) (Nat.le_of_ble_eq_true rfl) ?_
      refine x_cmpeq (pc := 55) 86 dX4_isOnEdge_55 (by decide) (fun c55 => ?_) (fun c55 => ?_)
      · have t55 := decide_eq_true c55
        refine x_iconst (pc := 86) (1) dX4_isOnEdge_86 (by decide) ?_
        refine x_goto (pc := 87) 91 dX4_isOnEdge_87 (by decide) ?_
        first
        | (have z := t83; exact x_zret rfl rfl dX4_isOnEdge_91 ⟨by simp only [onR, t15, t33, t55, t64, t74, t83, decide_true, decide_false, decide_not, Bool.and_true, Bool.true_and, Bool.and_false, Bool.false_and, Bool.or_true, Bool.true_or, Bool.or_false, Bool.false_or, Bool.not_true, Bool.not_false, if_true, if_false, not_true, not_false_eq_true, not_false_iff, Bool.false_eq_true, reduceIte, or_true, true_or, or_false, false_or, and_true, true_and, and_false, false_and, ite_self, b01_1, b01_0], rfl, rfl⟩)
        | (have z := t74; exact x_zret rfl rfl dX4_isOnEdge_91 ⟨by simp only [onR, t15, t33, t55, t64, t74, decide_true, decide_false, decide_not, Bool.and_true, Bool.true_and, Bool.and_false, Bool.false_and, Bool.or_true, Bool.true_or, Bool.or_false, Bool.false_or, Bool.not_true, Bool.not_false, if_true, if_false, not_true, not_false_eq_true, not_false_iff, Bool.false_eq_true, reduceIte, or_true, true_or, or_false, false_or, and_true, true_and, and_false, false_and, ite_self, b01_1, b01_0], rfl, rfl⟩)
        | (have z := t64; exact x_zret rfl rfl dX4_isOnEdge_91 ⟨by simp only [onR, t15, t33, t55, t64, decide_true, decide_false, decide_not, Bool.and_true, Bool.true_and, Bool.and_false, Bool.false_and, Bool.or_true, Bool.true_or, Bool.or_false, Bool.false_or, Bool.not_true, Bool.not_false, if_true, if_false, not_true, not_false_eq_true, not_false_iff, Bool.false_eq_true, reduceIte, or_true, true_or, or_false, false_or, and_true, true_and, and_false, false_and, ite_self, b01_1, b01_0], rfl, rfl⟩)
        | (have z := t55; exact x_zret rfl rfl dX4_isOnEdge_91 ⟨by simp only [onR, t15, t33, t55, decide_true, decide_false, decide_not, Bool.and_true, Bool.true_and, Bool.and_false, Bool.false_and, Bool.or_true, Bool.true_or, Bool.or_false, Bool.false_or, Bool.not_true, Bool.not_false, if_true, if_false, not_true, not_false_eq_true, not_false_iff, Bool.false_eq_true, reduceIte, or_true, true_or, or_false, false_or, and_true, true_and, and_false, false_and, ite_self, b01_1, b01_0], rfl, rfl⟩)
        | (have z := t33; exact x_zret rfl rfl dX4_isOnEdge_91 ⟨by simp only [onR, t15, t33, decide_true, decide_false, decide_not, Bool.and_true, Bool.true_and, Bool.and_false, Bool.false_and, Bool.or_true, Bool.true_or, Bool.or_false, Bool.false_or, Bool.not_true, Bool.not_false, if_true, if_false, not_true, not_false_eq_true, not_false_iff, Bool.false_eq_true, reduceIte, or_true, true_or, or_false, false_or, and_true, true_and, and_false, false_and, ite_self, b01_1, b01_0], rfl, rfl⟩)
        | (have z := t15; exact x_zret rfl rfl dX4_isOnEdge_91 ⟨by simp only [onR, t15, decide_true, decide_false, decide_not, Bool.and_true, Bool.true_and, Bool.and_false, Bool.false_and, Bool.or_true, Bool.true_or, Bool.or_false, Bool.false_or, Bool.not_true, Bool.not_false, if_true, if_false, not_true, not_false_eq_true, not_false_iff, Bool.false_eq_true, reduceIte, or_true, true_or, or_false, false_or, and_true, true_and, and_false, false_and, ite_self, b01_1, b01_0], rfl, rfl⟩)
      · have t55 := decide_eq_false c55
        refine x_iload_n (pc := 58) dX4_isOnEdge_58 rfl ?_
        refine x_aload_n (pc := 59) dX4_isOnEdge_59 rfl ?_
        refine x_iload_n (pc := 60) dX4_isOnEdge_60 rfl ?_
        refine t_Vi (pc := 61) (c_X4_lastColumn hM (by first | assumption | omega)) qV_X4_lastColumn mL_X4_52 dX4_isOnEdge_61 rfl cell_model (by decide) rfl rfl rfl ⟨by decide, by decide⟩ (Nat.le_of_ble_eq_true rfl) (Nat.le_of_ble_eq_true rfl) (Nat.le_of_ble_eq_true rfl) ?_
        refine x_cmpeq (pc := 64) 86 dX4_isOnEdge_64 (by decide) (fun c64 => ?_) (fun c64 => ?_)
        · have t64 := decide_eq_true c64
          refine x_iconst (pc := 86) (1) dX4_isOnEdge_86 (by decide) ?_
          refine x_goto (pc := 87) 91 dX4_isOnEdge_87 (by decide) ?_
          first
          | (have z := t83; exact x_zret rfl rfl dX4_isOnEdge_91 ⟨by simp only [onR, t15, t33, t55, t64, t74, t83, decide_true, decide_false, decide_not, Bool.and_true, Bool.true_and, Bool.and_false, Bool.false_and, Bool.or_true, Bool.true_or, Bool.or_false, Bool.false_or, Bool.not_true, Bool.not_false, if_true, if_false, not_true, not_false_eq_true, not_false_iff, Bool.false_eq_true, reduceIte, or_true, true_or, or_false, false_or, and_true, true_and, and_false, false_and, ite_self, b01_1, b01_0], rfl, rfl⟩)
          | (have z := t74; exact x_zret rfl rfl dX4_isOnEdge_91 ⟨by simp only [onR, t15, t33, t55, t64, t74, decide_true, decide_false, decide_not, Bool.and_true, Bool.true_and, Bool.and_false, Bool.false_and, Bool.or_true, Bool.true_or, Bool.or_false, Bool.false_or, Bool.not_true, Bool.not_false, if_true, if_false, not_true, not_false_eq_true, not_false_iff, Bool.false_eq_true, reduceIte, or_true, true_or, or_false, false_or, and_true, true_and, and_false, false_and, ite_self, b01_1, b01_0], rfl, rfl⟩)
          | (have z := t64; exact x_zret rfl rfl dX4_isOnEdge_91 ⟨by simp only [onR, t15, t33, t55, t64, decide_true, decide_false, decide_not, Bool.and_true, Bool.true_and, Bool.and_false, Bool.false_and, Bool.or_true, Bool.true_or, Bool.or_false, Bool.false_or, Bool.not_true, Bool.not_false, if_true, if_false, not_true, not_false_eq_true, not_false_iff, Bool.false_eq_true, reduceIte, or_true, true_or, or_false, false_or, and_true, true_and, and_false, false_and, ite_self, b01_1, b01_0], rfl, rfl⟩)
          | (have z := t55; exact x_zret rfl rfl dX4_isOnEdge_91 ⟨by simp only [onR, t15, t33, t55, decide_true, decide_false, decide_not, Bool.and_true, Bool.true_and, Bool.and_false, Bool.false_and, Bool.or_true, Bool.true_or, Bool.or_false, Bool.false_or, Bool.not_true, Bool.not_false, if_true, if_false, not_true, not_false_eq_true, not_false_iff, Bool.false_eq_true, reduceIte, or_true, true_or, or_false, false_or, and_true, true_and, and_false, false_and, ite_self, b01_1, b01_0], rfl, rfl⟩)
          | (have z := t33; exact x_zret rfl rfl dX4_isOnEdge_91 ⟨by simp only [onR, t15, t33, decide_true, decide_false, decide_not, Bool.and_true, Bool.true_and, Bool.and_false, Bool.false_and, Bool.or_true, Bool.true_or, Bool.or_false, Bool.false_or, Bool.not_true, Bool.not_false, if_true, if_false, not_true, not_false_eq_true, not_false_iff, Bool.false_eq_true, reduceIte, or_true, true_or, or_false, false_or, and_true, true_and, and_false, false_and, ite_self, b01_1, b01_0], rfl, rfl⟩)
          | (have z := t15; exact x_zret rfl rfl dX4_isOnEdge_91 ⟨by simp only [onR, t15, decide_true, decide_false, decide_not, Bool.and_true, Bool.true_and, Bool.and_false, Bool.false_and, Bool.or_true, Bool.true_or, Bool.or_false, Bool.false_or, Bool.not_true, Bool.not_false, if_true, if_false, not_true, not_false_eq_true, not_false_iff, Bool.false_eq_true, reduceIte, or_true, true_or, or_false, false_or, and_true, true_and, and_false, false_and, ite_self, b01_1, b01_0], rfl, rfl⟩)
        · have t64 := decide_eq_false c64
          refine x_iload_n (pc := 67) dX4_isOnEdge_67 rfl ?_
          refine x_aload_n (pc := 68) dX4_isOnEdge_68 rfl ?_
          refine x_iload_n (pc := 69) dX4_isOnEdge_69 rfl ?_
          refine x_iconst (pc := 70) (1) dX4_isOnEdge_70 (by decide) ?_
          refine t_Vi (pc := 71) (c_X4_of hM (by first | assumption | omega) 1 (by decide)) qV_X4_of mL_X4_46 dX4_isOnEdge_71 rfl cell_model (by decide) rfl rfl rfl ⟨by decide, by decide⟩ (Nat.le_of_ble_eq_true rfl) (Nat.le_of_ble_eq_true rfl) (Nat.le_of_ble_eq_true rfl) ?_
          refine x_cmpeq (pc := 74) 86 dX4_isOnEdge_74 (by decide) (fun c74 => ?_) (fun c74 => ?_)
          · have t74 := decide_eq_true c74
            refine x_iconst (pc := 86) (1) dX4_isOnEdge_86 (by decide) ?_
            refine x_goto (pc := 87) 91 dX4_isOnEdge_87 (by decide) ?_
            first
            | (have z := t83; exact x_zret rfl rfl dX4_isOnEdge_91 ⟨by simp only [onR, t15, t33, t55, t64, t74, t83, decide_true, decide_false, decide_not, Bool.and_true, Bool.true_and, Bool.and_false, Bool.false_and, Bool.or_true, Bool.true_or, Bool.or_false, Bool.false_or, Bool.not_true, Bool.not_false, if_true, if_false, not_true, not_false_eq_true, not_false_iff, Bool.false_eq_true, reduceIte, or_true, true_or, or_false, false_or, and_true, true_and, and_false, false_and, ite_self, b01_1, b01_0], rfl, rfl⟩)
            | (have z := t74; exact x_zret rfl rfl dX4_isOnEdge_91 ⟨by simp only [onR, t15, t33, t55, t64, t74, decide_true, decide_false, decide_not, Bool.and_true, Bool.true_and, Bool.and_false, Bool.false_and, Bool.or_true, Bool.true_or, Bool.or_false, Bool.false_or, Bool.not_true, Bool.not_false, if_true, if_false, not_true, not_false_eq_true, not_false_iff, Bool.false_eq_true, reduceIte, or_true, true_or, or_false, false_or, and_true, true_and, and_false, false_and, ite_self, b01_1, b01_0], rfl, rfl⟩)
            | (have z := t64; exact x_zret rfl rfl dX4_isOnEdge_91 ⟨by simp only [onR, t15, t33, t55, t64, decide_true, decide_false, decide_not, Bool.and_true, Bool.true_and, Bool.and_false, Bool.false_and, Bool.or_true, Bool.true_or, Bool.or_false, Bool.false_or, Bool.not_true, Bool.not_false, if_true, if_false, not_true, not_false_eq_true, not_false_iff, Bool.false_eq_true, reduceIte, or_true, true_or, or_false, false_or, and_true, true_and, and_false, false_and, ite_self, b01_1, b01_0], rfl, rfl⟩)
            | (have z := t55; exact x_zret rfl rfl dX4_isOnEdge_91 ⟨by simp only [onR, t15, t33, t55, decide_true, decide_false, decide_not, Bool.and_true, Bool.true_and, Bool.and_false, Bool.false_and, Bool.or_true, Bool.true_or, Bool.or_false, Bool.false_or, Bool.not_true, Bool.not_false, if_true, if_false, not_true, not_false_eq_true, not_false_iff, Bool.false_eq_true, reduceIte, or_true, true_or, or_false, false_or, and_true, true_and, and_false, false_and, ite_self, b01_1, b01_0], rfl, rfl⟩)
            | (have z := t33; exact x_zret rfl rfl dX4_isOnEdge_91 ⟨by simp only [onR, t15, t33, decide_true, decide_false, decide_not, Bool.and_true, Bool.true_and, Bool.and_false, Bool.false_and, Bool.or_true, Bool.true_or, Bool.or_false, Bool.false_or, Bool.not_true, Bool.not_false, if_true, if_false, not_true, not_false_eq_true, not_false_iff, Bool.false_eq_true, reduceIte, or_true, true_or, or_false, false_or, and_true, true_and, and_false, false_and, ite_self, b01_1, b01_0], rfl, rfl⟩)
            | (have z := t15; exact x_zret rfl rfl dX4_isOnEdge_91 ⟨by simp only [onR, t15, decide_true, decide_false, decide_not, Bool.and_true, Bool.true_and, Bool.and_false, Bool.false_and, Bool.or_true, Bool.true_or, Bool.or_false, Bool.false_or, Bool.not_true, Bool.not_false, if_true, if_false, not_true, not_false_eq_true, not_false_iff, Bool.false_eq_true, reduceIte, or_true, true_or, or_false, false_or, and_true, true_and, and_false, false_and, ite_self, b01_1, b01_0], rfl, rfl⟩)
          · have t74 := decide_eq_false c74
            refine x_iload_n (pc := 77) dX4_isOnEdge_77 rfl ?_
            refine x_aload_n (pc := 78) dX4_isOnEdge_78 rfl ?_
            refine x_iload_n (pc := 79) dX4_isOnEdge_79 rfl ?_
            refine t_Vi (pc := 80) (c_X4_lastRow hM (by first | assumption | omega)) qV_X4_lastRow mL_X4_56 dX4_isOnEdge_80 rfl cell_model (by decide) rfl rfl rfl ⟨by decide, by decide⟩ (Nat.le_of_ble_eq_true rfl) (Nat.le_of_ble_eq_true rfl) (Nat.le_of_ble_eq_true rfl) ?_
            refine x_cmpne (pc := 83) 90 dX4_isOnEdge_83 (by decide) (fun c83 => ?_) (fun c83 => ?_)
            · have t83 := decide_eq_false c83
              refine x_iconst (pc := 90) (0) dX4_isOnEdge_90 (by decide) ?_
              first
              | (have z := t83; exact x_zret rfl rfl dX4_isOnEdge_91 ⟨by simp only [onR, t15, t33, t55, t64, t74, t83, decide_true, decide_false, decide_not, Bool.and_true, Bool.true_and, Bool.and_false, Bool.false_and, Bool.or_true, Bool.true_or, Bool.or_false, Bool.false_or, Bool.not_true, Bool.not_false, if_true, if_false, not_true, not_false_eq_true, not_false_iff, Bool.false_eq_true, reduceIte, or_true, true_or, or_false, false_or, and_true, true_and, and_false, false_and, ite_self, b01_1, b01_0], rfl, rfl⟩)
              | (have z := t74; exact x_zret rfl rfl dX4_isOnEdge_91 ⟨by simp only [onR, t15, t33, t55, t64, t74, decide_true, decide_false, decide_not, Bool.and_true, Bool.true_and, Bool.and_false, Bool.false_and, Bool.or_true, Bool.true_or, Bool.or_false, Bool.false_or, Bool.not_true, Bool.not_false, if_true, if_false, not_true, not_false_eq_true, not_false_iff, Bool.false_eq_true, reduceIte, or_true, true_or, or_false, false_or, and_true, true_and, and_false, false_and, ite_self, b01_1, b01_0], rfl, rfl⟩)
              | (have z := t64; exact x_zret rfl rfl dX4_isOnEdge_91 ⟨by simp only [onR, t15, t33, t55, t64, decide_true, decide_false, decide_not, Bool.and_true, Bool.true_and, Bool.and_false, Bool.false_and, Bool.or_true, Bool.true_or, Bool.or_false, Bool.false_or, Bool.not_true, Bool.not_false, if_true, if_false, not_true, not_false_eq_true, not_false_iff, Bool.false_eq_true, reduceIte, or_true, true_or, or_false, false_or, and_true, true_and, and_false, false_and, ite_self, b01_1, b01_0], rfl, rfl⟩)
              | (have z := t55; exact x_zret rfl rfl dX4_isOnEdge_91 ⟨by simp only [onR, t15, t33, t55, decide_true, decide_false, decide_not, Bool.and_true, Bool.true_and, Bool.and_false, Bool.false_and, Bool.or_true, Bool.true_or, Bool.or_false, Bool.false_or, Bool.not_true, Bool.not_false, if_true, if_false, not_true, not_false_eq_true, not_false_iff, Bool.false_eq_true, reduceIte, or_true, true_or, or_false, false_or, and_true, true_and, and_false, false_and, ite_self, b01_1, b01_0], rfl, rfl⟩)
              | (have z := t33; exact x_zret rfl rfl dX4_isOnEdge_91 ⟨by simp only [onR, t15, t33, decide_true, decide_false, decide_not, Bool.and_true, Bool.true_and, Bool.and_false, Bool.false_and, Bool.or_true, Bool.true_or, Bool.or_false, Bool.false_or, Bool.not_true, Bool.not_false, if_true, if_false, not_true, not_false_eq_true, not_false_iff, Bool.false_eq_true, reduceIte, or_true, true_or, or_false, false_or, and_true, true_and, and_false, false_and, ite_self, b01_1, b01_0], rfl, rfl⟩)
              | (have z := t15; exact x_zret rfl rfl dX4_isOnEdge_91 ⟨by simp only [onR, t15, decide_true, decide_false, decide_not, Bool.and_true, Bool.true_and, Bool.and_false, Bool.false_and, Bool.or_true, Bool.true_or, Bool.or_false, Bool.false_or, Bool.not_true, Bool.not_false, if_true, if_false, not_true, not_false_eq_true, not_false_iff, Bool.false_eq_true, reduceIte, or_true, true_or, or_false, false_or, and_true, true_and, and_false, false_and, ite_self, b01_1, b01_0], rfl, rfl⟩)
            · have t83 := decide_eq_true c83
              refine x_iconst (pc := 86) (1) dX4_isOnEdge_86 (by decide) ?_
              refine x_goto (pc := 87) 91 dX4_isOnEdge_87 (by decide) ?_
              first
              | (have z := t83; exact x_zret rfl rfl dX4_isOnEdge_91 ⟨by simp only [onR, t15, t33, t55, t64, t74, t83, decide_true, decide_false, decide_not, Bool.and_true, Bool.true_and, Bool.and_false, Bool.false_and, Bool.or_true, Bool.true_or, Bool.or_false, Bool.false_or, Bool.not_true, Bool.not_false, if_true, if_false, not_true, not_false_eq_true, not_false_iff, Bool.false_eq_true, reduceIte, or_true, true_or, or_false, false_or, and_true, true_and, and_false, false_and, ite_self, b01_1, b01_0], rfl, rfl⟩)
              | (have z := t74; exact x_zret rfl rfl dX4_isOnEdge_91 ⟨by simp only [onR, t15, t33, t55, t64, t74, decide_true, decide_false, decide_not, Bool.and_true, Bool.true_and, Bool.and_false, Bool.false_and, Bool.or_true, Bool.true_or, Bool.or_false, Bool.false_or, Bool.not_true, Bool.not_false, if_true, if_false, not_true, not_false_eq_true, not_false_iff, Bool.false_eq_true, reduceIte, or_true, true_or, or_false, false_or, and_true, true_and, and_false, false_and, ite_self, b01_1, b01_0], rfl, rfl⟩)
              | (have z := t64; exact x_zret rfl rfl dX4_isOnEdge_91 ⟨by simp only [onR, t15, t33, t55, t64, decide_true, decide_false, decide_not, Bool.and_true, Bool.true_and, Bool.and_false, Bool.false_and, Bool.or_true, Bool.true_or, Bool.or_false, Bool.false_or, Bool.not_true, Bool.not_false, if_true, if_false, not_true, not_false_eq_true, not_false_iff, Bool.false_eq_true, reduceIte, or_true, true_or, or_false, false_or, and_true, true_and, and_false, false_and, ite_self, b01_1, b01_0], rfl, rfl⟩)
              | (have z := t55; exact x_zret rfl rfl dX4_isOnEdge_91 ⟨by simp only [onR, t15, t33, t55, decide_true, decide_false, decide_not, Bool.and_true, Bool.true_and, Bool.and_false, Bool.false_and, Bool.or_true, Bool.true_or, Bool.or_false, Bool.false_or, Bool.not_true, Bool.not_false, if_true, if_false, not_true, not_false_eq_true, not_false_iff, Bool.false_eq_true, reduceIte, or_true, true_or, or_false, false_or, and_true, true_and, and_false, false_and, ite_self, b01_1, b01_0], rfl, rfl⟩)
              | (have z := t33; exact x_zret rfl rfl dX4_isOnEdge_91 ⟨by simp only [onR, t15, t33, decide_true, decide_false, decide_not, Bool.and_true, Bool.true_and, Bool.and_false, Bool.false_and, Bool.or_true, Bool.true_or, Bool.or_false, Bool.false_or, Bool.not_true, Bool.not_false, if_true, if_false, not_true, not_false_eq_true, not_false_iff, Bool.false_eq_true, reduceIte, or_true, true_or, or_false, false_or, and_true, true_and, and_false, false_and, ite_self, b01_1, b01_0], rfl, rfl⟩)
              | (have z := t15; exact x_zret rfl rfl dX4_isOnEdge_91 ⟨by simp only [onR, t15, decide_true, decide_false, decide_not, Bool.and_true, Bool.true_and, Bool.and_false, Bool.false_and, Bool.or_true, Bool.true_or, Bool.or_false, Bool.false_or, Bool.not_true, Bool.not_false, if_true, if_false, not_true, not_false_eq_true, not_false_iff, Bool.false_eq_true, reduceIte, or_true, true_or, or_false, false_or, and_true, true_and, and_false, false_and, ite_self, b01_1, b01_0], rfl, rfl⟩)
set_option maxHeartbeats 4000000 in
set_option maxRecDepth 100000 in
theorem c_X4_edgeIn {q : Nat} (hM : RM s A) (hF : vS A) (hi : i < A.1) (hq : q < 12) : Ct G yX4_edgeIn YX4_edgeIn 0 0 [.ref (gB G + 247), .int (nI i), .int (nI q)] 255 (cellOf G S B (N, s, T)) (Rt G (some (.int (edgQ (A.2.2.2.2 i) q))) S B (N, s, T)) := by
  refine ct_of (by decide +kernel) rfl rfl (Nat.le_of_ble_eq_true rfl) (by simp [Value.category]) ?_
  refine x_sub (l' := [(0, .ref (gB G + 247)), (1, .int (nI i)), (2, .int (nI q))]) ⟨rfl, rfl, rfl, trivial⟩ ?_
  rw [← edgR_eq (hF i hi) hq]
  have lp : ∀ k, k ≤ 64 → XJ G YX4_edgeIn (fun _ => True) (Zx G (Rt G (some (.int (edgR (A.2.2.2.2 i) q))) S B (N, s, T)) 0 0) 5 [(0, .ref (gB G + 247)), (1, .int (nI i)), (2, .int (nI q)), (3, .int (cb (fun k => onR (A.2.2.2.2 i) (8 * (nI q % 4) + nI k % 8) (8 * (nI q / 4) + nI k / 8)) k)), (4, .int (nI k))] [] 255 (cellOf G S B (N, s, T)) 0 0 := by
    refine loopD (64) ?_
    intro k hk ih
    refine x_iload (pc := 5) dX4_edgeIn_5 rfl ?_
    refine x_bipush (pc := 7) (64) dX4_edgeIn_7 (by decide) ?_
    refine x_cmpge (pc := 9) 58 dX4_edgeIn_9 (by decide) (fun c9 => ?_) (fun c9 => ?_)
    · obtain rfl : k = 64 := by have := mt (lt_lit (n := 64) rfl (by decide) (by omega)).mpr c9; omega
      refine x_iload_n (pc := 58) dX4_edgeIn_58 rfl ?_
      exact x_iret rfl dX4_edgeIn_59 ⟨by rfl, rfl, rfl⟩
    · have hkn : k < 64 := (lt_lit rfl (by decide) (by omega)).mp c9
      refine x_iload_n (pc := 12) dX4_edgeIn_12 rfl ?_
      refine x_aload_n (pc := 13) dX4_edgeIn_13 rfl ?_
      refine x_iload_n (pc := 14) dX4_edgeIn_14 rfl ?_
      refine x_bipush (pc := 15) (8) dX4_edgeIn_15 (by decide) ?_
      refine x_iload_n (pc := 17) dX4_edgeIn_17 rfl ?_
      refine x_iconst (pc := 18) (4) dX4_edgeIn_18 (by decide) ?_
      refine x_irem (pc := 19) dX4_edgeIn_19 (by decide) ?_
      try dsimp only
      rw [rem4 q hq]
      refine x_imul (pc := 20) dX4_edgeIn_20 ?_
      refine x_iload (pc := 21) dX4_edgeIn_21 rfl ?_
      refine x_bipush (pc := 23) (8) dX4_edgeIn_23 (by decide) ?_
      refine x_irem (pc := 25) dX4_edgeIn_25 (by decide) ?_
      try dsimp only
      rw [rem8 k hkn]
      refine x_iadd (pc := 26) dX4_edgeIn_26 ?_
      refine x_bipush (pc := 27) (8) dX4_edgeIn_27 (by decide) ?_
      refine x_iload_n (pc := 29) dX4_edgeIn_29 rfl ?_
      refine x_iconst (pc := 30) (4) dX4_edgeIn_30 (by decide) ?_
      refine x_idiv (pc := 31) dX4_edgeIn_31 (by decide) ?_
      refine x_imul (pc := 32) dX4_edgeIn_32 ?_
      refine x_iload (pc := 33) dX4_edgeIn_33 rfl ?_
      refine x_bipush (pc := 35) (8) dX4_edgeIn_35 (by decide) ?_
      refine x_idiv (pc := 37) dX4_edgeIn_37 (by decide) ?_
      refine x_iadd (pc := 38) dX4_edgeIn_38 ?_
      refine t_Vi (pc := 39) (c_X4_isOnEdge hM (by first | assumption | omega) _ _) qV_X4_isOnEdge mL_X4_59 dX4_edgeIn_39 rfl cell_model (by decide) rfl rfl rfl ⟨by decide, by decide⟩ (Nat.le_of_ble_eq_true rfl) (Nat.le_of_ble_eq_true rfl) (Nat.le_of_ble_eq_true rfl) ?_
      refine x_ifeq (pc := 42) 49 dX4_edgeIn_42 (by decide) (fun c42 => ?_) (fun c42 => ?_)
      · refine x_iconst (pc := 49) (0) dX4_edgeIn_49 (by decide) ?_
        refine x_iadd (pc := 50) dX4_edgeIn_50 ?_
        refine x_istore_n (pc := 51) dX4_edgeIn_51 (by decide) ?_
        refine x_iinc (pc := 52) (nI (k + 1)) dX4_edgeIn_52 rfl (iinc_nI k) (by decide) ?_
        refine x_goto (pc := 55) 5 dX4_edgeIn_55 (by decide) ?_
        have e := ih hkn
        first
        | (simp only [cb, b01_eq c42, b01_0] at e; exact x_back e ⟨rfl, rfl, rfl, rfl, rfl, trivial⟩)
        | (simp only [cb, b01_ne c42, b01_1] at e; exact x_back e ⟨rfl, rfl, rfl, rfl, rfl, trivial⟩)
      · refine x_iconst (pc := 45) (1) dX4_edgeIn_45 (by decide) ?_
        refine x_goto (pc := 46) 50 dX4_edgeIn_46 (by decide) ?_
        refine x_iadd (pc := 50) dX4_edgeIn_50 ?_
        refine x_istore_n (pc := 51) dX4_edgeIn_51 (by decide) ?_
        refine x_iinc (pc := 52) (nI (k + 1)) dX4_edgeIn_52 rfl (iinc_nI k) (by decide) ?_
        refine x_goto (pc := 55) 5 dX4_edgeIn_55 (by decide) ?_
        have e := ih hkn
        first
        | (simp only [cb, b01_eq c42, b01_0] at e; exact x_back e ⟨rfl, rfl, rfl, rfl, rfl, trivial⟩)
        | (simp only [cb, b01_ne c42, b01_1] at e; exact x_back e ⟨rfl, rfl, rfl, rfl, rfl, trivial⟩)
  refine x_iconst (pc := 0) (0) dX4_edgeIn_0 (by decide) ?_
  refine x_istore_n (pc := 1) dX4_edgeIn_1 (by decide) ?_
  refine x_iconst (pc := 2) (0) dX4_edgeIn_2 (by decide) ?_
  refine x_istore (pc := 3) dX4_edgeIn_3 (by decide) ?_
  exact x_back (lp 0 (by omega)) ⟨rfl, rfl, rfl, rfl, rfl, trivial⟩
set_option maxHeartbeats 4000000 in
set_option maxRecDepth 100000 in
theorem c_X4_leadColumn (hM : RM s A) (hF : vS A) (hi : i < A.1) : Ct G yX4_leadColumn YX4_leadColumn 0 0 [.ref (gB G + 247), .int (nI i)] 255 (cellOf G S B (N, s, T)) (Rt G (some (.int (lcV (A.2.2.2.2 i)))) S B (N, s, T)) := by
  refine ct_of (by decide +kernel) rfl rfl (Nat.le_of_ble_eq_true rfl) (by simp [Value.category]) ?_
  refine x_sub (l' := [(0, .ref (gB G + 247)), (1, .int (nI i))]) ⟨rfl, rfl, trivial⟩ ?_
  rw [← lcR_eq (hF i hi)]
  refine x_aload_n (pc := 0) dX4_leadColumn_0 rfl ?_
  refine x_iload_n (pc := 1) dX4_leadColumn_1 rfl ?_
  refine x_iconst (pc := 2) (4) dX4_leadColumn_2 (by decide) ?_
  refine t_Vi (pc := 3) (c_X4_of hM (by first | assumption | omega) 4 (by decide)) qV_X4_of mL_X4_46 dX4_leadColumn_3 rfl cell_model (by decide) rfl rfl rfl ⟨by decide, by decide⟩ (Nat.le_of_ble_eq_true rfl) (Nat.le_of_ble_eq_true rfl) (Nat.le_of_ble_eq_true rfl) ?_
  refine x_ifeq (pc := 6) 19 dX4_leadColumn_6 (by decide) (fun c6 => ?_) (fun c6 => ?_)
  · refine x_aload_n (pc := 19) dX4_leadColumn_19 rfl ?_
    refine x_iload_n (pc := 20) dX4_leadColumn_20 rfl ?_
    refine x_iconst (pc := 21) (0) dX4_leadColumn_21 (by decide) ?_
    refine t_Vi (pc := 22) (c_X4_of hM (by first | assumption | omega) 0 (by decide)) qV_X4_of mL_X4_46 dX4_leadColumn_22 rfl cell_model (by decide) rfl rfl rfl ⟨by decide, by decide⟩ (Nat.le_of_ble_eq_true rfl) (Nat.le_of_ble_eq_true rfl) (Nat.le_of_ble_eq_true rfl) ?_
    refine x_goto (pc := 25) 33 dX4_leadColumn_25 (by decide) ?_
    exact x_iret rfl dX4_leadColumn_33 ⟨by simp only [lcR, *, decide_true, decide_false, decide_not, Bool.and_true, Bool.true_and, Bool.and_false, Bool.false_and, Bool.or_true, Bool.true_or, Bool.or_false, Bool.false_or, Bool.not_true, Bool.not_false, if_true, if_false, not_true, not_false_eq_true, not_false_iff, Bool.false_eq_true, reduceIte, or_true, true_or, or_false, false_or, and_true, true_and, and_false, false_and, ite_self], rfl, rfl⟩
  · refine x_aload_n (pc := 9) dX4_leadColumn_9 rfl ?_
    refine x_iload_n (pc := 10) dX4_leadColumn_10 rfl ?_
    refine x_iconst (pc := 11) (4) dX4_leadColumn_11 (by decide) ?_
    refine t_Vi (pc := 12) (c_X4_of hM (by first | assumption | omega) 4 (by decide)) qV_X4_of mL_X4_46 dX4_leadColumn_12 rfl cell_model (by decide) rfl rfl rfl ⟨by decide, by decide⟩ (Nat.le_of_ble_eq_true rfl) (Nat.le_of_ble_eq_true rfl) (Nat.le_of_ble_eq_true rfl) ?_
    refine x_iconst (pc := 15) (3) dX4_leadColumn_15 (by decide) ?_
    refine x_cmpne (pc := 16) 28 dX4_leadColumn_16 (by decide) (fun c16 => ?_) (fun c16 => ?_)
    · refine x_aload_n (pc := 28) dX4_leadColumn_28 rfl ?_
      refine x_iload_n (pc := 29) dX4_leadColumn_29 rfl ?_
      refine t_Vi (pc := 30) (c_X4_lastColumn hM (by first | assumption | omega)) qV_X4_lastColumn mL_X4_52 dX4_leadColumn_30 rfl cell_model (by decide) rfl rfl rfl ⟨by decide, by decide⟩ (Nat.le_of_ble_eq_true rfl) (Nat.le_of_ble_eq_true rfl) (Nat.le_of_ble_eq_true rfl) ?_
      exact x_iret rfl dX4_leadColumn_33 ⟨by simp only [lcR, *, decide_true, decide_false, decide_not, Bool.and_true, Bool.true_and, Bool.and_false, Bool.false_and, Bool.or_true, Bool.true_or, Bool.or_false, Bool.false_or, Bool.not_true, Bool.not_false, if_true, if_false, not_true, not_false_eq_true, not_false_iff, Bool.false_eq_true, reduceIte, or_true, true_or, or_false, false_or, and_true, true_and, and_false, false_and, ite_self], rfl, rfl⟩
    · refine x_aload_n (pc := 19) dX4_leadColumn_19 rfl ?_
      refine x_iload_n (pc := 20) dX4_leadColumn_20 rfl ?_
      refine x_iconst (pc := 21) (0) dX4_leadColumn_21 (by decide) ?_
      refine t_Vi (pc := 22) (c_X4_of hM (by first | assumption | omega) 0 (by decide)) qV_X4_of mL_X4_46 dX4_leadColumn_22 rfl cell_model (by decide) rfl rfl rfl ⟨by decide, by decide⟩ (Nat.le_of_ble_eq_true rfl) (Nat.le_of_ble_eq_true rfl) (Nat.le_of_ble_eq_true rfl) ?_
      refine x_goto (pc := 25) 33 dX4_leadColumn_25 (by decide) ?_
      exact x_iret rfl dX4_leadColumn_33 ⟨by simp only [lcR, *, decide_true, decide_false, decide_not, Bool.and_true, Bool.true_and, Bool.and_false, Bool.false_and, Bool.or_true, Bool.true_or, Bool.or_false, Bool.false_or, Bool.not_true, Bool.not_false, if_true, if_false, not_true, not_false_eq_true, not_false_iff, Bool.false_eq_true, reduceIte, or_true, true_or, or_false, false_or, and_true, true_and, and_false, false_and, ite_self], rfl, rfl⟩
set_option maxHeartbeats 4000000 in
set_option maxRecDepth 100000 in
theorem c_X4_leadRow (hM : RM s A) (hF : vS A) (hi : i < A.1) : Ct G yX4_leadRow YX4_leadRow 0 0 [.ref (gB G + 247), .int (nI i)] 255 (cellOf G S B (N, s, T)) (Rt G (some (.int (lrV (A.2.2.2.2 i)))) S B (N, s, T)) := by
  refine ct_of (by decide +kernel) rfl rfl (Nat.le_of_ble_eq_true rfl) (by simp [Value.category]) ?_
  refine x_sub (l' := [(0, .ref (gB G + 247)), (1, .int (nI i))]) ⟨rfl, rfl, trivial⟩ ?_
  rw [← lrR_eq (hF i hi)]
  refine x_aload_n (pc := 0) dX4_leadRow_0 rfl ?_
  refine x_iload_n (pc := 1) dX4_leadRow_1 rfl ?_
  refine x_iconst (pc := 2) (4) dX4_leadRow_2 (by decide) ?_
  refine t_Vi (pc := 3) (c_X4_of hM (by first | assumption | omega) 4 (by decide)) qV_X4_of mL_X4_46 dX4_leadRow_3 rfl cell_model (by decide) rfl rfl rfl ⟨by decide, by decide⟩ (Nat.le_of_ble_eq_true rfl) (Nat.le_of_ble_eq_true rfl) (Nat.le_of_ble_eq_true rfl) ?_
  refine x_iconst (pc := 6) (2) dX4_leadRow_6 (by decide) ?_
  refine x_cmpge (pc := 7) 19 dX4_leadRow_7 (by decide) (fun c7 => ?_) (fun c7 => ?_)
  · refine x_aload_n (pc := 19) dX4_leadRow_19 rfl ?_
    refine x_iload_n (pc := 20) dX4_leadRow_20 rfl ?_
    refine t_Vi (pc := 21) (c_X4_lastRow hM (by first | assumption | omega)) qV_X4_lastRow mL_X4_56 dX4_leadRow_21 rfl cell_model (by decide) rfl rfl rfl ⟨by decide, by decide⟩ (Nat.le_of_ble_eq_true rfl) (Nat.le_of_ble_eq_true rfl) (Nat.le_of_ble_eq_true rfl) ?_
    exact x_iret rfl dX4_leadRow_24 ⟨by simp only [lrR, *, decide_true, decide_false, decide_not, Bool.and_true, Bool.true_and, Bool.and_false, Bool.false_and, Bool.or_true, Bool.true_or, Bool.or_false, Bool.false_or, Bool.not_true, Bool.not_false, if_true, if_false, not_true, not_false_eq_true, not_false_iff, Bool.false_eq_true, reduceIte, or_true, true_or, or_false, false_or, and_true, true_and, and_false, false_and, ite_self], rfl, rfl⟩
  · refine x_aload_n (pc := 10) dX4_leadRow_10 rfl ?_
    refine x_iload_n (pc := 11) dX4_leadRow_11 rfl ?_
    refine x_iconst (pc := 12) (1) dX4_leadRow_12 (by decide) ?_
    refine t_Vi (pc := 13) (c_X4_of hM (by first | assumption | omega) 1 (by decide)) qV_X4_of mL_X4_46 dX4_leadRow_13 rfl cell_model (by decide) rfl rfl rfl ⟨by decide, by decide⟩ (Nat.le_of_ble_eq_true rfl) (Nat.le_of_ble_eq_true rfl) (Nat.le_of_ble_eq_true rfl) ?_
    refine x_goto (pc := 16) 24 dX4_leadRow_16 (by decide) ?_
    exact x_iret rfl dX4_leadRow_24 ⟨by simp only [lrR, *, decide_true, decide_false, decide_not, Bool.and_true, Bool.true_and, Bool.and_false, Bool.false_and, Bool.or_true, Bool.true_or, Bool.or_false, Bool.false_or, Bool.not_true, Bool.not_false, if_true, if_false, not_true, not_false_eq_true, not_false_iff, Bool.false_eq_true, reduceIte, or_true, true_or, or_false, false_or, and_true, true_and, and_false, false_and, ite_self], rfl, rfl⟩
set_option maxHeartbeats 4000000 in
set_option maxRecDepth 100000 in
theorem c_X4_outer (hM : RM s A) (hF : vS A) (hi : i < A.1) : Ct G yX4_outer YX4_outer 0 0 [.ref (gB G + 247), .int (nI i)] 255 (cellOf G S B (N, s, T)) (Rt G (some (.int (oV (outO A.2.2.2.2 (A.2.2.2.2 i) A.1)))) S B (N, s, T)) := by
  refine ct_of (by decide +kernel) rfl rfl (Nat.le_of_ble_eq_true rfl) (by simp [Value.category]) ?_
  refine x_sub (l' := [(0, .ref (gB G + 247)), (1, .int (nI i))]) ⟨rfl, rfl, trivial⟩ ?_
  have h12 := hM.le
  have lp : ∀ k, k ≤ A.1 → XJ G YX4_outer (fun _ => True) (Zx G (Rt G (some (.int (oV (outO A.2.2.2.2 (A.2.2.2.2 i) A.1)))) S B (N, s, T)) 0 0) 5 [(0, .ref (gB G + 247)), (1, .int (nI i)), (2, .int (oV (outO A.2.2.2.2 (A.2.2.2.2 i) k))), (3, .int (nI k))] [] 255 (cellOf G S B (N, s, T)) 0 0 := by
    refine loopD (A.1) ?_
    intro k hk ih
    refine x_iload_n (pc := 5) dX4_outer_5 rfl ?_
    refine x_aload_n (pc := 6) dX4_outer_6 rfl ?_
    refine x_get (pc := 7) (ci := 4) (k := 0) (C := RX4) (T := TX4) (N := 21) cell_model rfl (by decide) rfl nX4 (by decide) mF_X4_7 rfl dX4_outer_7 ?_
    refine x_iconst (pc := 10) (0) dX4_outer_10 (by decide) ?_
    refine t_ild (pc := 11) 0 cell_s (by decide) rfl (by decide) (by decide) dX4_outer_11 ?_
    try dsimp only
    rw [hM.told]
    refine x_cmpge (pc := 12) 51 dX4_outer_12 (by decide) (fun c12 => ?_) (fun c12 => ?_)
    · obtain rfl : k = A.1 := by have := mt (tl_iff hM.le hk).mpr c12; omega
      refine x_iload_n (pc := 51) dX4_outer_51 rfl ?_
      exact x_iret rfl dX4_outer_52 ⟨by rfl, rfl, rfl⟩
    · have hkn : k < A.1 := (tl_iff hM.le hk).mp c12
      refine x_aload_n (pc := 15) dX4_outer_15 rfl ?_
      refine x_iload_n (pc := 16) dX4_outer_16 rfl ?_
      refine x_iload_n (pc := 17) dX4_outer_17 rfl ?_
      refine t_Vi (pc := 18) (c_X4_isInside hM hF (by first | assumption | omega) (by first | assumption | omega)) qV_X4_isInside mL_X4_62 dX4_outer_18 rfl cell_model (by decide) rfl rfl rfl ⟨by decide, by decide⟩ (Nat.le_of_ble_eq_true rfl) (Nat.le_of_ble_eq_true rfl) (Nat.le_of_ble_eq_true rfl) ?_
      refine x_ifeq (pc := 21) 43 dX4_outer_21 (by decide) (fun c21 => ?_) (fun c21 => ?_)
      · refine x_iload_n (pc := 43) dX4_outer_43 rfl ?_
        refine x_istore_n (pc := 44) dX4_outer_44 (by decide) ?_
        refine x_iinc (pc := 45) (nI (k + 1)) dX4_outer_45 rfl (iinc_nI k) (by decide) ?_
        refine x_goto (pc := 48) 5 dX4_outer_48 (by decide) ?_
        have hol : ∀ q, outO A.2.2.2.2 (A.2.2.2.2 i) k = some q → q < 2 ^ 31 := fun q hq => by have := outO_lt hq; omega
        have e := ih hkn
        first
        | (simp only [outO, b01_eq c21, Bool.false_and, Bool.false_eq_true, if_false] at e; exact x_back e ⟨rfl, rfl, rfl, rfl, trivial⟩)
        | (have hn := oV_none hol c27
           simp only [outO, b01_ne c21, hn, Bool.true_and, if_true] at e; exact x_back e ⟨rfl, rfl, rfl, rfl, trivial⟩)
        | (simp only [outO, b01_ne c21, hq, b01_ne c36, Bool.true_and, if_true] at e; exact x_back e ⟨rfl, rfl, rfl, rfl, trivial⟩)
        | (simp only [outO, b01_ne c21, hq, b01_eq c36, Bool.true_and, Bool.false_eq_true, if_false] at e; exact x_back e ⟨rfl, rfl, rfl, rfl, trivial⟩)
      · refine x_iload_n (pc := 24) dX4_outer_24 rfl ?_
        refine x_bipush (pc := 25) (-5) dX4_outer_25 (by decide) ?_
        refine x_cmpeq (pc := 27) 39 dX4_outer_27 (by decide) (fun c27 => ?_) (fun c27 => ?_)
        · refine x_iload_n (pc := 39) dX4_outer_39 rfl ?_
          refine x_goto (pc := 40) 44 dX4_outer_40 (by decide) ?_
          refine x_istore_n (pc := 44) dX4_outer_44 (by decide) ?_
          refine x_iinc (pc := 45) (nI (k + 1)) dX4_outer_45 rfl (iinc_nI k) (by decide) ?_
          refine x_goto (pc := 48) 5 dX4_outer_48 (by decide) ?_
          have hol : ∀ q, outO A.2.2.2.2 (A.2.2.2.2 i) k = some q → q < 2 ^ 31 := fun q hq => by have := outO_lt hq; omega
          have e := ih hkn
          first
          | (simp only [outO, b01_eq c21, Bool.false_and, Bool.false_eq_true, if_false] at e; exact x_back e ⟨rfl, rfl, rfl, rfl, trivial⟩)
          | (have hn := oV_none hol c27
             simp only [outO, b01_ne c21, hn, Bool.true_and, if_true] at e; exact x_back e ⟨rfl, rfl, rfl, rfl, trivial⟩)
          | (simp only [outO, b01_ne c21, hq, b01_ne c36, Bool.true_and, if_true] at e; exact x_back e ⟨rfl, rfl, rfl, rfl, trivial⟩)
          | (simp only [outO, b01_ne c21, hq, b01_eq c36, Bool.true_and, Bool.false_eq_true, if_false] at e; exact x_back e ⟨rfl, rfl, rfl, rfl, trivial⟩)
        · obtain ⟨q, hq⟩ := oV_some c27
          have hqk := outO_lt hq
          simp only [hq, oV]
          refine x_aload_n (pc := 30) dX4_outer_30 rfl ?_
          refine x_iload_n (pc := 31) dX4_outer_31 rfl ?_
          refine x_iload_n (pc := 32) dX4_outer_32 rfl ?_
          refine t_Vi (pc := 33) (c_X4_isInside hM hF (by first | assumption | omega) (by first | assumption | omega)) qV_X4_isInside mL_X4_62 dX4_outer_33 rfl cell_model (by decide) rfl rfl rfl ⟨by decide, by decide⟩ (Nat.le_of_ble_eq_true rfl) (Nat.le_of_ble_eq_true rfl) (Nat.le_of_ble_eq_true rfl) ?_
          refine x_ifeq (pc := 36) 43 dX4_outer_36 (by decide) (fun c36 => ?_) (fun c36 => ?_)
          · refine x_iload_n (pc := 43) dX4_outer_43 rfl ?_
            refine x_istore_n (pc := 44) dX4_outer_44 (by decide) ?_
            refine x_iinc (pc := 45) (nI (k + 1)) dX4_outer_45 rfl (iinc_nI k) (by decide) ?_
            refine x_goto (pc := 48) 5 dX4_outer_48 (by decide) ?_
            have hol : ∀ q, outO A.2.2.2.2 (A.2.2.2.2 i) k = some q → q < 2 ^ 31 := fun q hq => by have := outO_lt hq; omega
            have e := ih hkn
            first
            | (simp only [outO, b01_eq c21, Bool.false_and, Bool.false_eq_true, if_false] at e; exact x_back e ⟨rfl, rfl, rfl, rfl, trivial⟩)
            | (have hn := oV_none hol c27
               simp only [outO, b01_ne c21, hn, Bool.true_and, if_true] at e; exact x_back e ⟨rfl, rfl, rfl, rfl, trivial⟩)
            | (simp only [outO, b01_ne c21, hq, b01_ne c36, Bool.true_and, if_true] at e; exact x_back e ⟨rfl, rfl, rfl, rfl, trivial⟩)
            | (simp only [outO, b01_ne c21, hq, b01_eq c36, Bool.true_and, Bool.false_eq_true, if_false] at e; exact x_back e ⟨rfl, rfl, rfl, rfl, trivial⟩)
          · refine x_iload_n (pc := 39) dX4_outer_39 rfl ?_
            refine x_goto (pc := 40) 44 dX4_outer_40 (by decide) ?_
            refine x_istore_n (pc := 44) dX4_outer_44 (by decide) ?_
            refine x_iinc (pc := 45) (nI (k + 1)) dX4_outer_45 rfl (iinc_nI k) (by decide) ?_
            refine x_goto (pc := 48) 5 dX4_outer_48 (by decide) ?_
            have hol : ∀ q, outO A.2.2.2.2 (A.2.2.2.2 i) k = some q → q < 2 ^ 31 := fun q hq => by have := outO_lt hq; omega
            have e := ih hkn
            first
            | (simp only [outO, b01_eq c21, Bool.false_and, Bool.false_eq_true, if_false] at e; exact x_back e ⟨rfl, rfl, rfl, rfl, trivial⟩)
            | (have hn := oV_none hol c27
               simp only [outO, b01_ne c21, hn, Bool.true_and, if_true] at e; exact x_back e ⟨rfl, rfl, rfl, rfl, trivial⟩)
            | (simp only [outO, b01_ne c21, hq, b01_ne c36, Bool.true_and, if_true] at e; exact x_back e ⟨rfl, rfl, rfl, rfl, trivial⟩)
            | (simp only [outO, b01_ne c21, hq, b01_eq c36, Bool.true_and, Bool.false_eq_true, if_false] at e; exact x_back e ⟨rfl, rfl, rfl, rfl, trivial⟩)
  refine x_bipush (pc := 0) (-5) dX4_outer_0 (by decide) ?_
  refine x_istore_n (pc := 2) dX4_outer_2 (by decide) ?_
  refine x_iconst (pc := 3) (0) dX4_outer_3 (by decide) ?_
  refine x_istore_n (pc := 4) dX4_outer_4 (by decide) ?_
  exact x_back (lp 0 (by omega)) ⟨rfl, rfl, rfl, rfl, trivial⟩
set_option maxHeartbeats 4000000 in
set_option maxRecDepth 100000 in
theorem c_X4_inner (hM : RM s A) (hF : vS A) (hi : i < A.1) : Ct G yX4_inner YX4_inner 0 0 [.ref (gB G + 247), .int (nI i)] 255 (cellOf G S B (N, s, T)) (Rt G (some (.int (setN A.2.2.2.2 (A.2.2.2.2 i) A.1))) S B (N, s, T)) := by
  refine ct_of (by decide +kernel) rfl rfl (Nat.le_of_ble_eq_true rfl) (by simp [Value.category]) ?_
  refine x_sub (l' := [(0, .ref (gB G + 247)), (1, .int (nI i))]) ⟨rfl, rfl, trivial⟩ ?_
  have h12 := hM.le
  have lp : ∀ k, k ≤ A.1 → XJ G YX4_inner (fun _ => True) (Zx G (Rt G (some (.int (setN A.2.2.2.2 (A.2.2.2.2 i) A.1))) S B (N, s, T)) 0 0) 4 [(0, .ref (gB G + 247)), (1, .int (nI i)), (2, .int (setN A.2.2.2.2 (A.2.2.2.2 i) k)), (3, .int (nI k))] [] 255 (cellOf G S B (N, s, T)) 0 0 := by
    refine loopD (A.1) ?_
    intro k hk ih
    refine x_iload_n (pc := 4) dX4_inner_4 rfl ?_
    refine x_aload_n (pc := 5) dX4_inner_5 rfl ?_
    refine x_get (pc := 6) (ci := 4) (k := 0) (C := RX4) (T := TX4) (N := 21) cell_model rfl (by decide) rfl nX4 (by decide) mF_X4_7 rfl dX4_inner_6 ?_
    refine x_iconst (pc := 9) (0) dX4_inner_9 (by decide) ?_
    refine t_ild (pc := 10) 0 cell_s (by decide) rfl (by decide) (by decide) dX4_inner_10 ?_
    try dsimp only
    rw [hM.told]
    refine x_cmpge (pc := 11) 39 dX4_inner_11 (by decide) (fun c11 => ?_) (fun c11 => ?_)
    · obtain rfl : k = A.1 := by have := mt (tl_iff hM.le hk).mpr c11; omega
      refine x_iload_n (pc := 39) dX4_inner_39 rfl ?_
      exact x_iret rfl dX4_inner_40 ⟨by rfl, rfl, rfl⟩
    · have hkn : k < A.1 := (tl_iff hM.le hk).mp c11
      refine x_iload_n (pc := 14) dX4_inner_14 rfl ?_
      refine x_aload_n (pc := 15) dX4_inner_15 rfl ?_
      refine x_iload_n (pc := 16) dX4_inner_16 rfl ?_
      refine x_iload_n (pc := 17) dX4_inner_17 rfl ?_
      refine t_Vi (pc := 18) (c_X4_isInside hM hF (by first | assumption | omega) (by first | assumption | omega)) qV_X4_isInside mL_X4_62 dX4_inner_18 rfl cell_model (by decide) rfl rfl rfl ⟨by decide, by decide⟩ (Nat.le_of_ble_eq_true rfl) (Nat.le_of_ble_eq_true rfl) (Nat.le_of_ble_eq_true rfl) ?_
      refine x_ifeq (pc := 21) 30 dX4_inner_21 (by decide) (fun c21 => ?_) (fun c21 => ?_)
      · refine x_iconst (pc := 30) (0) dX4_inner_30 (by decide) ?_
        refine x_ior (pc := 31) dX4_inner_31 ?_
        refine x_istore_n (pc := 32) dX4_inner_32 (by decide) ?_
        refine x_iinc (pc := 33) (nI (k + 1)) dX4_inner_33 rfl (iinc_nI k) (by decide) ?_
        refine x_goto (pc := 36) 4 dX4_inner_36 (by decide) ?_
        have e := ih hkn
        first
        | (simp only [setN, b01_eq c21, Bool.false_eq_true, if_false] at e; rw [Int32.or_zero]; exact x_back e ⟨rfl, rfl, rfl, rfl, trivial⟩)
        | (simp only [setN, b01_ne c21, if_true] at e; exact x_back e ⟨rfl, rfl, rfl, rfl, trivial⟩)
      · refine x_iconst (pc := 24) (1) dX4_inner_24 (by decide) ?_
        refine x_iload_n (pc := 25) dX4_inner_25 rfl ?_
        refine x_ishl (pc := 26) dX4_inner_26 ?_
        refine x_goto (pc := 27) 31 dX4_inner_27 (by decide) ?_
        refine x_ior (pc := 31) dX4_inner_31 ?_
        refine x_istore_n (pc := 32) dX4_inner_32 (by decide) ?_
        refine x_iinc (pc := 33) (nI (k + 1)) dX4_inner_33 rfl (iinc_nI k) (by decide) ?_
        refine x_goto (pc := 36) 4 dX4_inner_36 (by decide) ?_
        have e := ih hkn
        first
        | (simp only [setN, b01_eq c21, Bool.false_eq_true, if_false] at e; rw [Int32.or_zero]; exact x_back e ⟨rfl, rfl, rfl, rfl, trivial⟩)
        | (simp only [setN, b01_ne c21, if_true] at e; exact x_back e ⟨rfl, rfl, rfl, rfl, trivial⟩)
  refine x_iconst (pc := 0) (0) dX4_inner_0 (by decide) ?_
  refine x_istore_n (pc := 1) dX4_inner_1 (by decide) ?_
  refine x_iconst (pc := 2) (0) dX4_inner_2 (by decide) ?_
  refine x_istore_n (pc := 3) dX4_inner_3 (by decide) ?_
  exact x_back (lp 0 (by omega)) ⟨rfl, rfl, rfl, rfl, trivial⟩
set_option maxHeartbeats 4000000 in
set_option maxRecDepth 100000 in
theorem c_X4_hasWholeInside (hM : RM s A) (hF : vS A) (hi : i < A.1) : Ct G yX4_hasWholeInside YX4_hasWholeInside 0 0 [.ref (gB G + 247), .int (nI i)] 255 (cellOf G S B (N, s, T)) (Rt G (some (.int (b01 (hoB A.2.2.2.2 (A.2.2.2.2 i) A.1)))) S B (N, s, T)) := by
  refine ct_of (by decide +kernel) rfl rfl (Nat.le_of_ble_eq_true rfl) (by simp [Value.category]) ?_
  refine x_sub (l' := [(0, .ref (gB G + 247)), (1, .int (nI i))]) ⟨rfl, rfl, trivial⟩ ?_
  have h12 := hM.le
  have lp : ∀ k, k ≤ A.1 → XJ G YX4_hasWholeInside (fun _ => True) (Zx G (Rt G (some (.int (b01 (hoB A.2.2.2.2 (A.2.2.2.2 i) A.1)))) S B (N, s, T)) 0 0) 4 [(0, .ref (gB G + 247)), (1, .int (nI i)), (2, .int (b01 (hoB A.2.2.2.2 (A.2.2.2.2 i) k))), (3, .int (nI k))] [] 255 (cellOf G S B (N, s, T)) 0 0 := by
    refine loopD (A.1) ?_
    intro k hk ih
    refine x_iload_n (pc := 4) dX4_hasWholeInside_4 rfl ?_
    refine x_aload_n (pc := 5) dX4_hasWholeInside_5 rfl ?_
    refine x_get (pc := 6) (ci := 4) (k := 0) (C := RX4) (T := TX4) (N := 21) cell_model rfl (by decide) rfl nX4 (by decide) mF_X4_7 rfl dX4_hasWholeInside_6 ?_
    refine x_iconst (pc := 9) (0) dX4_hasWholeInside_9 (by decide) ?_
    refine t_ild (pc := 10) 0 cell_s (by decide) rfl (by decide) (by decide) dX4_hasWholeInside_10 ?_
    try dsimp only
    rw [hM.told]
    refine x_cmpge (pc := 11) 47 dX4_hasWholeInside_11 (by decide) (fun c11 => ?_) (fun c11 => ?_)
    · obtain rfl : k = A.1 := by have := mt (tl_iff hM.le hk).mpr c11; omega
      refine x_iload_n (pc := 47) dX4_hasWholeInside_47 rfl ?_
      exact x_zret rfl (narrow_b01 _) dX4_hasWholeInside_48 ⟨rfl, rfl, rfl⟩
    · have hkn : k < A.1 := (tl_iff hM.le hk).mp c11
      refine x_iload_n (pc := 14) dX4_hasWholeInside_14 rfl ?_
      refine x_ifne (pc := 15) 35 dX4_hasWholeInside_15 (by decide) (fun c15 => ?_) (fun c15 => ?_)
      · refine x_iconst (pc := 35) (1) dX4_hasWholeInside_35 (by decide) ?_
        refine x_goto (pc := 36) 40 dX4_hasWholeInside_36 (by decide) ?_
        refine x_istore_n (pc := 40) dX4_hasWholeInside_40 (by decide) ?_
        refine x_iinc (pc := 41) (nI (k + 1)) dX4_hasWholeInside_41 rfl (iinc_nI k) (by decide) ?_
        refine x_goto (pc := 44) 4 dX4_hasWholeInside_44 (by decide) ?_
        have e := ih hkn
        first
        | (simp only [hoB, b01_ne c15, Bool.true_or, b01_1] at e; exact x_back e ⟨rfl, rfl, rfl, rfl, trivial⟩)
        | (simp only [hoB, b01_eq c15, b01_eq c24, Bool.and_false, Bool.or_self, b01_0] at e; exact x_back e ⟨rfl, rfl, rfl, rfl, trivial⟩)
        | (simp only [hoB, b01_eq c15, b01_ne c24, b01_eq c32, Bool.false_and, Bool.or_self, b01_0] at e; exact x_back e ⟨rfl, rfl, rfl, rfl, trivial⟩)
        | (simp only [hoB, b01_eq c15, b01_ne c24, b01_ne c32, Bool.and_self, Bool.false_or, b01_1] at e; exact x_back e ⟨rfl, rfl, rfl, rfl, trivial⟩)
      · refine x_aload_n (pc := 18) dX4_hasWholeInside_18 rfl ?_
        refine x_iload_n (pc := 19) dX4_hasWholeInside_19 rfl ?_
        refine x_iload_n (pc := 20) dX4_hasWholeInside_20 rfl ?_
        refine t_Vi (pc := 21) (c_X4_isInside hM hF (by first | assumption | omega) (by first | assumption | omega)) qV_X4_isInside mL_X4_62 dX4_hasWholeInside_21 rfl cell_model (by decide) rfl rfl rfl ⟨by decide, by decide⟩ (Nat.le_of_ble_eq_true rfl) (Nat.le_of_ble_eq_true rfl) (Nat.le_of_ble_eq_true rfl) ?_
        refine x_ifeq (pc := 24) 39 dX4_hasWholeInside_24 (by decide) (fun c24 => ?_) (fun c24 => ?_)
        · refine x_iconst (pc := 39) (0) dX4_hasWholeInside_39 (by decide) ?_
          refine x_istore_n (pc := 40) dX4_hasWholeInside_40 (by decide) ?_
          refine x_iinc (pc := 41) (nI (k + 1)) dX4_hasWholeInside_41 rfl (iinc_nI k) (by decide) ?_
          refine x_goto (pc := 44) 4 dX4_hasWholeInside_44 (by decide) ?_
          have e := ih hkn
          first
          | (simp only [hoB, b01_ne c15, Bool.true_or, b01_1] at e; exact x_back e ⟨rfl, rfl, rfl, rfl, trivial⟩)
          | (simp only [hoB, b01_eq c15, b01_eq c24, Bool.and_false, Bool.or_self, b01_0] at e; exact x_back e ⟨rfl, rfl, rfl, rfl, trivial⟩)
          | (simp only [hoB, b01_eq c15, b01_ne c24, b01_eq c32, Bool.false_and, Bool.or_self, b01_0] at e; exact x_back e ⟨rfl, rfl, rfl, rfl, trivial⟩)
          | (simp only [hoB, b01_eq c15, b01_ne c24, b01_ne c32, Bool.and_self, Bool.false_or, b01_1] at e; exact x_back e ⟨rfl, rfl, rfl, rfl, trivial⟩)
        · refine x_aload_n (pc := 27) dX4_hasWholeInside_27 rfl ?_
          refine x_iload_n (pc := 28) dX4_hasWholeInside_28 rfl ?_
          refine t_Vi (pc := 29) (c_X4_isWhole hM (by first | assumption | omega)) qV_X4_isWhole mL_X4_66 dX4_hasWholeInside_29 rfl cell_model (by decide) rfl rfl rfl ⟨by decide, by decide⟩ (Nat.le_of_ble_eq_true rfl) (Nat.le_of_ble_eq_true rfl) (Nat.le_of_ble_eq_true rfl) ?_
          refine x_ifeq (pc := 32) 39 dX4_hasWholeInside_32 (by decide) (fun c32 => ?_) (fun c32 => ?_)
          · refine x_iconst (pc := 39) (0) dX4_hasWholeInside_39 (by decide) ?_
            refine x_istore_n (pc := 40) dX4_hasWholeInside_40 (by decide) ?_
            refine x_iinc (pc := 41) (nI (k + 1)) dX4_hasWholeInside_41 rfl (iinc_nI k) (by decide) ?_
            refine x_goto (pc := 44) 4 dX4_hasWholeInside_44 (by decide) ?_
            have e := ih hkn
            first
            | (simp only [hoB, b01_ne c15, Bool.true_or, b01_1] at e; exact x_back e ⟨rfl, rfl, rfl, rfl, trivial⟩)
            | (simp only [hoB, b01_eq c15, b01_eq c24, Bool.and_false, Bool.or_self, b01_0] at e; exact x_back e ⟨rfl, rfl, rfl, rfl, trivial⟩)
            | (simp only [hoB, b01_eq c15, b01_ne c24, b01_eq c32, Bool.false_and, Bool.or_self, b01_0] at e; exact x_back e ⟨rfl, rfl, rfl, rfl, trivial⟩)
            | (simp only [hoB, b01_eq c15, b01_ne c24, b01_ne c32, Bool.and_self, Bool.false_or, b01_1] at e; exact x_back e ⟨rfl, rfl, rfl, rfl, trivial⟩)
          · refine x_iconst (pc := 35) (1) dX4_hasWholeInside_35 (by decide) ?_
            refine x_goto (pc := 36) 40 dX4_hasWholeInside_36 (by decide) ?_
            refine x_istore_n (pc := 40) dX4_hasWholeInside_40 (by decide) ?_
            refine x_iinc (pc := 41) (nI (k + 1)) dX4_hasWholeInside_41 rfl (iinc_nI k) (by decide) ?_
            refine x_goto (pc := 44) 4 dX4_hasWholeInside_44 (by decide) ?_
            have e := ih hkn
            first
            | (simp only [hoB, b01_ne c15, Bool.true_or, b01_1] at e; exact x_back e ⟨rfl, rfl, rfl, rfl, trivial⟩)
            | (simp only [hoB, b01_eq c15, b01_eq c24, Bool.and_false, Bool.or_self, b01_0] at e; exact x_back e ⟨rfl, rfl, rfl, rfl, trivial⟩)
            | (simp only [hoB, b01_eq c15, b01_ne c24, b01_eq c32, Bool.false_and, Bool.or_self, b01_0] at e; exact x_back e ⟨rfl, rfl, rfl, rfl, trivial⟩)
            | (simp only [hoB, b01_eq c15, b01_ne c24, b01_ne c32, Bool.and_self, Bool.false_or, b01_1] at e; exact x_back e ⟨rfl, rfl, rfl, rfl, trivial⟩)
  refine x_iconst (pc := 0) (0) dX4_hasWholeInside_0 (by decide) ?_
  refine x_istore_n (pc := 1) dX4_hasWholeInside_1 (by decide) ?_
  refine x_iconst (pc := 2) (0) dX4_hasWholeInside_2 (by decide) ?_
  refine x_istore_n (pc := 3) dX4_hasWholeInside_3 (by decide) ?_
  exact x_back (lp 0 (by omega)) ⟨rfl, rfl, rfl, rfl, trivial⟩
set_option maxHeartbeats 4000000 in
set_option maxRecDepth 100000 in
theorem c_X4_off (a b : Int32) : Ct G yX4_off YX4_off 0 0 [.int a, .int b] 255 (cellOf G S B (N, s, T)) (Rt G (some (.int (offV a b))) S B (N, s, T)) := by
  refine ct_of (by decide +kernel) rfl rfl (Nat.le_of_ble_eq_true rfl) (by simp [Value.category]) ?_
  refine x_sub (l' := [(0, .int a), (1, .int b)]) ⟨rfl, rfl, trivial⟩ ?_
  refine x_iload_n (pc := 0) dX4_off_0 rfl ?_
  refine x_iload_n (pc := 1) dX4_off_1 rfl ?_
  refine x_cmple (pc := 2) 11 dX4_off_2 (by decide) (fun c2 => ?_) (fun c2 => ?_)
  · refine x_iload_n (pc := 11) dX4_off_11 rfl ?_
    refine x_iload_n (pc := 12) dX4_off_12 rfl ?_
    refine x_isub (pc := 13) dX4_off_13 ?_
    exact x_iret rfl dX4_off_14 ⟨by simp only [offV, *, decide_true, decide_false, decide_not, Bool.and_true, Bool.true_and, Bool.and_false, Bool.false_and, Bool.or_true, Bool.true_or, Bool.or_false, Bool.false_or, Bool.not_true, Bool.not_false, if_true, if_false, not_true, not_false_eq_true, not_false_iff, Bool.false_eq_true, reduceIte, or_true, true_or, or_false, false_or, and_true, true_and, and_false, false_and, ite_self], rfl, rfl⟩
  · refine x_iload_n (pc := 5) dX4_off_5 rfl ?_
    refine x_iload_n (pc := 6) dX4_off_6 rfl ?_
    refine x_isub (pc := 7) dX4_off_7 ?_
    refine x_goto (pc := 8) 14 dX4_off_8 (by decide) ?_
    exact x_iret rfl dX4_off_14 ⟨by simp only [offV, *, decide_true, decide_false, decide_not, Bool.and_true, Bool.true_and, Bool.and_false, Bool.false_and, Bool.or_true, Bool.true_or, Bool.or_false, Bool.false_or, Bool.not_true, Bool.not_false, if_true, if_false, not_true, not_false_eq_true, not_false_iff, Bool.false_eq_true, reduceIte, or_true, true_or, or_false, false_or, and_true, true_and, and_false, false_and, ite_self], rfl, rfl⟩
set_option maxHeartbeats 4000000 in
set_option maxRecDepth 100000 in
theorem c_X4_going (hM : RM s A) (hV : VA A) (hi : i < A.1) : Ct G yX4_going YX4_going 0 0 [.ref (gB G + 247), .int (nI i)] 255 (cellOf G S B (N, s, T)) (Rt G (some (.int (wayV A i))) S B (N, s, T)) := by
  refine ct_of (by decide +kernel) rfl rfl (Nat.le_of_ble_eq_true rfl) (by simp [Value.category]) ?_
  refine x_sub (l' := [(0, .ref (gB G + 247)), (1, .int (nI i))]) ⟨rfl, rfl, trivial⟩ ?_
  have hF := hV.vS
  rw [← wayR_eq hV hi]
  refine x_aload_n (pc := 0) dX4_going_0 rfl ?_
  refine x_iload_n (pc := 1) dX4_going_1 rfl ?_
  refine t_Vi (pc := 2) (c_X4_leadColumn hM hF (by first | assumption | omega)) qV_X4_leadColumn mL_X4_70 dX4_going_2 rfl cell_model (by decide) rfl rfl rfl ⟨by decide, by decide⟩ (Nat.le_of_ble_eq_true rfl) (Nat.le_of_ble_eq_true rfl) (Nat.le_of_ble_eq_true rfl) ?_
  refine x_aload_n (pc := 5) dX4_going_5 rfl ?_
  refine x_get (pc := 6) (ci := 4) (k := 0) (C := RX4) (T := TX4) (N := 21) cell_model rfl (by decide) rfl nX4 (by decide) mF_X4_7 rfl dX4_going_6 ?_
  refine x_iconst (pc := 9) (1) dX4_going_9 (by decide) ?_
  refine t_ild (pc := 10) 1 cell_s (by decide) rfl (by decide) (by decide) dX4_going_10 ?_
  try dsimp only
  rw [hM.int 1]
  refine t_Si (pc := 11) (c_X4_off _ _) qS_X4_off mL_X4_73 dX4_going_11 rfl rfl rfl ⟨by decide, by decide⟩ (Nat.le_of_ble_eq_true rfl) (Nat.le_of_ble_eq_true rfl) (Nat.le_of_ble_eq_true rfl) ?_
  refine x_aload_n (pc := 14) dX4_going_14 rfl ?_
  refine x_iload_n (pc := 15) dX4_going_15 rfl ?_
  refine t_Vi (pc := 16) (c_X4_leadRow hM hF (by first | assumption | omega)) qV_X4_leadRow mL_X4_76 dX4_going_16 rfl cell_model (by decide) rfl rfl rfl ⟨by decide, by decide⟩ (Nat.le_of_ble_eq_true rfl) (Nat.le_of_ble_eq_true rfl) (Nat.le_of_ble_eq_true rfl) ?_
  refine x_aload_n (pc := 19) dX4_going_19 rfl ?_
  refine x_get (pc := 20) (ci := 4) (k := 0) (C := RX4) (T := TX4) (N := 21) cell_model rfl (by decide) rfl nX4 (by decide) mF_X4_7 rfl dX4_going_20 ?_
  refine x_iconst (pc := 23) (2) dX4_going_23 (by decide) ?_
  refine t_ild (pc := 24) 2 cell_s (by decide) rfl (by decide) (by decide) dX4_going_24 ?_
  try dsimp only
  rw [hM.int 2]
  refine t_Si (pc := 25) (c_X4_off _ _) qS_X4_off mL_X4_73 dX4_going_25 rfl rfl rfl ⟨by decide, by decide⟩ (Nat.le_of_ble_eq_true rfl) (Nat.le_of_ble_eq_true rfl) (Nat.le_of_ble_eq_true rfl) ?_
  refine x_iadd (pc := 28) dX4_going_28 ?_
  exact x_iret rfl dX4_going_29 ⟨by rfl, rfl, rfl⟩
set_option maxHeartbeats 4000000 in
set_option maxRecDepth 100000 in
theorem c_X4_burning (hM : RM s A) (hi : i < A.1) : Ct G yX4_burning YX4_burning 0 0 [.ref (gB G + 247), .int (nI i)] 255 (cellOf G S B (N, s, T)) (Rt G (some (.int (burV A i))) S B (N, s, T)) := by
  refine ct_of (by decide +kernel) rfl rfl (Nat.le_of_ble_eq_true rfl) (by simp [Value.category]) ?_
  refine x_sub (l' := [(0, .ref (gB G + 247)), (1, .int (nI i))]) ⟨rfl, rfl, trivial⟩ ?_
  refine x_iconst (pc := 0) (2) dX4_burning_0 (by decide) ?_
  refine x_aload_n (pc := 1) dX4_burning_1 rfl ?_
  refine x_get (pc := 2) (ci := 4) (k := 0) (C := RX4) (T := TX4) (N := 21) cell_model rfl (by decide) rfl nX4 (by decide) mF_X4_7 rfl dX4_burning_2 ?_
  refine x_iconst (pc := 5) (3) dX4_burning_5 (by decide) ?_
  refine t_ild (pc := 6) 3 cell_s (by decide) rfl (by decide) (by decide) dX4_burning_6 ?_
  try dsimp only
  rw [hM.int 3]
  refine x_iconst (pc := 7) (4) dX4_burning_7 (by decide) ?_
  refine x_idiv (pc := 8) dX4_burning_8 (by decide) ?_
  refine x_iadd (pc := 9) dX4_burning_9 ?_
  refine x_aload_n (pc := 10) dX4_burning_10 rfl ?_
  refine x_iload_n (pc := 11) dX4_burning_11 rfl ?_
  refine t_Vi (pc := 12) (c_X4_edge hM (by first | assumption | omega)) qV_X4_edge mL_X4_79 dX4_burning_12 rfl cell_model (by decide) rfl rfl rfl ⟨by decide, by decide⟩ (Nat.le_of_ble_eq_true rfl) (Nat.le_of_ble_eq_true rfl) (Nat.le_of_ble_eq_true rfl) ?_
  refine x_imul (pc := 15) dX4_burning_15 ?_
  exact x_iret rfl dX4_burning_16 ⟨by unfold burV; rw [Int32.mul_comm], rfl, rfl⟩
set_option maxHeartbeats 4000000 in
set_option maxRecDepth 100000 in
theorem c_X4_cooled (a b : Int32) : Ct G yX4_cooled YX4_cooled 0 0 [.int a, .int b] 255 (cellOf G S B (N, s, T)) (Rt G (some (.int (clV a b))) S B (N, s, T)) := by
  refine ct_of (by decide +kernel) rfl rfl (Nat.le_of_ble_eq_true rfl) (by simp [Value.category]) ?_
  refine x_sub (l' := [(0, .int a), (1, .int b)]) ⟨rfl, rfl, trivial⟩ ?_
  refine x_iload_n (pc := 0) dX4_cooled_0 rfl ?_
  refine x_iload_n (pc := 1) dX4_cooled_1 rfl ?_
  refine x_cmple (pc := 2) 11 dX4_cooled_2 (by decide) (fun c2 => ?_) (fun c2 => ?_)
  · refine x_iconst (pc := 11) (0) dX4_cooled_11 (by decide) ?_
    exact x_iret rfl dX4_cooled_12 ⟨by simp only [clV, *, decide_true, decide_false, decide_not, Bool.and_true, Bool.true_and, Bool.and_false, Bool.false_and, Bool.or_true, Bool.true_or, Bool.or_false, Bool.false_or, Bool.not_true, Bool.not_false, if_true, if_false, not_true, not_false_eq_true, not_false_iff, Bool.false_eq_true, reduceIte, or_true, true_or, or_false, false_or, and_true, true_and, and_false, false_and, ite_self], rfl, rfl⟩
  · refine x_iload_n (pc := 5) dX4_cooled_5 rfl ?_
    refine x_iload_n (pc := 6) dX4_cooled_6 rfl ?_
    refine x_isub (pc := 7) dX4_cooled_7 ?_
    refine x_goto (pc := 8) 12 dX4_cooled_8 (by decide) ?_
    exact x_iret rfl dX4_cooled_12 ⟨by simp only [clV, *, decide_true, decide_false, decide_not, Bool.and_true, Bool.true_and, Bool.and_false, Bool.false_and, Bool.or_true, Bool.true_or, Bool.or_false, Bool.false_or, Bool.not_true, Bool.not_false, if_true, if_false, not_true, not_false_eq_true, not_false_iff, Bool.false_eq_true, reduceIte, or_true, true_or, or_false, false_or, and_true, true_and, and_false, false_and, ite_self], rfl, rfl⟩
end MREAD
