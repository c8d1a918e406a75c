/-! the class: Sheet's readers (rows laid by wip/whole/p13.py) -/
theorem tl_iff {A : Ab} (ht : A.1 ≤ 12) {k : Nat} (hk : k ≤ A.1) : nI k < nI A.1 ↔ k < A.1 := nI_ltI (by omega) (by omega)
section RCS
variable {σ : Sh} {A : Ab} {i k : Nat}
theorem insB_c {f f' g g' : Fs} (h : ∀ k, k < 8 → f k = f' k) (h2 : ∀ k, k < 8 → g k = g' k) : insB f g = insB f' g' := by
  simp only [insB, h 0 (by decide), h 1 (by decide), h 2 (by decide), h 3 (by decide), h2 0 (by decide), h2 1 (by decide), h2 2 (by decide), h2 3 (by decide)]
theorem apaB_c {f f' g g' : Fs} (h : ∀ k, k < 8 → f k = f' k) (h2 : ∀ k, k < 8 → g k = g' k) : apaB f g = apaB f' g' := by
  simp only [apaB, h 0 (by decide), h 1 (by decide), h 2 (by decide), h 3 (by decide), h2 0 (by decide), h2 1 (by decide), h2 2 (by decide), h2 3 (by decide)]
theorem edgV_c {f f' : Fs} (h : ∀ k, k < 8 → f k = f' k) : edgV f = edgV f' := by simp only [edgV, h 2 (by decide), h 3 (by decide)]
theorem lcV_c {f f' : Fs} (h : ∀ k, k < 8 → f k = f' k) : lcV f = lcV f' := by simp only [lcV, h 0 (by decide), h 2 (by decide), h 4 (by decide)]
theorem lrV_c {f f' : Fs} (h : ∀ k, k < 8 → f k = f' k) : lrV f = lrV f' := by simp only [lrV, h 1 (by decide), h 3 (by decide), h 4 (by decide)]
theorem lsV_c {f f' : Fs} (h : ∀ k, k < 8 → f k = f' k) : lsV f = lsV f' := by simp only [lsV, lcV_c h, lrV_c h]
theorem edgQ_c {f f' : Fs} (h : ∀ k, k < 8 → f k = f' k) (k : Nat) : edgQ f k = edgQ f' k := by simp only [edgQ, fldV, fcV, frV, h 0 (by decide), h 1 (by decide), h 2 (by decide), h 3 (by decide)]
theorem RC.ins (h : RC σ A) (hi : i < A.1) (hk : k < A.1) : insB (σ.2.2.2.1 i) (σ.2.2.2.1 k) = insB (A.2.2.2.2 i) (A.2.2.2.2 k) := insB_c (fun q hq => h.shp hi q hq) (fun q hq => h.shp hk q hq)
theorem RC.ins1 (h : RC σ A) (f : Fs) (hi : i < A.1) : insB (σ.2.2.2.1 i) f = insB (A.2.2.2.2 i) f := insB_c (fun q hq => h.shp hi q hq) (fun _ _ => rfl)
theorem RC.ins2 (h : RC σ A) (f : Fs) (hi : i < A.1) : insB f (σ.2.2.2.1 i) = insB f (A.2.2.2.2 i) := insB_c (fun _ _ => rfl) (fun q hq => h.shp hi q hq)
theorem RC.apa2 (h : RC σ A) (f : Fs) (hi : i < A.1) : apaB f (σ.2.2.2.1 i) = apaB f (A.2.2.2.2 i) := apaB_c (fun _ _ => rfl) (fun q hq => h.shp hi q hq)
theorem RC.ed (h : RC σ A) (hi : i < A.1) : edgV (σ.2.2.2.1 i) = edgV (A.2.2.2.2 i) := edgV_c (fun q hq => h.shp hi q hq)
theorem RC.lc (h : RC σ A) (hi : i < A.1) : lcV (σ.2.2.2.1 i) = lcV (A.2.2.2.2 i) := lcV_c (fun q hq => h.shp hi q hq)
theorem RC.lr (h : RC σ A) (hi : i < A.1) : lrV (σ.2.2.2.1 i) = lrV (A.2.2.2.2 i) := lrV_c (fun q hq => h.shp hi q hq)
theorem RC.ls (h : RC σ A) (hi : i < A.1) : lsV (σ.2.2.2.1 i) = lsV (A.2.2.2.2 i) := lsV_c (fun q hq => h.shp hi q hq)
theorem hoB_mono {P : Nat → Fs} {f : Fs} {k : Nat} (h : hoB P f k = true) : ∀ n, k ≤ n → hoB P f n = true := by
  intro n hn
  induction n with
  | zero => rw [show (0 : Nat) = k by omega]; exact h
  | succ n ih =>
    by_cases hk : k = n + 1
    · subst hk; exact h
    · simp only [hoB, ih (by omega), Bool.true_or]
theorem fitB_mono {P : Nat → Fs} {f : Fs} {k : Nat} (h : fitB P f k = false) : ∀ n, k ≤ n → fitB P f n = false := by
  intro n hn
  induction n with
  | zero => rw [show (0 : Nat) = k by omega]; exact h
  | succ n ih =>
    by_cases hk : k = n + 1
    · subst hk; exact h
    · simp only [fitB, ih (by omega), Bool.false_and]
end RCS
section SHEET2
variable {G : GX} {S : Nat → Sh} {B : Bc} {M : Md} {j i : Nat} {σ : Sh}
variable {A : Ab}
set_option maxHeartbeats 4000000 in
set_option maxRecDepth 100000 in
theorem c_X2_knows (hj : j < 8) (hR : RC σ A) (v : Int32) : Ct G yX2_knows YX2_knows 0 0 [.ref (gB G + sB j), .int v] (nN G) (cellOf G (updS S j σ) B M) (Rt G (some (.int (b01 (knB A v)))) (updS S j σ) B M) := by
  refine ct_of (by decide +kernel) rfl rfl (Nat.le_of_ble_eq_true rfl) (by simp [Value.category]) ?_
  refine x_sub (l' := [(0, .ref (gB G + sB j)), (1, .int v)]) ⟨rfl, rfl, trivial⟩ ?_
  have h12 := hR.le
  refine x_iload_n (pc := 0) dX2_knows_0 rfl ?_
  refine x_iflt (pc := 1) 22 dX2_knows_1 (by decide) (fun c1 => ?_) (fun c1 => ?_)
  · refine x_iconst (pc := 22) (0) dX2_knows_22 (by decide) ?_
    exact x_zret rfl rfl dX2_knows_23 ⟨by simp only [b01, knB, *, decide_true, decide_false, decide_not, Bool.and_true, Bool.true_and, Bool.and_false, Bool.false_and, Bool.or_true, Bool.true_or, Bool.or_false, Bool.false_or, Bool.not_true, Bool.not_false, if_true, if_false, not_true, not_false_eq_true, not_false_iff, Bool.false_eq_true, reduceIte, or_true, true_or, or_false, false_or, and_true, true_and, and_false, false_and, ite_self], rfl, rfl⟩
  · refine x_iload_n (pc := 4) dX2_knows_4 rfl ?_
    refine x_aload_n (pc := 5) dX2_knows_5 rfl ?_
    refine x_get (pc := 6) (ci := 2) (k := 3) (C := RX2) (T := TX2) (N := 10) (cell_sheet (by first | assumption | omega)) rfl (sB_255 (by first | assumption | omega)) rfl nX2 (by decide) mF_X2_25 rfl dX2_knows_6 ?_
    rw [hR.told]
    refine x_cmpge (pc := 9) 22 dX2_knows_9 (by decide) (fun c9 => ?_) (fun c9 => ?_)
    · refine x_iconst (pc := 22) (0) dX2_knows_22 (by decide) ?_
      exact x_zret rfl rfl dX2_knows_23 ⟨by simp only [b01, knB, *, decide_true, decide_false, decide_not, Bool.and_true, Bool.true_and, Bool.and_false, Bool.false_and, Bool.or_true, Bool.true_or, Bool.or_false, Bool.false_or, Bool.not_true, Bool.not_false, if_true, if_false, not_true, not_false_eq_true, not_false_iff, Bool.false_eq_true, reduceIte, or_true, true_or, or_false, false_or, and_true, true_and, and_false, false_and, ite_self], rfl, rfl⟩
    · refine x_iload_n (pc := 12) dX2_knows_12 rfl ?_
      refine x_bipush (pc := 13) (12) dX2_knows_13 (by decide) ?_
      refine x_cmpge (pc := 15) 22 dX2_knows_15 (by decide) (fun c15 => ?_) (fun c15 => ?_)
      · refine x_iconst (pc := 22) (0) dX2_knows_22 (by decide) ?_
        exact x_zret rfl rfl dX2_knows_23 ⟨by simp only [b01, knB, *, decide_true, decide_false, decide_not, Bool.and_true, Bool.true_and, Bool.and_false, Bool.false_and, Bool.or_true, Bool.true_or, Bool.or_false, Bool.false_or, Bool.not_true, Bool.not_false, if_true, if_false, not_true, not_false_eq_true, not_false_iff, Bool.false_eq_true, reduceIte, or_true, true_or, or_false, false_or, and_true, true_and, and_false, false_and, ite_self], rfl, rfl⟩
      · refine x_iconst (pc := 18) (1) dX2_knows_18 (by decide) ?_
        refine x_goto (pc := 19) 23 dX2_knows_19 (by decide) ?_
        exact x_zret rfl rfl dX2_knows_23 ⟨by simp only [b01, knB, *, decide_true, decide_false, decide_not, Bool.and_true, Bool.true_and, Bool.and_false, Bool.false_and, Bool.or_true, Bool.true_or, Bool.or_false, Bool.false_or, Bool.not_true, Bool.not_false, if_true, if_false, not_true, not_false_eq_true, not_false_iff, Bool.false_eq_true, reduceIte, or_true, true_or, or_false, false_or, and_true, true_and, and_false, false_and, ite_self], rfl, rfl⟩
set_option maxHeartbeats 4000000 in
set_option maxRecDepth 100000 in
theorem c_X2_wayTo (hj : j < 8) (hR : RC σ A) (hi : i < A.1) : Ct G yX2_wayTo YX2_wayTo 0 0 [.ref (gB G + sB j), .ref (gB G + shO j i)] (nN G) (cellOf G (updS S j σ) B M) (Rt G (some (.int (wayV A i))) (updS S j σ) B M) := by
  refine ct_of (by decide +kernel) rfl rfl (Nat.le_of_ble_eq_true rfl) (by simp [Value.category]) ?_
  refine x_sub (l' := [(0, .ref (gB G + sB j)), (1, .ref (gB G + shO j i))]) ⟨rfl, rfl, trivial⟩ ?_
  have h12 := hR.le
  refine x_aload_n (pc := 0) dX2_wayTo_0 rfl ?_
  refine t_Vi (pc := 1) (c_X1_leadColumn (by first | assumption | omega) (by first | assumption | omega)) qV_X1_leadColumn mL_X2_97 dX2_wayTo_1 rfl (cell_shape (by first | assumption | omega) (by first | assumption | omega)) (shO_255 (by first | assumption | omega) (by first | assumption | omega)) rfl rfl rfl ⟨by decide, by decide⟩ (Nat.le_of_ble_eq_true rfl) (Nat.le_of_ble_eq_true rfl) (Nat.le_of_ble_eq_true rfl) ?_
  rw [hR.lc (by first | assumption | omega)]
  refine x_aload_n (pc := 4) dX2_wayTo_4 rfl ?_
  refine x_get (pc := 5) (ci := 2) (k := 4) (C := RX2) (T := TX2) (N := 10) (cell_sheet (by first | assumption | omega)) rfl (sB_255 (by first | assumption | omega)) rfl nX2 (by decide) mF_X2_29 rfl dX2_wayTo_5 ?_
  rw [hR.int 1]
  refine x_isub (pc := 8) dX2_wayTo_8 ?_
  refine x_abs (pc := 9) mL_X2_137 (by decide) (Nat.le_of_ble_eq_true rfl) (Nat.le_of_ble_eq_true rfl) (Nat.le_of_ble_eq_true rfl) dX2_wayTo_9 ?_
  refine x_aload_n (pc := 12) dX2_wayTo_12 rfl ?_
  refine t_Vi (pc := 13) (c_X1_leadRow (by first | assumption | omega) (by first | assumption | omega)) qV_X1_leadRow mL_X2_101 dX2_wayTo_13 rfl (cell_shape (by first | assumption | omega) (by first | assumption | omega)) (shO_255 (by first | assumption | omega) (by first | assumption | omega)) rfl rfl rfl ⟨by decide, by decide⟩ (Nat.le_of_ble_eq_true rfl) (Nat.le_of_ble_eq_true rfl) (Nat.le_of_ble_eq_true rfl) ?_
  rw [hR.lr (by first | assumption | omega)]
  refine x_aload_n (pc := 16) dX2_wayTo_16 rfl ?_
  refine x_get (pc := 17) (ci := 2) (k := 5) (C := RX2) (T := TX2) (N := 10) (cell_sheet (by first | assumption | omega)) rfl (sB_255 (by first | assumption | omega)) rfl nX2 (by decide) mF_X2_32 rfl dX2_wayTo_17 ?_
  rw [hR.int 2]
  refine x_isub (pc := 20) dX2_wayTo_20 ?_
  refine x_abs (pc := 21) mL_X2_137 (by decide) (Nat.le_of_ble_eq_true rfl) (Nat.le_of_ble_eq_true rfl) (Nat.le_of_ble_eq_true rfl) dX2_wayTo_21 ?_
  refine x_iadd (pc := 24) dX2_wayTo_24 ?_
  exact x_iret rfl dX2_wayTo_25 ⟨by rfl, rfl, rfl⟩
set_option maxHeartbeats 4000000 in
set_option maxRecDepth 100000 in
theorem c_X2_burningOf (hj : j < 8) (hR : RC σ A) (hi : i < A.1) : Ct G yX2_burningOf YX2_burningOf 0 0 [.ref (gB G + sB j), .ref (gB G + shO j i)] (nN G) (cellOf G (updS S j σ) B M) (Rt G (some (.int (burV A i))) (updS S j σ) B M) := by
  refine ct_of (by decide +kernel) rfl rfl (Nat.le_of_ble_eq_true rfl) (by simp [Value.category]) ?_
  refine x_sub (l' := [(0, .ref (gB G + sB j)), (1, .ref (gB G + shO j i))]) ⟨rfl, rfl, trivial⟩ ?_
  have h12 := hR.le
  refine x_aload_n (pc := 0) dX2_burningOf_0 rfl ?_
  refine t_Vi (pc := 1) (c_X1_edge (by first | assumption | omega) (by first | assumption | omega)) qV_X1_edge mL_X2_140 dX2_burningOf_1 rfl (cell_shape (by first | assumption | omega) (by first | assumption | omega)) (shO_255 (by first | assumption | omega) (by first | assumption | omega)) rfl rfl rfl ⟨by decide, by decide⟩ (Nat.le_of_ble_eq_true rfl) (Nat.le_of_ble_eq_true rfl) (Nat.le_of_ble_eq_true rfl) ?_
  rw [hR.ed (by first | assumption | omega)]
  refine x_iconst (pc := 4) (2) dX2_burningOf_4 (by decide) ?_
  refine x_aload_n (pc := 5) dX2_burningOf_5 rfl ?_
  refine x_get (pc := 6) (ci := 2) (k := 6) (C := RX2) (T := TX2) (N := 10) (cell_sheet (by first | assumption | omega)) rfl (sB_255 (by first | assumption | omega)) rfl nX2 (by decide) mF_X2_35 rfl dX2_burningOf_6 ?_
  rw [hR.int 3]
  refine x_iconst (pc := 9) (4) dX2_burningOf_9 (by decide) ?_
  refine x_idiv (pc := 10) dX2_burningOf_10 (by decide) ?_
  refine x_iadd (pc := 11) dX2_burningOf_11 ?_
  refine x_imul (pc := 12) dX2_burningOf_12 ?_
  exact x_iret rfl dX2_burningOf_13 ⟨by rfl, rfl, rfl⟩
set_option maxHeartbeats 4000000 in
set_option maxRecDepth 100000 in
theorem c_X2_holdsWholeShape (hj : j < 8) (hR : RC σ A) (hi : i < A.1) : Ct G yX2_holdsWholeShape YX2_holdsWholeShape 0 0 [.ref (gB G + sB j), .ref (gB G + shO j i)] (nN G) (cellOf G (updS S j σ) B M) (Rt G (some (.int (b01 (hoB A.2.2.2.2 (A.2.2.2.2 i) A.1)))) (updS S j σ) B M) := by
  refine ct_of (by decide +kernel) rfl rfl (Nat.le_of_ble_eq_true rfl) (by simp [Value.category]) ?_
  refine x_sub (l' := [(0, .ref (gB G + sB j)), (1, .ref (gB G + shO j i))]) ⟨rfl, rfl, trivial⟩ ?_
  have h12 := hR.le
  have lp : ∀ k, k ≤ A.1 → hoB A.2.2.2.2 (A.2.2.2.2 i) k = false → XJ G YX2_holdsWholeShape (fun _ => True) (Zx G (Rt G (some (.int (b01 (hoB A.2.2.2.2 (A.2.2.2.2 i) A.1)))) (updS S j σ) B M) 0 0) 2 [(0, .ref (gB G + sB j)), (1, .ref (gB G + shO j i)), (2, .int (nI k))] [] (nN G) (cellOf G (updS S j σ) B M) 0 0 := by
    refine loopD (A.1) ?_
    intro k hk ih hf
    refine x_iload_n (pc := 2) dX2_holdsWholeShape_2 rfl ?_
    refine x_aload_n (pc := 3) dX2_holdsWholeShape_3 rfl ?_
    refine x_get (pc := 4) (ci := 2) (k := 3) (C := RX2) (T := TX2) (N := 10) (cell_sheet (by first | assumption | omega)) rfl (sB_255 (by first | assumption | omega)) rfl nX2 (by decide) mF_X2_25 rfl dX2_holdsWholeShape_4 ?_
    rw [hR.told]
    refine x_cmpge (pc := 7) 43 dX2_holdsWholeShape_7 (by decide) (fun c7 => ?_) (fun c7 => ?_)
    · obtain rfl : k = A.1 := by have := mt (tl_iff hR.le hk).mpr c7; omega
      refine x_iconst (pc := 43) (0) dX2_holdsWholeShape_43 (by decide) ?_
      exact x_zret rfl rfl dX2_holdsWholeShape_44 ⟨by rw [hf]; rfl, rfl, rfl⟩
    · have hkn : k < A.1 := (tl_iff hR.le hk).mp c7
      refine x_aload_n (pc := 10) dX2_holdsWholeShape_10 rfl ?_
      refine x_get (pc := 11) (ci := 2) (k := 0) (C := RX2) (T := TX2) (N := 10) (cell_sheet (by first | assumption | omega)) rfl (sB_255 (by first | assumption | omega)) rfl nX2 (by decide) mF_X2_13 rfl dX2_holdsWholeShape_11 ?_
      refine x_iload_n (pc := 14) dX2_holdsWholeShape_14 rfl ?_
      refine t_shapes (pc := 15) _ (by first | assumption | omega) rfl (by first | assumption | omega) dX2_holdsWholeShape_15 ?_
      refine x_get (pc := 16) (ci := 1) (k := 5) (C := RX1) (T := TX1) (N := 9) (cell_shape (by first | assumption | omega) (by first | assumption | omega)) rfl (shO_255 (by first | assumption | omega) (by first | assumption | omega)) rfl nX1 (by decide) mF_X2_66 rfl dX2_holdsWholeShape_16 ?_
      rw [hR.shp (by first | assumption | omega) 5]
      refine x_ifne (pc := 19) 37 dX2_holdsWholeShape_19 (by decide) (fun c19 => ?_) (fun c19 => ?_)
      · refine x_iinc (pc := 37) (nI (k + 1)) dX2_holdsWholeShape_37 rfl (iinc_nI k) (by decide) ?_
        refine x_goto (pc := 40) 2 dX2_holdsWholeShape_40 (by decide) ?_
        have e := ih hkn (by simp only [hoB, hf]; simp_all [b01])
        exact x_back e ⟨rfl, rfl, rfl, trivial⟩
      · refine x_aload_n (pc := 22) dX2_holdsWholeShape_22 rfl ?_
        refine x_get (pc := 23) (ci := 2) (k := 0) (C := RX2) (T := TX2) (N := 10) (cell_sheet (by first | assumption | omega)) rfl (sB_255 (by first | assumption | omega)) rfl nX2 (by decide) mF_X2_13 rfl dX2_holdsWholeShape_23 ?_
        refine x_iload_n (pc := 26) dX2_holdsWholeShape_26 rfl ?_
        refine t_shapes (pc := 27) _ (by first | assumption | omega) rfl (by first | assumption | omega) dX2_holdsWholeShape_27 ?_
        refine x_aload_n (pc := 28) dX2_holdsWholeShape_28 rfl ?_
        refine t_Vi (pc := 29) (c_X1_isInside (by first | assumption | omega) (by first | assumption | omega) (by first | assumption | omega)) qV_X1_isInside mL_X2_63 dX2_holdsWholeShape_29 rfl (cell_shape (by first | assumption | omega) (by first | assumption | omega)) (shO_255 (by first | assumption | omega) (by first | assumption | omega)) rfl rfl rfl ⟨by decide, by decide⟩ (Nat.le_of_ble_eq_true rfl) (Nat.le_of_ble_eq_true rfl) (Nat.le_of_ble_eq_true rfl) ?_
        rw [hR.ins (by first | assumption | omega) (by first | assumption | omega)]
        refine x_ifeq (pc := 32) 37 dX2_holdsWholeShape_32 (by decide) (fun c32 => ?_) (fun c32 => ?_)
        · refine x_iinc (pc := 37) (nI (k + 1)) dX2_holdsWholeShape_37 rfl (iinc_nI k) (by decide) ?_
          refine x_goto (pc := 40) 2 dX2_holdsWholeShape_40 (by decide) ?_
          have e := ih hkn (by simp only [hoB, hf]; simp_all [b01])
          exact x_back e ⟨rfl, rfl, rfl, trivial⟩
        · refine x_iconst (pc := 35) (1) dX2_holdsWholeShape_35 (by decide) ?_
          exact x_zret rfl rfl dX2_holdsWholeShape_36 ⟨by rw [hoB_mono (k := k + 1) (by simp only [hoB, hf]; simp_all [b01]) A.1 hkn]; rfl, rfl, rfl⟩
  refine x_iconst (pc := 0) (0) dX2_holdsWholeShape_0 (by decide) ?_
  refine x_istore_n (pc := 1) dX2_holdsWholeShape_1 (by decide) ?_
  exact x_back (lp 0 (by omega) rfl) ⟨rfl, rfl, rfl, trivial⟩
set_option maxHeartbeats 4000000 in
set_option maxRecDepth 100000 in
theorem c_X2_heatOver (hj : j < 8) (hR : RC σ A) (hi : i < A.1) : Ct G yX2_heatOver YX2_heatOver 0 0 [.ref (gB G + sB j), .ref (gB G + shO j i)] (nN G) (cellOf G (updS S j σ) B M) (Rt G (some (.int (hovV A i))) (updS S j σ) B M) := by
  refine ct_of (by decide +kernel) rfl rfl (Nat.le_of_ble_eq_true rfl) (by simp [Value.category]) ?_
  refine x_sub (l' := [(0, .ref (gB G + sB j)), (1, .ref (gB G + shO j i))]) ⟨rfl, rfl, trivial⟩ ?_
  have h12 := hR.le
  have lp : ∀ k, k ≤ 12 → XJ G YX2_heatOver (fun _ => True) (Zx G (Rt G (some (.int (hovV A i))) (updS S j σ) B M) 0 0) 4 [(0, .ref (gB G + sB j)), (1, .ref (gB G + shO j i)), (2, .int (hmx (edgQ (A.2.2.2.2 i)) A.2.2.1 k)), (3, .int (nI k))] [] (nN G) (cellOf G (updS S j σ) B M) 0 0 := by
    refine loopD (12) ?_
    intro k hk ih
    refine x_iload_n (pc := 4) dX2_heatOver_4 rfl ?_
    refine x_bipush (pc := 5) (12) dX2_heatOver_5 (by decide) ?_
    refine x_cmpge (pc := 7) 36 dX2_heatOver_7 (by decide) (fun c7 => ?_) (fun c7 => ?_)
    · obtain rfl : k = 12 := by have := mt (lt_lit (n := 12) rfl (by decide) (by omega)).mpr c7; omega
      refine x_iload_n (pc := 36) dX2_heatOver_36 rfl ?_
      refine x_aload_n (pc := 37) dX2_heatOver_37 rfl ?_
      refine x_get (pc := 38) (ci := 2) (k := 2) (C := RX2) (T := TX2) (N := 10) (cell_sheet (by first | assumption | omega)) rfl (sB_255 (by first | assumption | omega)) rfl nX2 (by decide) mF_X2_22 rfl dX2_heatOver_38 ?_
      refine x_iconst (pc := 41) (2) dX2_heatOver_41 (by decide) ?_
      refine t_ild (pc := 42) 2 (cell_sets (by first | assumption | omega)) (stO_255 (by first | assumption | omega)) rfl (by decide) (by decide) dX2_heatOver_42 ?_
      rw [hR.sett _ (by decide)]
      refine x_isub (pc := 43) dX2_heatOver_43 ?_
      exact x_iret rfl dX2_heatOver_44 ⟨by rfl, rfl, rfl⟩
    · have hkn : k < 12 := (lt_lit rfl (by decide) (by omega)).mp c7
      refine x_aload_n (pc := 10) dX2_heatOver_10 rfl ?_
      refine x_get (pc := 11) (ci := 1) (k := 8) (C := RX1) (T := TX1) (N := 9) (cell_shape (by first | assumption | omega) (by first | assumption | omega)) rfl (shO_255 (by first | assumption | omega) (by first | assumption | omega)) rfl nX1 (by decide) mF_X2_128 rfl dX2_heatOver_11 ?_
      refine x_iload_n (pc := 14) dX2_heatOver_14 rfl ?_
      refine t_ild (pc := 15) _ (cell_edge (by first | assumption | omega) (by first | assumption | omega)) (egO_255 (by first | assumption | omega) (by first | assumption | omega)) rfl (by first | assumption | omega) (by decide) dX2_heatOver_15 ?_
      rw [hR.edg (by first | assumption | omega) _ (by first | assumption | omega)]
      refine x_ifle (pc := 16) 30 dX2_heatOver_16 (by decide) (fun c16 => ?_) (fun c16 => ?_)
      · refine x_iinc (pc := 30) (nI (k + 1)) dX2_heatOver_30 rfl (iinc_nI k) (by decide) ?_
        refine x_goto (pc := 33) 4 dX2_heatOver_33 (by decide) ?_
        have e := ih hkn
        simp only [hmx, *, if_true, if_false] at e
        exact x_back e ⟨rfl, rfl, rfl, rfl, trivial⟩
      · refine x_iload_n (pc := 19) dX2_heatOver_19 rfl ?_
        refine x_aload_n (pc := 20) dX2_heatOver_20 rfl ?_
        refine x_get (pc := 21) (ci := 2) (k := 1) (C := RX2) (T := TX2) (N := 10) (cell_sheet (by first | assumption | omega)) rfl (sB_255 (by first | assumption | omega)) rfl nX2 (by decide) mF_X2_18 rfl dX2_heatOver_21 ?_
        refine x_iload_n (pc := 24) dX2_heatOver_24 rfl ?_
        refine t_ild (pc := 25) _ (cell_heats (by first | assumption | omega)) (htO_255 (by first | assumption | omega)) rfl (by first | assumption | omega) (by decide) dX2_heatOver_25 ?_
        rw [hR.heat _ (by first | assumption | omega)]
        refine x_max (pc := 26) mL_X2_131 (by decide) (Nat.le_of_ble_eq_true rfl) (Nat.le_of_ble_eq_true rfl) (Nat.le_of_ble_eq_true rfl) dX2_heatOver_26 ?_
        refine x_istore_n (pc := 29) dX2_heatOver_29 (by decide) ?_
        refine x_iinc (pc := 30) (nI (k + 1)) dX2_heatOver_30 rfl (iinc_nI k) (by decide) ?_
        refine x_goto (pc := 33) 4 dX2_heatOver_33 (by decide) ?_
        have e := ih hkn
        simp only [hmx, *, if_true, if_false] at e
        exact x_back e ⟨rfl, rfl, rfl, rfl, trivial⟩
  refine x_iconst (pc := 0) (0) dX2_heatOver_0 (by decide) ?_
  refine x_istore_n (pc := 1) dX2_heatOver_1 (by decide) ?_
  refine x_iconst (pc := 2) (0) dX2_heatOver_2 (by decide) ?_
  refine x_istore_n (pc := 3) dX2_heatOver_3 (by decide) ?_
  exact x_back (lp 0 (by omega)) ⟨rfl, rfl, rfl, rfl, trivial⟩
set_option maxHeartbeats 4000000 in
set_option maxRecDepth 100000 in
theorem c_X2_reasonAgainst (hj : j < 8) (hR : RC σ A) (hi : i < A.1) : Ct G yX2_reasonAgainst YX2_reasonAgainst 0 0 [.ref (gB G + sB j), .int (nI i)] (nN G) (cellOf G (updS S j σ) B M) (Rt G (some (.int (whyV A i))) (updS S j σ) B M) := by
  refine ct_of (by decide +kernel) rfl rfl (Nat.le_of_ble_eq_true rfl) (by simp [Value.category]) ?_
  refine x_sub (l' := [(0, .ref (gB G + sB j)), (1, .int (nI i))]) ⟨rfl, rfl, trivial⟩ ?_
  have h12 := hR.le
  refine x_aload_n (pc := 0) dX2_reasonAgainst_0 rfl ?_
  refine x_get (pc := 1) (ci := 2) (k := 0) (C := RX2) (T := TX2) (N := 10) (cell_sheet (by first | assumption | omega)) rfl (sB_255 (by first | assumption | omega)) rfl nX2 (by decide) mF_X2_13 rfl dX2_reasonAgainst_1 ?_
  refine x_iload_n (pc := 4) dX2_reasonAgainst_4 rfl ?_
  refine t_shapes (pc := 5) _ (by first | assumption | omega) rfl (by first | assumption | omega) dX2_reasonAgainst_5 ?_
  refine x_astore_n (pc := 6) dX2_reasonAgainst_6 (by decide) ?_
  refine x_aload_n (pc := 7) dX2_reasonAgainst_7 rfl ?_
  refine x_get (pc := 8) (ci := 1) (k := 5) (C := RX1) (T := TX1) (N := 9) (cell_shape (by first | assumption | omega) (by first | assumption | omega)) rfl (shO_255 (by first | assumption | omega) (by first | assumption | omega)) rfl nX1 (by decide) mF_X2_66 rfl dX2_reasonAgainst_8 ?_
  rw [hR.shp (by first | assumption | omega) 5]
  refine x_iconst (pc := 11) (1) dX2_reasonAgainst_11 (by decide) ?_
  refine x_cmpne (pc := 12) 17 dX2_reasonAgainst_12 (by decide) (fun c12 => ?_) (fun c12 => ?_)
  · refine x_aload_n (pc := 17) dX2_reasonAgainst_17 rfl ?_
    refine x_get (pc := 18) (ci := 1) (k := 5) (C := RX1) (T := TX1) (N := 9) (cell_shape (by first | assumption | omega) (by first | assumption | omega)) rfl (shO_255 (by first | assumption | omega) (by first | assumption | omega)) rfl nX1 (by decide) mF_X2_66 rfl dX2_reasonAgainst_18 ?_
    rw [hR.shp (by first | assumption | omega) 5]
    refine x_iconst (pc := 21) (2) dX2_reasonAgainst_21 (by decide) ?_
    refine x_cmpne (pc := 22) 27 dX2_reasonAgainst_22 (by decide) (fun c22 => ?_) (fun c22 => ?_)
    · refine x_aload_n (pc := 27) dX2_reasonAgainst_27 rfl ?_
      refine x_get (pc := 28) (ci := 2) (k := 2) (C := RX2) (T := TX2) (N := 10) (cell_sheet (by first | assumption | omega)) rfl (sB_255 (by first | assumption | omega)) rfl nX2 (by decide) mF_X2_22 rfl dX2_reasonAgainst_28 ?_
      refine x_iconst (pc := 31) (3) dX2_reasonAgainst_31 (by decide) ?_
      refine t_ild (pc := 32) 3 (cell_sets (by first | assumption | omega)) (stO_255 (by first | assumption | omega)) rfl (by decide) (by decide) dX2_reasonAgainst_32 ?_
      rw [hR.sett _ (by decide)]
      refine x_iconst (pc := 33) (1) dX2_reasonAgainst_33 (by decide) ?_
      refine x_cmpne (pc := 34) 47 dX2_reasonAgainst_34 (by decide) (fun c34 => ?_) (fun c34 => ?_)
      · refine x_aload_n (pc := 47) dX2_reasonAgainst_47 rfl ?_
        refine x_aload_n (pc := 48) dX2_reasonAgainst_48 rfl ?_
        refine t_Vi (pc := 49) (c_X2_heatOver (by first | assumption | omega) hR (by first | assumption | omega)) qV_X2_heatOver mL_X2_146 dX2_reasonAgainst_49 rfl (cell_sheet (by first | assumption | omega)) (sB_255 (by first | assumption | omega)) rfl rfl rfl ⟨by decide, by decide⟩ (Nat.le_of_ble_eq_true rfl) (Nat.le_of_ble_eq_true rfl) (Nat.le_of_ble_eq_true rfl) ?_
        refine x_aload_n (pc := 52) dX2_reasonAgainst_52 rfl ?_
        refine x_aload_n (pc := 53) dX2_reasonAgainst_53 rfl ?_
        refine t_Vi (pc := 54) (c_X2_wayTo (by first | assumption | omega) hR (by first | assumption | omega)) qV_X2_wayTo mL_X2_89 dX2_reasonAgainst_54 rfl (cell_sheet (by first | assumption | omega)) (sB_255 (by first | assumption | omega)) rfl rfl rfl ⟨by decide, by decide⟩ (Nat.le_of_ble_eq_true rfl) (Nat.le_of_ble_eq_true rfl) (Nat.le_of_ble_eq_true rfl) ?_
        refine x_aload_n (pc := 57) dX2_reasonAgainst_57 rfl ?_
        refine x_get (pc := 58) (ci := 2) (k := 2) (C := RX2) (T := TX2) (N := 10) (cell_sheet (by first | assumption | omega)) rfl (sB_255 (by first | assumption | omega)) rfl nX2 (by decide) mF_X2_22 rfl dX2_reasonAgainst_58 ?_
        refine x_iconst (pc := 61) (1) dX2_reasonAgainst_61 (by decide) ?_
        refine t_ild (pc := 62) 1 (cell_sets (by first | assumption | omega)) (stO_255 (by first | assumption | omega)) rfl (by decide) (by decide) dX2_reasonAgainst_62 ?_
        rw [hR.sett _ (by decide)]
        refine x_imul (pc := 63) dX2_reasonAgainst_63 ?_
        refine x_cmple (pc := 64) 71 dX2_reasonAgainst_64 (by decide) (fun c64 => ?_) (fun c64 => ?_)
        · refine x_iconst (pc := 71) (0) dX2_reasonAgainst_71 (by decide) ?_
          exact x_iret rfl dX2_reasonAgainst_72 ⟨by simp_all [whyV, b01], rfl, rfl⟩
        · refine x_iconst (pc := 67) (4) dX2_reasonAgainst_67 (by decide) ?_
          refine x_goto (pc := 68) 72 dX2_reasonAgainst_68 (by decide) ?_
          exact x_iret rfl dX2_reasonAgainst_72 ⟨by simp_all [whyV, b01], rfl, rfl⟩
      · refine x_aload_n (pc := 37) dX2_reasonAgainst_37 rfl ?_
        refine x_aload_n (pc := 38) dX2_reasonAgainst_38 rfl ?_
        refine t_Vi (pc := 39) (c_X2_holdsWholeShape (by first | assumption | omega) hR (by first | assumption | omega)) qV_X2_holdsWholeShape mL_X2_143 dX2_reasonAgainst_39 rfl (cell_sheet (by first | assumption | omega)) (sB_255 (by first | assumption | omega)) rfl rfl rfl ⟨by decide, by decide⟩ (Nat.le_of_ble_eq_true rfl) (Nat.le_of_ble_eq_true rfl) (Nat.le_of_ble_eq_true rfl) ?_
        refine x_ifeq (pc := 42) 47 dX2_reasonAgainst_42 (by decide) (fun c42 => ?_) (fun c42 => ?_)
        · refine x_aload_n (pc := 47) dX2_reasonAgainst_47 rfl ?_
          refine x_aload_n (pc := 48) dX2_reasonAgainst_48 rfl ?_
          refine t_Vi (pc := 49) (c_X2_heatOver (by first | assumption | omega) hR (by first | assumption | omega)) qV_X2_heatOver mL_X2_146 dX2_reasonAgainst_49 rfl (cell_sheet (by first | assumption | omega)) (sB_255 (by first | assumption | omega)) rfl rfl rfl ⟨by decide, by decide⟩ (Nat.le_of_ble_eq_true rfl) (Nat.le_of_ble_eq_true rfl) (Nat.le_of_ble_eq_true rfl) ?_
          refine x_aload_n (pc := 52) dX2_reasonAgainst_52 rfl ?_
          refine x_aload_n (pc := 53) dX2_reasonAgainst_53 rfl ?_
          refine t_Vi (pc := 54) (c_X2_wayTo (by first | assumption | omega) hR (by first | assumption | omega)) qV_X2_wayTo mL_X2_89 dX2_reasonAgainst_54 rfl (cell_sheet (by first | assumption | omega)) (sB_255 (by first | assumption | omega)) rfl rfl rfl ⟨by decide, by decide⟩ (Nat.le_of_ble_eq_true rfl) (Nat.le_of_ble_eq_true rfl) (Nat.le_of_ble_eq_true rfl) ?_
          refine x_aload_n (pc := 57) dX2_reasonAgainst_57 rfl ?_
          refine x_get (pc := 58) (ci := 2) (k := 2) (C := RX2) (T := TX2) (N := 10) (cell_sheet (by first | assumption | omega)) rfl (sB_255 (by first | assumption | omega)) rfl nX2 (by decide) mF_X2_22 rfl dX2_reasonAgainst_58 ?_
          refine x_iconst (pc := 61) (1) dX2_reasonAgainst_61 (by decide) ?_
          refine t_ild (pc := 62) 1 (cell_sets (by first | assumption | omega)) (stO_255 (by first | assumption | omega)) rfl (by decide) (by decide) dX2_reasonAgainst_62 ?_
          rw [hR.sett _ (by decide)]
          refine x_imul (pc := 63) dX2_reasonAgainst_63 ?_
          refine x_cmple (pc := 64) 71 dX2_reasonAgainst_64 (by decide) (fun c64 => ?_) (fun c64 => ?_)
          · refine x_iconst (pc := 71) (0) dX2_reasonAgainst_71 (by decide) ?_
            exact x_iret rfl dX2_reasonAgainst_72 ⟨by simp_all [whyV, b01], rfl, rfl⟩
          · refine x_iconst (pc := 67) (4) dX2_reasonAgainst_67 (by decide) ?_
            refine x_goto (pc := 68) 72 dX2_reasonAgainst_68 (by decide) ?_
            exact x_iret rfl dX2_reasonAgainst_72 ⟨by simp_all [whyV, b01], rfl, rfl⟩
        · refine x_iconst (pc := 45) (3) dX2_reasonAgainst_45 (by decide) ?_
          exact x_iret rfl dX2_reasonAgainst_46 ⟨by simp_all [whyV, b01], rfl, rfl⟩
    · refine x_iconst (pc := 25) (2) dX2_reasonAgainst_25 (by decide) ?_
      exact x_iret rfl dX2_reasonAgainst_26 ⟨by simp_all [whyV, b01], rfl, rfl⟩
  · refine x_iconst (pc := 15) (1) dX2_reasonAgainst_15 (by decide) ?_
    exact x_iret rfl dX2_reasonAgainst_16 ⟨by simp_all [whyV, b01], rfl, rfl⟩
end SHEET2
