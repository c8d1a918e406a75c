/-! the class: cutShape, addShape, cutNext, copyFrom (rows laid by wip/whole/p16.py) -/
section SHEET5
variable {G : GX} {S : Nat → Sh} {B : Bc} {M : Md} {j i : Nat} {σ : Sh}
variable {A : Ab}
def midA (A : Ab) (i : Nat) : Ab := burnA (goA (coolA A (wayV A i)) i) i
def m5A (A : Ab) (i : Nat) : Ab := ((midA A i).1, upd (midA A i).2.1 6 ((midA A i).2.1 6 + 1), (midA A i).2.2.1, (midA A i).2.2.2.1, updF (midA A i).2.2.2.2 i (upd (upd ((midA A i).2.2.2.2 i) 5 1) 7 ((midA A i).2.1 6)))
theorem m5_lsV (A : Ab) (i : Nat) : lsV ((m5A A i).2.2.2.2 i) = lsV ((midA A i).2.2.2.2 i) := by
  show lsV (updF _ i _ i) = _
  rw [updF_same]
  exact lsV_5 (fun k hk => (upd_ne _ _ (by omega)).trans (upd_ne _ _ (by omega)))
theorem m5_pre (A : Ab) (i : Nat) (t : Int32) (ht : t = if hinV (m5A A i).2.2.1 (lsV ((m5A A i).2.2.2.2 i)) = grV (m5A A i) then 1 else 0) : ((m5A A i).1, (m5A A i).2.1, (m5A A i).2.2.1, (m5A A i).2.2.2.1, updF (m5A A i).2.2.2.2 i (upd ((m5A A i).2.2.2.2 i) 6 t)) = preA A i := by
  rw [m5_lsV] at ht
  rw [ht]
  show (_, _, _, _, updF (updF _ i _) i (upd (updF _ i _ i) 6 _)) = _
  rw [updF_upd, updF_same]
  rfl
set_option maxHeartbeats 4000000 in
set_option maxRecDepth 100000 in
theorem tl_X2_cutShape (hj : j < 8) (hi : i < A.1) (h12 : A.1 ≤ 12) (hy : whyV A i = 0) {τ : Sh} (R5 : RC τ (m5A A i)) : XJ G YX2_cutShape (fun _ => True) (Zx G (RS G (some (.int (cutX A (nI i)).1)) S j B M ((cutX A (nI i)).2)) 0 0) 85 [(0, .ref (gB G + sB j)), (1, .int (nI i)), (2, .int 0), (3, .ref (gB G + shO j i))] [] (nN G) (cellOf G (updS S j τ) B M) 0 0 := by
  have hi5 : i < (m5A A i).1 := hi
  refine x_aload_n (pc := 85) dX2_cutShape_85 rfl ?_
  refine x_aload_n (pc := 86) dX2_cutShape_86 rfl ?_
  refine x_aload_n (pc := 87) dX2_cutShape_87 rfl ?_
  refine t_Vi (pc := 88) (c_X1_leadSquare (by first | assumption | omega) (by first | assumption | omega)) qV_X1_leadSquare mL_X2_110 dX2_cutShape_88 rfl (cell_shape (by first | assumption | omega) (by first | assumption | omega)) (shO_255 (by first | assumption | omega) (by first | assumption | omega)) rfl rfl rfl ⟨by decide, by decide⟩ (Nat.le_of_ble_eq_true rfl) (Nat.le_of_ble_eq_true rfl) (Nat.le_of_ble_eq_true rfl) ?_
  rw [R5.ls hi5]
  refine t_Vi (pc := 91) (c_X2_heatIn (by first | assumption | omega) R5 _) qV_X2_heatIn mL_X2_113 dX2_cutShape_91 rfl (cell_sheet (by first | assumption | omega)) (sB_255 (by first | assumption | omega)) rfl rfl rfl ⟨by decide, by decide⟩ (Nat.le_of_ble_eq_true rfl) (Nat.le_of_ble_eq_true rfl) (Nat.le_of_ble_eq_true rfl) ?_
  refine x_aload_n (pc := 94) dX2_cutShape_94 rfl ?_
  refine t_Vi (pc := 95) (c_X2_greatestHeat (by first | assumption | omega) R5) qV_X2_greatestHeat mL_X2_116 dX2_cutShape_95 rfl (cell_sheet (by first | assumption | omega)) (sB_255 (by first | assumption | omega)) rfl rfl rfl ⟨by decide, by decide⟩ (Nat.le_of_ble_eq_true rfl) (Nat.le_of_ble_eq_true rfl) (Nat.le_of_ble_eq_true rfl) ?_
  refine x_cmpne (pc := 98) 105 dX2_cutShape_98 (by decide) (fun c98 => ?_) (fun c98 => ?_)
  · have hp := m5_pre A i 0 (by rw [if_neg c98])
    have R6 := RC_shp R5 hi5 6 0
    rw [hp] at R6
    have hi6 : i < (preA A i).1 := hi
    refine x_iconst (pc := 105) (0) dX2_cutShape_105 (by decide) ?_
    refine t_putShape (pc := 106) (by first | assumption | omega) (by first | assumption | omega) 6 (by decide) mF_X2_119 dX2_cutShape_106 ?_
    try dsimp only
    refine x_aload_n (pc := 109) dX2_cutShape_109 rfl ?_
    refine x_aload_n (pc := 110) dX2_cutShape_110 rfl ?_
    refine e_Vi (pc := 111) (c_X2_loseShapesInside (by first | assumption | omega) R6 hi6) qV_X2_loseShapesInside mL_X2_122 dX2_cutShape_111 rfl (cell_sheet (by first | assumption | omega)) (sB_255 (by first | assumption | omega)) rfl rfl rfl ⟨by decide, by decide⟩ (Nat.le_of_ble_eq_true rfl) (Nat.le_of_ble_eq_true rfl) (Nat.le_of_ble_eq_true rfl) ?_
    intro σ7 R7
    exact x_iret rfl dX2_cutShape_114 ⟨σ7, by rw [cutX_nI h12 hi hy]; rfl, rfl, rfl, by rw [cutX_nI h12 hi hy]; exact R7⟩
  · have hp := m5_pre A i 1 (by rw [if_pos c98])
    have R6 := RC_shp R5 hi5 6 1
    rw [hp] at R6
    have hi6 : i < (preA A i).1 := hi
    refine x_iconst (pc := 101) (1) dX2_cutShape_101 (by decide) ?_
    refine x_goto (pc := 102) 106 dX2_cutShape_102 (by decide) ?_
    refine t_putShape (pc := 106) (by first | assumption | omega) (by first | assumption | omega) 6 (by decide) mF_X2_119 dX2_cutShape_106 ?_
    try dsimp only
    refine x_aload_n (pc := 109) dX2_cutShape_109 rfl ?_
    refine x_aload_n (pc := 110) dX2_cutShape_110 rfl ?_
    refine e_Vi (pc := 111) (c_X2_loseShapesInside (by first | assumption | omega) R6 hi6) qV_X2_loseShapesInside mL_X2_122 dX2_cutShape_111 rfl (cell_sheet (by first | assumption | omega)) (sB_255 (by first | assumption | omega)) rfl rfl rfl ⟨by decide, by decide⟩ (Nat.le_of_ble_eq_true rfl) (Nat.le_of_ble_eq_true rfl) (Nat.le_of_ble_eq_true rfl) ?_
    intro σ7 R7
    exact x_iret rfl dX2_cutShape_114 ⟨σ7, by rw [cutX_nI h12 hi hy]; rfl, rfl, rfl, by rw [cutX_nI h12 hi hy]; exact R7⟩
set_option maxHeartbeats 4000000 in
set_option maxRecDepth 100000 in
theorem c_X2_cutShape (hj : j < 8) (hR : RC σ A) (v : Int32) : Ct G yX2_cutShape YX2_cutShape 0 0 [.ref (gB G + sB j), .int v] (nN G) (cellOf G (updS S j σ) B M) (RS G (some (.int (cutX A v).1)) S j B M ((cutX A v).2)) := by
  refine ct_of (by decide +kernel) rfl rfl (Nat.le_of_ble_eq_true rfl) (by simp [Value.category]) ?_
  refine x_sub (l' := [(0, .ref (gB G + sB j)), (1, .int v)]) ⟨rfl, rfl, trivial⟩ ?_
  have h12 := hR.le
  refine x_aload_n (pc := 0) dX2_cutShape_0 rfl ?_
  refine x_iload_n (pc := 1) dX2_cutShape_1 rfl ?_
  refine t_Vi (pc := 2) (c_X2_knows (by first | assumption | omega) hR _) qV_X2_knows mL_X2_72 dX2_cutShape_2 rfl (cell_sheet (by first | assumption | omega)) (sB_255 (by first | assumption | omega)) rfl rfl rfl ⟨by decide, by decide⟩ (Nat.le_of_ble_eq_true rfl) (Nat.le_of_ble_eq_true rfl) (Nat.le_of_ble_eq_true rfl) ?_
  refine x_ifne (pc := 5) 10 dX2_cutShape_5 (by decide) (fun c5 => ?_) (fun c5 => ?_)
  · obtain ⟨i, hi, rfl, hcl⟩ := knB_some hR.le (b01_ne c5)
    refine x_aload_n (pc := 10) dX2_cutShape_10 rfl ?_
    refine x_iload_n (pc := 11) dX2_cutShape_11 rfl ?_
    refine t_Vi (pc := 12) (c_X2_reasonAgainst (by first | assumption | omega) hR (by first | assumption | omega)) qV_X2_reasonAgainst mL_X2_85 dX2_cutShape_12 rfl (cell_sheet (by first | assumption | omega)) (sB_255 (by first | assumption | omega)) rfl rfl rfl ⟨by decide, by decide⟩ (Nat.le_of_ble_eq_true rfl) (Nat.le_of_ble_eq_true rfl) (Nat.le_of_ble_eq_true rfl) ?_
    refine x_istore_n (pc := 15) dX2_cutShape_15 (by decide) ?_
    refine x_iload_n (pc := 16) dX2_cutShape_16 rfl ?_
    refine x_ifeq (pc := 17) 25 dX2_cutShape_17 (by decide) (fun c17 => ?_) (fun c17 => ?_)
    · have h1i : i < (coolA A (wayV A i)).1 := hi
      refine x_aload_n (pc := 25) dX2_cutShape_25 rfl ?_
      refine x_get (pc := 26) (ci := 2) (k := 0) (C := RX2) (T := TX2) (N := 10) (cell_sheet (by first | assumption | omega)) rfl (sB_255 (by first | assumption | omega)) rfl nX2 (by decide) mF_X2_13 rfl dX2_cutShape_26 ?_
      refine x_iload_n (pc := 29) dX2_cutShape_29 rfl ?_
      refine t_shapes (pc := 30) i (by first | assumption | omega) rfl (by first | assumption | omega) dX2_cutShape_30 ?_
      refine x_astore_n (pc := 31) dX2_cutShape_31 (by decide) ?_
      refine x_aload_n (pc := 32) dX2_cutShape_32 rfl ?_
      refine x_aload_n (pc := 33) dX2_cutShape_33 rfl ?_
      refine x_aload_n (pc := 34) dX2_cutShape_34 rfl ?_
      refine t_Vi (pc := 35) (c_X2_wayTo (by first | assumption | omega) hR (by first | assumption | omega)) qV_X2_wayTo mL_X2_89 dX2_cutShape_35 rfl (cell_sheet (by first | assumption | omega)) (sB_255 (by first | assumption | omega)) rfl rfl rfl ⟨by decide, by decide⟩ (Nat.le_of_ble_eq_true rfl) (Nat.le_of_ble_eq_true rfl) (Nat.le_of_ble_eq_true rfl) ?_
      refine e_Vv (pc := 38) (c_X2_coolFor (by first | assumption | omega) hR _) qV_X2_coolFor mL_X2_93 dX2_cutShape_38 rfl (cell_sheet (by first | assumption | omega)) (sB_255 (by first | assumption | omega)) rfl rfl rfl ⟨by decide, by decide⟩ (Nat.le_of_ble_eq_true rfl) (Nat.le_of_ble_eq_true rfl) (Nat.le_of_ble_eq_true rfl) ?_
      intro σ1 R1
      refine x_aload_n (pc := 41) dX2_cutShape_41 rfl ?_
      refine x_aload_n (pc := 42) dX2_cutShape_42 rfl ?_
      refine t_Vi (pc := 43) (c_X1_leadColumn (by first | assumption | omega) (by first | assumption | omega)) qV_X1_leadColumn mL_X2_97 dX2_cutShape_43 rfl (cell_shape (by first | assumption | omega) (by first | assumption | omega)) (shO_255 (by first | assumption | omega) (by first | assumption | omega)) rfl rfl rfl ⟨by decide, by decide⟩ (Nat.le_of_ble_eq_true rfl) (Nat.le_of_ble_eq_true rfl) (Nat.le_of_ble_eq_true rfl) ?_
      rw [R1.lc h1i]
      show XJ _ _ _ _ _ _ (.int (lcV (A.2.2.2.2 i)) :: _) _ _ _ _
      refine t_putSh (pc := 46) (by first | assumption | omega) 1 (by decide) mF_X2_29 dX2_cutShape_46 ?_
      try dsimp only
      refine x_aload_n (pc := 49) dX2_cutShape_49 rfl ?_
      refine x_aload_n (pc := 50) dX2_cutShape_50 rfl ?_
      refine t_Vi (pc := 51) (c_X1_leadRow (by first | assumption | omega) (by first | assumption | omega)) qV_X1_leadRow mL_X2_101 dX2_cutShape_51 rfl (cell_shape (by first | assumption | omega) (by first | assumption | omega)) (shO_255 (by first | assumption | omega) (by first | assumption | omega)) rfl rfl rfl ⟨by decide, by decide⟩ (Nat.le_of_ble_eq_true rfl) (Nat.le_of_ble_eq_true rfl) (Nat.le_of_ble_eq_true rfl) ?_
      try dsimp only
      rw [R1.lr h1i]
      show XJ _ _ _ _ _ _ (.int (lrV (A.2.2.2.2 i)) :: _) _ _ _ _
      refine t_putSh (pc := 54) (by first | assumption | omega) 2 (by decide) mF_X2_32 dX2_cutShape_54 ?_
      try dsimp only
      have R3 : RC _ (goA (coolA A (wayV A i)) i) := RC_int (RC_int R1 1 (lcV (A.2.2.2.2 i))) 2 (lrV (A.2.2.2.2 i))
      refine x_aload_n (pc := 57) dX2_cutShape_57 rfl ?_
      refine x_aload_n (pc := 58) dX2_cutShape_58 rfl ?_
      refine e_Vv (pc := 59) (c_X2_burnEdge (by first | assumption | omega) R3 (by first | assumption | omega)) qV_X2_burnEdge mL_X2_104 dX2_cutShape_59 rfl (cell_sheet (by first | assumption | omega)) (sB_255 (by first | assumption | omega)) rfl rfl rfl ⟨by decide, by decide⟩ (Nat.le_of_ble_eq_true rfl) (Nat.le_of_ble_eq_true rfl) (Nat.le_of_ble_eq_true rfl) ?_
      intro σ4 R4
      have R4 : RC σ4 (midA A i) := R4
      have h4i : i < (midA A i).1 := hi
      refine x_aload_n (pc := 62) dX2_cutShape_62 rfl ?_
      refine x_iconst (pc := 63) (1) dX2_cutShape_63 (by decide) ?_
      refine t_putShape (pc := 64) (by first | assumption | omega) (by first | assumption | omega) 5 (by decide) mF_X2_66 dX2_cutShape_64 ?_
      try dsimp only
      refine x_aload_n (pc := 67) dX2_cutShape_67 rfl ?_
      refine x_aload_n (pc := 68) dX2_cutShape_68 rfl ?_
      refine x_get (pc := 69) (ci := 2) (k := 9) (C := RX2) (T := TX2) (N := 10) (cell_sheet (by first | assumption | omega)) rfl (sB_255 (by first | assumption | omega)) rfl nX2 (by decide) mF_X2_44 rfl dX2_cutShape_69 ?_
      simp only [shpF]
      rw [R4.int 6]
      refine t_putShape (pc := 72) (by first | assumption | omega) (by first | assumption | omega) 7 (by decide) mF_X2_107 dX2_cutShape_72 ?_
      try dsimp only
      simp only [shpF, updF_same, updF_upd]
      refine x_aload_n (pc := 75) dX2_cutShape_75 rfl ?_
      refine x_dup (pc := 76) dX2_cutShape_76 rfl ?_
      refine x_get (pc := 77) (ci := 2) (k := 9) (C := RX2) (T := TX2) (N := 10) (cell_sheet (by first | assumption | omega)) rfl (sB_255 (by first | assumption | omega)) rfl nX2 (by decide) mF_X2_44 rfl dX2_cutShape_77 ?_
      rw [R4.int 6]
      refine x_iconst (pc := 80) (1) dX2_cutShape_80 (by decide) ?_
      refine x_iadd (pc := 81) dX2_cutShape_81 ?_
      refine t_putSh (pc := 82) (by first | assumption | omega) 6 (by decide) mF_X2_44 dX2_cutShape_82 ?_
      try dsimp only
      have R5 := RC_int (RC_shp (RC_shp R4 h4i 5 1) h4i 7 ((midA A i).2.1 6)) 6 ((midA A i).2.1 6 + 1)
      simp only [shpF, updF_same, updF_upd] at R5
      exact x_back (tl_X2_cutShape hj hi h12 (by rw [← c17]) (τ := _) R5) ⟨rfl, rfl, by rw [c17]; rfl, rfl, trivial⟩
    · refine x_bipush (pc := 20) (-10) dX2_cutShape_20 (by decide) ?_
      refine x_iload_n (pc := 22) dX2_cutShape_22 rfl ?_
      refine x_isub (pc := 23) dX2_cutShape_23 ?_
      have t := b01_ne c5
      exact x_iret rfl dX2_cutShape_24 ⟨σ, by simp only [cutX, t, if_true, hcl, if_neg c17], rfl, rfl, by simp only [cutX, t, if_true, hcl, if_neg c17]; exact hR⟩
  · refine x_iconst (pc := 8) (-1) dX2_cutShape_8 (by decide) ?_
    have t := b01_eq c5
    exact x_iret rfl dX2_cutShape_9 ⟨σ, by simp only [cutX, t, Bool.false_eq_true, if_false], rfl, rfl, by simp only [cutX, t, Bool.false_eq_true, if_false]; exact hR⟩
theorem badB_eq {c r w h : Int32} (h1 : betw c 0 31 = true) (h2 : betw r 0 23 = true) (h3 : betw w 2 32 = true) (h4 : betw h 2 24 = true) (h5 : ¬ 32 < c + w) (h6 : ¬ 24 < r + h) : badB c r w h = false := by
  simp only [badB, h1, h2, h3, h4, decide_eq_false h5, decide_eq_false h6]; rfl
set_option maxHeartbeats 4000000 in
set_option maxRecDepth 100000 in
theorem c_X2_addShape (hj : j < 8) (hR : RC σ A) (c r w h : Int32) : Ct G yX2_addShape YX2_addShape 0 0 [.ref (gB G + sB j), .int c, .int r, .int w, .int h] (nN G) (cellOf G (updS S j σ) B M) (RS G (some (.int (tellX A c r w h).1)) S j B M ((tellX A c r w h).2)) := by
  refine ct_of (by decide +kernel) rfl rfl (Nat.le_of_ble_eq_true rfl) (by simp [Value.category]) ?_
  refine x_sub (l' := [(0, .ref (gB G + sB j)), (1, .int c), (2, .int r), (3, .int w), (4, .int h)]) ⟨rfl, rfl, rfl, rfl, rfl, trivial⟩ ?_
  have h12 := hR.le
  refine x_iload_n (pc := 0) dX2_addShape_0 rfl ?_
  refine x_iconst (pc := 1) (0) dX2_addShape_1 (by decide) ?_
  refine x_bipush (pc := 2) (31) dX2_addShape_2 (by decide) ?_
  refine t_Ni (pc := 4) (c_X3_isIn _ _ _) qS_X3_isIn (fun s h => h.2.2.2) dX2_addShape_4 rfl rfl rfl ⟨by decide, by decide⟩ (Nat.le_of_ble_eq_true rfl) (Nat.le_of_ble_eq_true rfl) (Nat.le_of_ble_eq_true rfl) ?_
  refine x_ifeq (pc := 7) 58 dX2_addShape_7 (by decide) (fun c7 => ?_) (fun c7 => ?_)
  · refine x_bipush (pc := 58) (-2) dX2_addShape_58 (by decide) ?_
    have tt : badB c r w h = true := by
      first
      | (have t := b01_eq c7; simp only [badB, t, Bool.false_and, Bool.not_false])
      | (have t := b01_eq c17; simp only [badB, t, Bool.and_false, Bool.false_and, Bool.not_false])
      | (have t := b01_eq c27; simp only [badB, t, Bool.and_false, Bool.false_and, Bool.not_false])
      | (have t := b01_eq c38; simp only [badB, t, Bool.and_false, Bool.false_and, Bool.not_false])
      | (have t := decide_eq_true (show (32 : Int32) < c + w from c46); simp only [badB, t, Bool.not_true, Bool.and_false, Bool.false_and, Bool.not_false])
      | (have t := decide_eq_true (show (24 : Int32) < r + h from c55); simp only [badB, t, Bool.not_true, Bool.and_false, Bool.not_false])
    exact x_iret rfl dX2_addShape_60 ⟨σ, by simp only [tellX, tt, if_true], rfl, rfl, by simp only [tellX, tt, if_true]; exact hR⟩
  · refine x_iload_n (pc := 10) dX2_addShape_10 rfl ?_
    refine x_iconst (pc := 11) (0) dX2_addShape_11 (by decide) ?_
    refine x_bipush (pc := 12) (23) dX2_addShape_12 (by decide) ?_
    refine t_Ni (pc := 14) (c_X3_isIn _ _ _) qS_X3_isIn (fun s h => h.2.2.2) dX2_addShape_14 rfl rfl rfl ⟨by decide, by decide⟩ (Nat.le_of_ble_eq_true rfl) (Nat.le_of_ble_eq_true rfl) (Nat.le_of_ble_eq_true rfl) ?_
    refine x_ifeq (pc := 17) 58 dX2_addShape_17 (by decide) (fun c17 => ?_) (fun c17 => ?_)
    · refine x_bipush (pc := 58) (-2) dX2_addShape_58 (by decide) ?_
      have tt : badB c r w h = true := by
        first
        | (have t := b01_eq c7; simp only [badB, t, Bool.false_and, Bool.not_false])
        | (have t := b01_eq c17; simp only [badB, t, Bool.and_false, Bool.false_and, Bool.not_false])
        | (have t := b01_eq c27; simp only [badB, t, Bool.and_false, Bool.false_and, Bool.not_false])
        | (have t := b01_eq c38; simp only [badB, t, Bool.and_false, Bool.false_and, Bool.not_false])
        | (have t := decide_eq_true (show (32 : Int32) < c + w from c46); simp only [badB, t, Bool.not_true, Bool.and_false, Bool.false_and, Bool.not_false])
        | (have t := decide_eq_true (show (24 : Int32) < r + h from c55); simp only [badB, t, Bool.not_true, Bool.and_false, Bool.not_false])
      exact x_iret rfl dX2_addShape_60 ⟨σ, by simp only [tellX, tt, if_true], rfl, rfl, by simp only [tellX, tt, if_true]; exact hR⟩
    · refine x_iload_n (pc := 20) dX2_addShape_20 rfl ?_
      refine x_iconst (pc := 21) (2) dX2_addShape_21 (by decide) ?_
      refine x_bipush (pc := 22) (32) dX2_addShape_22 (by decide) ?_
      refine t_Ni (pc := 24) (c_X3_isIn _ _ _) qS_X3_isIn (fun s h => h.2.2.2) dX2_addShape_24 rfl rfl rfl ⟨by decide, by decide⟩ (Nat.le_of_ble_eq_true rfl) (Nat.le_of_ble_eq_true rfl) (Nat.le_of_ble_eq_true rfl) ?_
      refine x_ifeq (pc := 27) 58 dX2_addShape_27 (by decide) (fun c27 => ?_) (fun c27 => ?_)
      · refine x_bipush (pc := 58) (-2) dX2_addShape_58 (by decide) ?_
        have tt : badB c r w h = true := by
          first
          | (have t := b01_eq c7; simp only [badB, t, Bool.false_and, Bool.not_false])
          | (have t := b01_eq c17; simp only [badB, t, Bool.and_false, Bool.false_and, Bool.not_false])
          | (have t := b01_eq c27; simp only [badB, t, Bool.and_false, Bool.false_and, Bool.not_false])
          | (have t := b01_eq c38; simp only [badB, t, Bool.and_false, Bool.false_and, Bool.not_false])
          | (have t := decide_eq_true (show (32 : Int32) < c + w from c46); simp only [badB, t, Bool.not_true, Bool.and_false, Bool.false_and, Bool.not_false])
          | (have t := decide_eq_true (show (24 : Int32) < r + h from c55); simp only [badB, t, Bool.not_true, Bool.and_false, Bool.not_false])
        exact x_iret rfl dX2_addShape_60 ⟨σ, by simp only [tellX, tt, if_true], rfl, rfl, by simp only [tellX, tt, if_true]; exact hR⟩
      · refine x_iload (pc := 30) dX2_addShape_30 rfl ?_
        refine x_iconst (pc := 32) (2) dX2_addShape_32 (by decide) ?_
        refine x_bipush (pc := 33) (24) dX2_addShape_33 (by decide) ?_
        refine t_Ni (pc := 35) (c_X3_isIn _ _ _) qS_X3_isIn (fun s h => h.2.2.2) dX2_addShape_35 rfl rfl rfl ⟨by decide, by decide⟩ (Nat.le_of_ble_eq_true rfl) (Nat.le_of_ble_eq_true rfl) (Nat.le_of_ble_eq_true rfl) ?_
        refine x_ifeq (pc := 38) 58 dX2_addShape_38 (by decide) (fun c38 => ?_) (fun c38 => ?_)
        · refine x_bipush (pc := 58) (-2) dX2_addShape_58 (by decide) ?_
          have tt : badB c r w h = true := by
            first
            | (have t := b01_eq c7; simp only [badB, t, Bool.false_and, Bool.not_false])
            | (have t := b01_eq c17; simp only [badB, t, Bool.and_false, Bool.false_and, Bool.not_false])
            | (have t := b01_eq c27; simp only [badB, t, Bool.and_false, Bool.false_and, Bool.not_false])
            | (have t := b01_eq c38; simp only [badB, t, Bool.and_false, Bool.false_and, Bool.not_false])
            | (have t := decide_eq_true (show (32 : Int32) < c + w from c46); simp only [badB, t, Bool.not_true, Bool.and_false, Bool.false_and, Bool.not_false])
            | (have t := decide_eq_true (show (24 : Int32) < r + h from c55); simp only [badB, t, Bool.not_true, Bool.and_false, Bool.not_false])
          exact x_iret rfl dX2_addShape_60 ⟨σ, by simp only [tellX, tt, if_true], rfl, rfl, by simp only [tellX, tt, if_true]; exact hR⟩
        · refine x_iload_n (pc := 41) dX2_addShape_41 rfl ?_
          refine x_iload_n (pc := 42) dX2_addShape_42 rfl ?_
          refine x_iadd (pc := 43) dX2_addShape_43 ?_
          refine x_bipush (pc := 44) (32) dX2_addShape_44 (by decide) ?_
          refine x_cmpgt (pc := 46) 58 dX2_addShape_46 (by decide) (fun c46 => ?_) (fun c46 => ?_)
          · refine x_bipush (pc := 58) (-2) dX2_addShape_58 (by decide) ?_
            have tt : badB c r w h = true := by
              first
              | (have t := b01_eq c7; simp only [badB, t, Bool.false_and, Bool.not_false])
              | (have t := b01_eq c17; simp only [badB, t, Bool.and_false, Bool.false_and, Bool.not_false])
              | (have t := b01_eq c27; simp only [badB, t, Bool.and_false, Bool.false_and, Bool.not_false])
              | (have t := b01_eq c38; simp only [badB, t, Bool.and_false, Bool.false_and, Bool.not_false])
              | (have t := decide_eq_true (show (32 : Int32) < c + w from c46); simp only [badB, t, Bool.not_true, Bool.and_false, Bool.false_and, Bool.not_false])
              | (have t := decide_eq_true (show (24 : Int32) < r + h from c55); simp only [badB, t, Bool.not_true, Bool.and_false, Bool.not_false])
            exact x_iret rfl dX2_addShape_60 ⟨σ, by simp only [tellX, tt, if_true], rfl, rfl, by simp only [tellX, tt, if_true]; exact hR⟩
          · refine x_iload_n (pc := 49) dX2_addShape_49 rfl ?_
            refine x_iload (pc := 50) dX2_addShape_50 rfl ?_
            refine x_iadd (pc := 52) dX2_addShape_52 ?_
            refine x_bipush (pc := 53) (24) dX2_addShape_53 (by decide) ?_
            refine x_cmple (pc := 55) 61 dX2_addShape_55 (by decide) (fun c55 => ?_) (fun c55 => ?_)
            · refine x_aload_n (pc := 61) dX2_addShape_61 rfl ?_
              refine x_get (pc := 62) (ci := 2) (k := 0) (C := RX2) (T := TX2) (N := 10) (cell_sheet (by first | assumption | omega)) rfl (sB_255 (by first | assumption | omega)) rfl nX2 (by decide) mF_X2_13 rfl dX2_addShape_62 ?_
              refine x_aload_n (pc := 65) dX2_addShape_65 rfl ?_
              refine x_get (pc := 66) (ci := 2) (k := 3) (C := RX2) (T := TX2) (N := 10) (cell_sheet (by first | assumption | omega)) rfl (sB_255 (by first | assumption | omega)) rfl nX2 (by decide) mF_X2_25 rfl dX2_addShape_66 ?_
              rw [hR.told]
              refine t_shapes (pc := 69) A.1 (by first | assumption | omega) rfl (show A.1 < 13 by omega) dX2_addShape_69 ?_
              refine x_astore (pc := 70) dX2_addShape_70 (by decide) ?_
              refine x_aload (pc := 72) dX2_addShape_72 rfl ?_
              refine x_iload_n (pc := 74) dX2_addShape_74 rfl ?_
              refine x_iload_n (pc := 75) dX2_addShape_75 rfl ?_
              refine x_iload_n (pc := 76) dX2_addShape_76 rfl ?_
              refine x_iload (pc := 77) dX2_addShape_77 rfl ?_
              refine t_Vv (pc := 79) (c_X1_place (by first | assumption | omega) (show A.1 < 13 by omega) _ _ _ _) qV_X1_place mL_X2_55 dX2_addShape_79 rfl (cell_shape (by first | assumption | omega) (by first | assumption | omega)) (shO_255 (by first | assumption | omega) (by first | assumption | omega)) rfl rfl rfl ⟨by decide, by decide⟩ (Nat.le_of_ble_eq_true rfl) (Nat.le_of_ble_eq_true rfl) (Nat.le_of_ble_eq_true rfl) ?_
              have RP := RC_spare hR (plF (σ.2.2.2.1 A.1) c r w h) (eqE (σ.2.2.2.2 A.1) (plF (σ.2.2.2.1 A.1) c r w h) 12)
              refine x_aload_n (pc := 82) dX2_addShape_82 rfl ?_
              refine x_aload (pc := 83) dX2_addShape_83 rfl ?_
              refine t_Vi (pc := 85) (c_X2_fits (by first | assumption | omega) RP) qV_X2_fits mL_X2_59 dX2_addShape_85 rfl (cell_sheet (by first | assumption | omega)) (sB_255 (by first | assumption | omega)) rfl rfl rfl ⟨by decide, by decide⟩ (Nat.le_of_ble_eq_true rfl) (Nat.le_of_ble_eq_true rfl) (Nat.le_of_ble_eq_true rfl) ?_
              simp only [edgF, shpF, updF_same]
              rw [fitB_4 (f' := plF (fun _ => 0) c r w h) (fun q hq => plF_8 _ _ _ _ _ _ q (by omega))]
              have hb : badB c r w h = false := badB_eq (b01_ne c7) (b01_ne c17) (b01_ne c27) (b01_ne c38) c46 c55
              refine x_ifne (pc := 88) 94 dX2_addShape_88 (by decide) (fun c88 => ?_) (fun c88 => ?_)
              · refine x_aload_n (pc := 94) dX2_addShape_94 rfl ?_
                refine x_get (pc := 95) (ci := 2) (k := 3) (C := RX2) (T := TX2) (N := 10) (cell_sheet (by first | assumption | omega)) rfl (sB_255 (by first | assumption | omega)) rfl nX2 (by decide) mF_X2_25 rfl dX2_addShape_95 ?_
                rw [hR.told]
                refine x_bipush (pc := 98) (12) dX2_addShape_98 (by decide) ?_
                refine x_cmplt (pc := 100) 106 dX2_addShape_100 (by decide) (fun c100 => ?_) (fun c100 => ?_)
                · refine x_aload_n (pc := 106) dX2_addShape_106 rfl ?_
                  refine x_dup (pc := 107) dX2_addShape_107 rfl ?_
                  refine x_get (pc := 108) (ci := 2) (k := 3) (C := RX2) (T := TX2) (N := 10) (cell_sheet (by first | assumption | omega)) rfl (sB_255 (by first | assumption | omega)) rfl nX2 (by decide) mF_X2_25 rfl dX2_addShape_108 ?_
                  rw [hR.told]
                  refine x_iconst (pc := 111) (1) dX2_addShape_111 (by decide) ?_
                  refine x_iadd (pc := 112) dX2_addShape_112 ?_
                  refine t_putSh (pc := 113) (by first | assumption | omega) 0 (by decide) mF_X2_25 dX2_addShape_113 ?_
                  try dsimp only
                  have hk1 : A.1 < 12 := (lt_lit (n := 12) rfl (by decide) (by omega)).mp c100
                  have RA := RC_add hR hk1 (σ.2.2.2.1 A.1) (σ.2.2.2.2 A.1) (fun _ => 0) c r w h
                  simp only [edgF, shpF] at RA
                  refine x_aload_n (pc := 116) dX2_addShape_116 rfl ?_
                  refine x_get (pc := 117) (ci := 2) (k := 3) (C := RX2) (T := TX2) (N := 10) (cell_sheet (by first | assumption | omega)) rfl (sB_255 (by first | assumption | omega)) rfl nX2 (by decide) mF_X2_25 rfl dX2_addShape_117 ?_
                  try dsimp only
                  rw [upd_same]
                  refine x_iconst (pc := 120) (1) dX2_addShape_120 (by decide) ?_
                  refine x_isub (pc := 121) dX2_addShape_121 ?_
                  rw [Int32.add_sub_cancel]
                  have t := b01_ne c88
                  exact x_iret rfl dX2_addShape_122 ⟨_, by simp only [tellX, hb, t, Bool.false_eq_true, if_false, if_true, if_pos hk1], rfl, rfl, by simp only [tellX, hb, t, Bool.false_eq_true, if_false, if_true, if_pos hk1, nI_1]; exact RA⟩
                · refine x_bipush (pc := 103) (-3) dX2_addShape_103 (by decide) ?_
                  have t := b01_ne c88
                  have hk1 : ¬ A.1 < 12 := fun z => c100 ((lt_lit (n := 12) rfl (by decide) (by omega)).mpr z)
                  exact x_iret rfl dX2_addShape_105 ⟨_, by simp only [tellX, hb, t, Bool.false_eq_true, if_false, if_true, if_neg hk1], rfl, rfl, by simp only [tellX, hb, t, Bool.false_eq_true, if_false, if_true, if_neg hk1]; exact RP⟩
              · refine x_bipush (pc := 91) (-4) dX2_addShape_91 (by decide) ?_
                have t := b01_eq c88
                exact x_iret rfl dX2_addShape_93 ⟨_, by simp only [tellX, hb, t, Bool.false_eq_true, if_false], rfl, rfl, by simp only [tellX, hb, t, Bool.false_eq_true, if_false]; exact RP⟩
            · refine x_bipush (pc := 58) (-2) dX2_addShape_58 (by decide) ?_
              have tt : badB c r w h = true := by
                first
                | (have t := b01_eq c7; simp only [badB, t, Bool.false_and, Bool.not_false])
                | (have t := b01_eq c17; simp only [badB, t, Bool.and_false, Bool.false_and, Bool.not_false])
                | (have t := b01_eq c27; simp only [badB, t, Bool.and_false, Bool.false_and, Bool.not_false])
                | (have t := b01_eq c38; simp only [badB, t, Bool.and_false, Bool.false_and, Bool.not_false])
                | (have t := decide_eq_true (show (32 : Int32) < c + w from c46); simp only [badB, t, Bool.not_true, Bool.and_false, Bool.false_and, Bool.not_false])
                | (have t := decide_eq_true (show (24 : Int32) < r + h from c55); simp only [badB, t, Bool.not_true, Bool.and_false, Bool.not_false])
              exact x_iret rfl dX2_addShape_60 ⟨σ, by simp only [tellX, tt, if_true], rfl, rfl, by simp only [tellX, tt, if_true]; exact hR⟩
theorem coolA_t (A : Ab) (x : Int32) : (coolA A x).1 = A.1 := rfl
theorem nextX_1 {A : Ab} {q : Nat} (h : besO A A.1 = some q) : nextX A = (some q, cutA A q) := by simp only [nextX, h]
theorem nextX_2 {A : Ab} (h : besO A A.1 = none) (h2 : fewV A A.1 = -5) : nextX A = (none, A) := by simp only [nextX, h, if_pos h2]
theorem nextX_3 {A : Ab} {q : Nat} (h : besO A A.1 = none) (h2 : ¬ fewV A A.1 = -5) (h3 : besO (coolA A (fewV A A.1)) A.1 = some q) : nextX A = (some q, cutA (coolA A (fewV A A.1)) q) := by simp only [nextX, h, if_neg h2, h3]
theorem nextX_4 {A : Ab} (h : besO A A.1 = none) (h2 : ¬ fewV A A.1 = -5) (h3 : besO (coolA A (fewV A A.1)) A.1 = none) : nextX A = (none, coolA A (fewV A A.1)) := by simp only [nextX, h, if_neg h2, h3]
set_option maxHeartbeats 4000000 in
set_option maxRecDepth 100000 in
theorem tl_X2_cutNext (hj : j < 8) (hR : RC σ A) (hi : i < A.1) (hw : whyV A i = 0) : XJ G YX2_cutNext (fun _ => True) (Zx G (RS G (some (.int (nI i))) S j B M (cutA A i)) 0 0) 35 [(0, .ref (gB G + sB j)), (1, .int (nI i))] [] (nN G) (cellOf G (updS S j σ) B M) 0 0 := by
  have h12 := hR.le
  refine x_iload_n (pc := 35) dX2_cutNext_35 rfl ?_
  refine x_bipush (pc := 36) (-5) dX2_cutNext_36 (by decide) ?_
  refine x_cmpeq (pc := 38) 47 dX2_cutNext_38 (by decide) (fun c38 => absurd c38 (nI_ne5 (by omega))) (fun c38 => ?_)
  refine x_aload_n (pc := 41) dX2_cutNext_41 rfl ?_
  refine x_iload_n (pc := 42) dX2_cutNext_42 rfl ?_
  refine e_Vi (pc := 43) (c_X2_cutShape (by first | assumption | omega) hR _) qV_X2_cutShape mL_X2_161 dX2_cutNext_43 rfl (cell_sheet (by first | assumption | omega)) (sB_255 (by first | assumption | omega)) rfl rfl rfl ⟨by decide, by decide⟩ (Nat.le_of_ble_eq_true rfl) (Nat.le_of_ble_eq_true rfl) (Nat.le_of_ble_eq_true rfl) ?_
  intro σ2 R2
  refine x_pop (pc := 46) dX2_cutNext_46 rfl ?_
  refine x_iload_n (pc := 47) dX2_cutNext_47 rfl ?_
  exact x_iret rfl dX2_cutNext_48 ⟨σ2, rfl, rfl, rfl, by rw [cutX_nI hR.le hi hw] at R2; exact R2⟩
set_option maxHeartbeats 4000000 in
set_option maxRecDepth 100000 in
theorem c_X2_cutNext (hj : j < 8) (hR : RC σ A) : Ct G yX2_cutNext YX2_cutNext 0 0 [.ref (gB G + sB j)] (nN G) (cellOf G (updS S j σ) B M) (RS G (some (.int (oV (nextX A).1))) S j B M ((nextX A).2)) := by
  refine ct_of (by decide +kernel) rfl rfl (Nat.le_of_ble_eq_true rfl) (by simp [Value.category]) ?_
  refine x_sub (l' := [(0, .ref (gB G + sB j))]) ⟨rfl, trivial⟩ ?_
  have h12 := hR.le
  refine x_aload_n (pc := 0) dX2_cutNext_0 rfl ?_
  refine t_Vi (pc := 1) (c_X2_bestShape (by first | assumption | omega) hR) qV_X2_bestShape mL_X2_155 dX2_cutNext_1 rfl (cell_sheet (by first | assumption | omega)) (sB_255 (by first | assumption | omega)) rfl rfl rfl ⟨by decide, by decide⟩ (Nat.le_of_ble_eq_true rfl) (Nat.le_of_ble_eq_true rfl) (Nat.le_of_ble_eq_true rfl) ?_
  refine x_istore_n (pc := 4) dX2_cutNext_4 (by decide) ?_
  refine x_iload_n (pc := 5) dX2_cutNext_5 rfl ?_
  refine x_bipush (pc := 6) (-5) dX2_cutNext_6 (by decide) ?_
  refine x_cmpne (pc := 8) 35 dX2_cutNext_8 (by decide) (fun c8 => ?_) (fun c8 => ?_)
  · obtain ⟨q, hq⟩ := oV_some c8
    have hqt := besO_lt hq
    have e1 := tl_X2_cutNext (G := G) (S := S) (B := B) (M := M) hj hR hqt (besO_why hq)
    rw [nextX_1 hq, hq]
    first
    | exact x_back e1 ⟨rfl, rfl, trivial⟩
    | (show XJ _ _ _ _ _ ((_, .int (oV (besO (coolA A (fewV A A.1)) A.1))) :: _) _ _ _ _ _
       rcases hb2 : besO (coolA A (fewV A A.1)) A.1 with _ | q
       · rw [nextX_4 hn c19 hb2]
         refine x_iload_n (pc := 35) dX2_cutNext_35 rfl ?_
         refine x_bipush (pc := 36) (-5) dX2_cutNext_36 (by decide) ?_
         refine x_cmpeq (pc := 38) 47 dX2_cutNext_38 (by decide) (fun _ => ?_) (fun h => absurd h (by decide))
         refine x_iload_n (pc := 47) dX2_cutNext_47 rfl ?_
         exact x_iret rfl dX2_cutNext_48 ⟨σ1, rfl, rfl, rfl, R1⟩
       · have hqt : q < (coolA A (fewV A A.1)).1 := besO_lt hb2
         have e := tl_X2_cutNext (G := G) (S := S) (B := B) (M := M) hj R1 hqt (besO_why hb2)
         rw [nextX_3 hn c19 hb2]
         exact x_back e ⟨rfl, rfl, trivial⟩)
  · have hbl : ∀ q, besO A A.1 = some q → q < 2 ^ 31 := fun q hq => by have := besO_lt hq; omega
    have hn := oV_none hbl c8
    refine x_aload_n (pc := 11) dX2_cutNext_11 rfl ?_
    refine t_Vi (pc := 12) (c_X2_fewestTicksToCool (by first | assumption | omega) hR) qV_X2_fewestTicksToCool mL_X2_158 dX2_cutNext_12 rfl (cell_sheet (by first | assumption | omega)) (sB_255 (by first | assumption | omega)) rfl rfl rfl ⟨by decide, by decide⟩ (Nat.le_of_ble_eq_true rfl) (Nat.le_of_ble_eq_true rfl) (Nat.le_of_ble_eq_true rfl) ?_
    refine x_istore_n (pc := 15) dX2_cutNext_15 (by decide) ?_
    refine x_iload_n (pc := 16) dX2_cutNext_16 rfl ?_
    refine x_bipush (pc := 17) (-5) dX2_cutNext_17 (by decide) ?_
    refine x_cmpne (pc := 19) 25 dX2_cutNext_19 (by decide) (fun c19 => ?_) (fun c19 => ?_)
    · refine x_aload_n (pc := 25) dX2_cutNext_25 rfl ?_
      refine x_iload_n (pc := 26) dX2_cutNext_26 rfl ?_
      refine e_Vv (pc := 27) (c_X2_coolFor (by first | assumption | omega) hR _) qV_X2_coolFor mL_X2_93 dX2_cutNext_27 rfl (cell_sheet (by first | assumption | omega)) (sB_255 (by first | assumption | omega)) rfl rfl rfl ⟨by decide, by decide⟩ (Nat.le_of_ble_eq_true rfl) (Nat.le_of_ble_eq_true rfl) (Nat.le_of_ble_eq_true rfl) ?_
      intro σ1 R1
      refine x_aload_n (pc := 30) dX2_cutNext_30 rfl ?_
      refine t_Vi (pc := 31) (c_X2_bestShape (by first | assumption | omega) R1) qV_X2_bestShape mL_X2_155 dX2_cutNext_31 rfl (cell_sheet (by first | assumption | omega)) (sB_255 (by first | assumption | omega)) rfl rfl rfl ⟨by decide, by decide⟩ (Nat.le_of_ble_eq_true rfl) (Nat.le_of_ble_eq_true rfl) (Nat.le_of_ble_eq_true rfl) ?_
      refine x_istore_n (pc := 34) dX2_cutNext_34 (by decide) ?_
      first
      | exact x_back e1 ⟨rfl, rfl, trivial⟩
      | (show XJ _ _ _ _ _ ((_, .int (oV (besO (coolA A (fewV A A.1)) A.1))) :: _) _ _ _ _ _
         rcases hb2 : besO (coolA A (fewV A A.1)) A.1 with _ | q
         · rw [nextX_4 hn c19 hb2]
           refine x_iload_n (pc := 35) dX2_cutNext_35 rfl ?_
           refine x_bipush (pc := 36) (-5) dX2_cutNext_36 (by decide) ?_
           refine x_cmpeq (pc := 38) 47 dX2_cutNext_38 (by decide) (fun _ => ?_) (fun h => absurd h (by decide))
           refine x_iload_n (pc := 47) dX2_cutNext_47 rfl ?_
           exact x_iret rfl dX2_cutNext_48 ⟨σ1, rfl, rfl, rfl, R1⟩
         · have hqt : q < (coolA A (fewV A A.1)).1 := besO_lt hb2
           have e := tl_X2_cutNext (G := G) (S := S) (B := B) (M := M) hj R1 hqt (besO_why hb2)
           rw [nextX_3 hn c19 hb2]
           exact x_back e ⟨rfl, rfl, trivial⟩)
    · refine x_bipush (pc := 22) (-5) dX2_cutNext_22 (by decide) ?_
      exact x_iret rfl dX2_cutNext_24 ⟨σ, by rw [nextX_2 hn c19]; rfl, rfl, rfl, by rw [nextX_2 hn c19]; exact hR⟩
def shE (τ : Sh) (A : Ab) (k : Nat) : Prop := (∀ i, i < k → ∀ q, q < 8 → τ.2.2.2.1 i q = A.2.2.2.2 i q) ∧ (∀ i, i < k → ∀ q, q < 12 → τ.2.2.2.2 i q = edgQ (A.2.2.2.2 i) q)
theorem shE_s {τ ρ : Sh} {A : Ab} (h : RC ρ A) {k : Nat} (hk : k < A.1) (hE : shE τ A k) : shE (edgF (shpF τ k (cpF (τ.2.2.2.1 k) (ρ.2.2.2.1 k) 8)) k (cpF (τ.2.2.2.2 k) (ρ.2.2.2.2 k) 12)) A (k + 1) := by
  refine ⟨fun i hi q hq => ?_, fun i hi q hq => ?_⟩
  · show updF τ.2.2.2.1 k _ i q = _
    by_cases e : i = k
    · subst e; rw [updF_same, cpF_in _ _ hq]; exact h.shp hk q hq
    · rw [updF_ne _ _ e]; exact hE.1 i (by omega) q hq
  · show updF τ.2.2.2.2 k _ i q = _
    by_cases e : i = k
    · subst e; rw [updF_same, cpF_in _ _ hq]; exact h.edg hk q hq
    · rw [updF_ne _ _ e]; exact hE.2 i (by omega) q hq
theorem RC_cp {τ ρ : Sh} {A : Ab} (h : RC ρ A) (hE : shE τ A A.1) (I0 H0 T0 : Fs) : RC (cpF I0 ρ.1 7, cpF H0 ρ.2.1 12, cpF T0 ρ.2.2.1 4, τ.2.2.2) A :=
  ⟨h.1, (cpF_in I0 ρ.1 (show 0 < 7 by decide)).trans h.told, fun k h1 h2 => (cpF_in I0 ρ.1 h2).trans (h.int k h1 h2), fun k hk => (cpF_in H0 ρ.2.1 hk).trans (h.heat k hk), fun k hk => (cpF_in T0 ρ.2.2.1 hk).trans (h.sett k hk), hE.1, hE.2⟩
set_option maxHeartbeats 4000000 in
set_option maxRecDepth 100000 in
theorem c_X2_copyFrom {j2 : Nat} (hj : j < 8) (hj2 : j2 < 8) (hne : j2 ≠ j) (hR : RC (S j2) A) : Ct G yX2_copyFrom YX2_copyFrom 0 0 [.ref (gB G + sB j), .ref (gB G + sB j2)] (nN G) (cellOf G (updS S j σ) B M) (RS G (none) S j B M (A)) := by
  refine ct_of (by decide +kernel) rfl rfl (Nat.le_of_ble_eq_true rfl) (by simp [Value.category]) ?_
  refine x_sub (l' := [(0, .ref (gB G + sB j)), (1, .ref (gB G + sB j2))]) ⟨rfl, rfl, trivial⟩ ?_
  have h12 := hR.le
  have lp3 : ∀ k, k ≤ 4 → ∀ τ : Sh, shE τ A A.1 → XJ G YX2_copyFrom (fun _ => True) (Zx G (RS G (none) S j B M (A)) 0 0) 59 [(0, .ref (gB G + sB j)), (1, .ref (gB G + sB j2)), (2, .int (nI k))] [] (nN G) (cellOf G (updS S j (τ.1, cpF τ.2.1 (S j2).2.1 12, cpF τ.2.2.1 (S j2).2.2.1 k, τ.2.2.2)) B M) 0 0 := by
    refine loopD (4) ?_
    intro k hk ih τ hE
    refine x_iload_n (pc := 59) dX2_copyFrom_59 rfl ?_
    refine x_iconst (pc := 60) (4) dX2_copyFrom_60 (by decide) ?_
    refine x_cmpge (pc := 61) 82 dX2_copyFrom_61 (by decide) (fun c61 => ?_) (fun c61 => ?_)
    · obtain rfl : k = 4 := by have := mt (lt_lit (n := 4) rfl (by decide) (by omega)).mpr c61; omega
      refine x_aload_n (pc := 82) dX2_copyFrom_82 rfl ?_
      refine x_aload_n (pc := 83) dX2_copyFrom_83 rfl ?_
      refine x_get (pc := 84) (ci := 2) (k := 3) (C := RX2) (T := TX2) (N := 10) (cell_sheet2 (by assumption) (by assumption)) rfl (sB_255 (by assumption)) rfl nX2 (by decide) mF_X2_25 rfl dX2_copyFrom_84 ?_
      refine t_putSh (pc := 87) (by first | assumption | omega) 0 (by decide) mF_X2_25 dX2_copyFrom_87 ?_
      try dsimp only
      refine x_aload_n (pc := 90) dX2_copyFrom_90 rfl ?_
      refine x_aload_n (pc := 91) dX2_copyFrom_91 rfl ?_
      refine x_get (pc := 92) (ci := 2) (k := 4) (C := RX2) (T := TX2) (N := 10) (cell_sheet2 (by assumption) (by assumption)) rfl (sB_255 (by assumption)) rfl nX2 (by decide) mF_X2_29 rfl dX2_copyFrom_92 ?_
      refine t_putSh (pc := 95) (by first | assumption | omega) 1 (by decide) mF_X2_29 dX2_copyFrom_95 ?_
      try dsimp only
      refine x_aload_n (pc := 98) dX2_copyFrom_98 rfl ?_
      refine x_aload_n (pc := 99) dX2_copyFrom_99 rfl ?_
      refine x_get (pc := 100) (ci := 2) (k := 5) (C := RX2) (T := TX2) (N := 10) (cell_sheet2 (by assumption) (by assumption)) rfl (sB_255 (by assumption)) rfl nX2 (by decide) mF_X2_32 rfl dX2_copyFrom_100 ?_
      refine t_putSh (pc := 103) (by first | assumption | omega) 2 (by decide) mF_X2_32 dX2_copyFrom_103 ?_
      try dsimp only
      refine x_aload_n (pc := 106) dX2_copyFrom_106 rfl ?_
      refine x_aload_n (pc := 107) dX2_copyFrom_107 rfl ?_
      refine x_get (pc := 108) (ci := 2) (k := 6) (C := RX2) (T := TX2) (N := 10) (cell_sheet2 (by assumption) (by assumption)) rfl (sB_255 (by assumption)) rfl nX2 (by decide) mF_X2_35 rfl dX2_copyFrom_108 ?_
      refine t_putSh (pc := 111) (by first | assumption | omega) 3 (by decide) mF_X2_35 dX2_copyFrom_111 ?_
      try dsimp only
      refine x_aload_n (pc := 114) dX2_copyFrom_114 rfl ?_
      refine x_aload_n (pc := 115) dX2_copyFrom_115 rfl ?_
      refine x_get (pc := 116) (ci := 2) (k := 7) (C := RX2) (T := TX2) (N := 10) (cell_sheet2 (by assumption) (by assumption)) rfl (sB_255 (by assumption)) rfl nX2 (by decide) mF_X2_38 rfl dX2_copyFrom_116 ?_
      refine t_putSh (pc := 119) (by first | assumption | omega) 4 (by decide) mF_X2_38 dX2_copyFrom_119 ?_
      try dsimp only
      refine x_aload_n (pc := 122) dX2_copyFrom_122 rfl ?_
      refine x_aload_n (pc := 123) dX2_copyFrom_123 rfl ?_
      refine x_get (pc := 124) (ci := 2) (k := 8) (C := RX2) (T := TX2) (N := 10) (cell_sheet2 (by assumption) (by assumption)) rfl (sB_255 (by assumption)) rfl nX2 (by decide) mF_X2_41 rfl dX2_copyFrom_124 ?_
      refine t_putSh (pc := 127) (by first | assumption | omega) 5 (by decide) mF_X2_41 dX2_copyFrom_127 ?_
      try dsimp only
      refine x_aload_n (pc := 130) dX2_copyFrom_130 rfl ?_
      refine x_aload_n (pc := 131) dX2_copyFrom_131 rfl ?_
      refine x_get (pc := 132) (ci := 2) (k := 9) (C := RX2) (T := TX2) (N := 10) (cell_sheet2 (by assumption) (by assumption)) rfl (sB_255 (by assumption)) rfl nX2 (by decide) mF_X2_44 rfl dX2_copyFrom_132 ?_
      refine t_putSh (pc := 135) (by first | assumption | omega) 6 (by decide) mF_X2_44 dX2_copyFrom_135 ?_
      try dsimp only
      rw [cpF_7]
      exact x_vret rfl dX2_copyFrom_138 ⟨_, rfl, rfl, rfl, RC_cp hR hE _ _ _⟩
    · have hkn : k < 4 := (lt_lit rfl (by decide) (by omega)).mp c61
      refine x_aload_n (pc := 64) dX2_copyFrom_64 rfl ?_
      refine x_get (pc := 65) (ci := 2) (k := 2) (C := RX2) (T := TX2) (N := 10) (cell_sheet (by first | assumption | omega)) rfl (sB_255 (by first | assumption | omega)) rfl nX2 (by decide) mF_X2_22 rfl dX2_copyFrom_65 ?_
      refine x_iload_n (pc := 68) dX2_copyFrom_68 rfl ?_
      refine x_aload_n (pc := 69) dX2_copyFrom_69 rfl ?_
      refine x_get (pc := 70) (ci := 2) (k := 2) (C := RX2) (T := TX2) (N := 10) (cell_sheet2 (by assumption) (by assumption)) rfl (sB_255 (by assumption)) rfl nX2 (by decide) mF_X2_22 rfl dX2_copyFrom_70 ?_
      refine x_iload_n (pc := 73) dX2_copyFrom_73 rfl ?_
      refine t_ild (pc := 74) _ (cell_sets2 (by assumption) (by assumption)) (stO_255 (by assumption)) rfl (by first | assumption | omega) (by decide) dX2_copyFrom_74 ?_
      refine t_stSets (pc := 75) (by first | assumption | omega) _ (by first | assumption | omega) rfl dX2_copyFrom_75 ?_
      try dsimp only
      refine x_iinc (pc := 76) (nI (k + 1)) dX2_copyFrom_76 rfl (iinc_nI k) (by decide) ?_
      refine x_goto (pc := 79) 59 dX2_copyFrom_79 (by decide) ?_
      have e := ih hkn τ hE
      rw [← cpF_s τ.2.2.1 _ k] at e
      exact x_back e ⟨rfl, rfl, rfl, trivial⟩
  have lp2 : ∀ k, k ≤ 12 → ∀ τ : Sh, shE τ A A.1 → XJ G YX2_copyFrom (fun _ => True) (Zx G (RS G (none) S j B M (A)) 0 0) 33 [(0, .ref (gB G + sB j)), (1, .ref (gB G + sB j2)), (2, .int (nI k))] [] (nN G) (cellOf G (updS S j (τ.1, cpF τ.2.1 (S j2).2.1 k, τ.2.2)) B M) 0 0 := by
    refine loopD (12) ?_
    intro k hk ih τ hE
    refine x_iload_n (pc := 33) dX2_copyFrom_33 rfl ?_
    refine x_bipush (pc := 34) (12) dX2_copyFrom_34 (by decide) ?_
    refine x_cmpge (pc := 36) 57 dX2_copyFrom_36 (by decide) (fun c36 => ?_) (fun c36 => ?_)
    · obtain rfl : k = 12 := by have := mt (lt_lit (n := 12) rfl (by decide) (by omega)).mpr c36; omega
      refine x_iconst (pc := 57) (0) dX2_copyFrom_57 (by decide) ?_
      refine x_istore_n (pc := 58) dX2_copyFrom_58 (by decide) ?_
      have e := lp3 0 (by omega) τ hE
      rw [cpF_0] at e
      exact x_back e ⟨rfl, rfl, rfl, trivial⟩
    · have hkn : k < 12 := (lt_lit rfl (by decide) (by omega)).mp c36
      refine x_aload_n (pc := 39) dX2_copyFrom_39 rfl ?_
      refine x_get (pc := 40) (ci := 2) (k := 1) (C := RX2) (T := TX2) (N := 10) (cell_sheet (by first | assumption | omega)) rfl (sB_255 (by first | assumption | omega)) rfl nX2 (by decide) mF_X2_18 rfl dX2_copyFrom_40 ?_
      refine x_iload_n (pc := 43) dX2_copyFrom_43 rfl ?_
      refine x_aload_n (pc := 44) dX2_copyFrom_44 rfl ?_
      refine x_get (pc := 45) (ci := 2) (k := 1) (C := RX2) (T := TX2) (N := 10) (cell_sheet2 (by assumption) (by assumption)) rfl (sB_255 (by assumption)) rfl nX2 (by decide) mF_X2_18 rfl dX2_copyFrom_45 ?_
      refine x_iload_n (pc := 48) dX2_copyFrom_48 rfl ?_
      refine t_ild (pc := 49) _ (cell_heats2 (by assumption) (by assumption)) (htO_255 (by assumption)) rfl (by first | assumption | omega) (by decide) dX2_copyFrom_49 ?_
      refine t_stHeats (pc := 50) (by first | assumption | omega) _ (by first | assumption | omega) rfl dX2_copyFrom_50 ?_
      try dsimp only
      refine x_iinc (pc := 51) (nI (k + 1)) dX2_copyFrom_51 rfl (iinc_nI k) (by decide) ?_
      refine x_goto (pc := 54) 33 dX2_copyFrom_54 (by decide) ?_
      have e := ih hkn τ hE
      rw [← cpF_s τ.2.1 _ k] at e
      exact x_back e ⟨rfl, rfl, rfl, trivial⟩
  have lp1 : ∀ k, k ≤ A.1 → ∀ τ : Sh, shE τ A k → XJ G YX2_copyFrom (fun _ => True) (Zx G (RS G (none) S j B M (A)) 0 0) 2 [(0, .ref (gB G + sB j)), (1, .ref (gB G + sB j2)), (2, .int (nI k))] [] (nN G) (cellOf G (updS S j τ) B M) 0 0 := by
    refine loopD (A.1) ?_
    intro k hk ih τ hE
    refine x_iload_n (pc := 2) dX2_copyFrom_2 rfl ?_
    refine x_aload_n (pc := 3) dX2_copyFrom_3 rfl ?_
    refine x_get (pc := 4) (ci := 2) (k := 3) (C := RX2) (T := TX2) (N := 10) (cell_sheet2 (by assumption) (by assumption)) rfl (sB_255 (by assumption)) rfl nX2 (by decide) mF_X2_25 rfl dX2_copyFrom_4 ?_
    rw [hR.told]
    refine x_cmpge (pc := 7) 31 dX2_copyFrom_7 (by decide) (fun c7 => ?_) (fun c7 => ?_)
    · obtain rfl : k = A.1 := by have := mt (tl_iff hR.le hk).mpr c7; omega
      refine x_iconst (pc := 31) (0) dX2_copyFrom_31 (by decide) ?_
      refine x_istore_n (pc := 32) dX2_copyFrom_32 (by decide) ?_
      have e := lp2 0 (by omega) τ hE
      rw [cpF_0] at e
      exact x_back e ⟨rfl, rfl, rfl, trivial⟩
    · have hkn : k < A.1 := (tl_iff hR.le hk).mp c7
      refine x_aload_n (pc := 10) dX2_copyFrom_10 rfl ?_
      refine x_get (pc := 11) (ci := 2) (k := 0) (C := RX2) (T := TX2) (N := 10) (cell_sheet (by first | assumption | omega)) rfl (sB_255 (by first | assumption | omega)) rfl nX2 (by decide) mF_X2_13 rfl dX2_copyFrom_11 ?_
      refine x_iload_n (pc := 14) dX2_copyFrom_14 rfl ?_
      refine t_shapes (pc := 15) _ (by first | assumption | omega) rfl (by first | assumption | omega) dX2_copyFrom_15 ?_
      refine x_aload_n (pc := 16) dX2_copyFrom_16 rfl ?_
      refine x_get (pc := 17) (ci := 2) (k := 0) (C := RX2) (T := TX2) (N := 10) (cell_sheet2 (by assumption) (by assumption)) rfl (sB_255 (by assumption)) rfl nX2 (by decide) mF_X2_13 rfl dX2_copyFrom_17 ?_
      refine x_iload_n (pc := 20) dX2_copyFrom_20 rfl ?_
      refine t_shapes (pc := 21) _ (by first | assumption | omega) rfl (by first | assumption | omega) dX2_copyFrom_21 ?_
      refine t_Vv (pc := 22) (c_X1_copyFrom (by first | assumption | omega) hj2 hne (by first | assumption | omega)) qV_X1_copyFrom mL_X2_47 dX2_copyFrom_22 rfl (cell_shape (by first | assumption | omega) (by first | assumption | omega)) (shO_255 (by first | assumption | omega) (by first | assumption | omega)) rfl rfl rfl ⟨by decide, by decide⟩ (Nat.le_of_ble_eq_true rfl) (Nat.le_of_ble_eq_true rfl) (Nat.le_of_ble_eq_true rfl) ?_
      refine x_iinc (pc := 25) (nI (k + 1)) dX2_copyFrom_25 rfl (iinc_nI k) (by decide) ?_
      refine x_goto (pc := 28) 2 dX2_copyFrom_28 (by decide) ?_
      have e := ih hkn _ (shE_s hR hkn hE)
      exact x_back e ⟨rfl, rfl, rfl, trivial⟩
  refine x_iconst (pc := 0) (0) dX2_copyFrom_0 (by decide) ?_
  refine x_istore_n (pc := 1) dX2_copyFrom_1 (by decide) ?_
  exact x_back (lp1 0 (by omega) σ ⟨fun _ h => absurd h (by omega), fun _ h => absurd h (by omega)⟩) ⟨rfl, rfl, rfl, trivial⟩
end SHEET5
