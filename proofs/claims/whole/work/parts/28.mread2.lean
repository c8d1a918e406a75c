/-! the reference: readers, second part (rows laid by wip/whole/p28.py) -/
theorem nI_p1 {k : Nat} (h : 0 < k) : nI k - 1 = nI (k - 1) := by
  have := nI_pred (k - 1)
  rwa [Nat.sub_add_cancel h] at this
theorem dec_nI (k : Nat) : nI k + Int32.ofInt (-1) = nI k - 1 := by
  rw [Int32.sub_eq_add_neg]
  rfl
theorem whyV_n {A : Ab} {i : Nat} (hf : vF (A.2.2.2.2 i)) (h : ¬ A.2.2.2.2 i 5 = 0) : whyV A i = A.2.2.2.2 i 5 := by
  unfold whyV
  by_cases a : A.2.2.2.2 i 5 = 1
  · rw [if_pos a, a]
  by_cases b : A.2.2.2.2 i 5 = 2
  · rw [if_neg a, if_pos b, b]
  · exact absurd (f5_0 hf a b) h
theorem whyV_h {A : Ab} {i : Nat} (h : A.2.2.2.2 i 5 = 0) (h1 : A.2.2.2.1 3 = 1) (h2 : hoB A.2.2.2.2 (A.2.2.2.2 i) A.1 = true) : whyV A i = 3 := by
  unfold whyV
  rw [if_neg (by rw [h]; decide), if_neg (by rw [h]; decide), if_pos ⟨h1, h2⟩]
theorem whyV_w {A : Ab} {i : Nat} (h : A.2.2.2.2 i 5 = 0) (h1 : ¬ (A.2.2.2.1 3 = 1 ∧ hoB A.2.2.2.2 (A.2.2.2.2 i) A.1 = true)) : whyV A i = if wayV A i * A.2.2.2.1 1 < hovV A i then 4 else 0 := by
  unfold whyV
  rw [if_neg (by rw [h]; decide), if_neg (by rw [h]; decide), if_neg h1]
section MREAD2
variable {G : GX} {S : Nat → Sh} {B : Bc} {N s : Fs} {T : Fs × Fs × Fs × Fs × Fs × Fs} {A : Ab} {i k : Nat}
set_option maxHeartbeats 4000000 in
set_option maxRecDepth 100000 in
theorem c_X4_hottest (hM : RM s A) (hH : ∀ k, k < 12 → 0 ≤ (A.2.2.1 k).toInt) : Ct G yX4_hottest YX4_hottest 0 0 [.ref (gB G + 247)] 255 (cellOf G S B (N, s, T)) (Rt G (some (.int (grV A))) S B (N, s, T)) := by
  refine ct_of (by decide +kernel) rfl rfl (Nat.le_of_ble_eq_true rfl) (by simp [Value.category]) ?_
  refine x_sub (l' := [(0, .ref (gB G + 247))]) ⟨rfl, trivial⟩ ?_
  have eh : grV A = htN A.2.2.1 12 := (hot_all hH 11 (by decide)).1.symm
  rw [eh]
  have lp : ∀ k, k ≤ 12 → XJ G YX4_hottest (fun _ => True) (Zx G (Rt G (some (.int (htN A.2.2.1 12))) S B (N, s, T)) 0 0) 4 [(0, .ref (gB G + 247)), (1, .int (htN A.2.2.1 k)), (2, .int (nI k))] [] 255 (cellOf G S B (N, s, T)) 0 0 := by
    refine loopD (12) ?_
    intro k hk ih
    refine x_iload_n (pc := 4) dX4_hottest_4 rfl ?_
    refine x_bipush (pc := 5) (12) dX4_hottest_5 (by decide) ?_
    refine x_cmpge (pc := 7) 43 dX4_hottest_7 (by decide) (fun c7 => ?_) (fun c7 => ?_)
    · obtain rfl : k = 12 := by have := mt (lt_lit (n := 12) rfl (by decide) (by omega)).mpr c7; omega
      refine x_iload_n (pc := 43) dX4_hottest_43 rfl ?_
      exact x_iret rfl dX4_hottest_44 ⟨by rfl, rfl, rfl⟩
    · have hkn : k < 12 := (lt_lit rfl (by decide) (by omega)).mp c7
      refine x_aload_n (pc := 10) dX4_hottest_10 rfl ?_
      refine x_get (pc := 11) (ci := 4) (k := 0) (C := RX4) (T := TX4) (N := 21) cell_model rfl (by decide) rfl nX4 (by decide) mF_X4_7 rfl dX4_hottest_11 ?_
      refine x_bipush (pc := 14) (11) dX4_hottest_14 (by decide) ?_
      refine x_iload_n (pc := 16) dX4_hottest_16 rfl ?_
      refine x_iadd (pc := 17) dX4_hottest_17 ?_
      refine t_ild (pc := 18) (11 + k) cell_s (by decide) (nI_11 k) (by omega) (by decide) dX4_hottest_18 ?_
      try dsimp only
      try dsimp only
      rw [hM.heat k hkn]
      refine x_iload_n (pc := 19) dX4_hottest_19 rfl ?_
      refine x_cmple (pc := 20) 35 dX4_hottest_20 (by decide) (fun c20 => ?_) (fun c20 => ?_)
      · refine x_iload_n (pc := 35) dX4_hottest_35 rfl ?_
        refine x_istore_n (pc := 36) dX4_hottest_36 (by decide) ?_
        refine x_iinc (pc := 37) (nI (k + 1)) dX4_hottest_37 rfl (iinc_nI k) (by decide) ?_
        refine x_goto (pc := 40) 4 dX4_hottest_40 (by decide) ?_
        have e := ih hkn
        first
        | (simp only [htN, if_pos c20] at e; exact x_back e ⟨rfl, rfl, rfl, trivial⟩)
        | (simp only [htN, if_neg c20] at e; exact x_back e ⟨rfl, rfl, rfl, trivial⟩)
      · refine x_aload_n (pc := 23) dX4_hottest_23 rfl ?_
        refine x_get (pc := 24) (ci := 4) (k := 0) (C := RX4) (T := TX4) (N := 21) cell_model rfl (by decide) rfl nX4 (by decide) mF_X4_7 rfl dX4_hottest_24 ?_
        refine x_bipush (pc := 27) (11) dX4_hottest_27 (by decide) ?_
        refine x_iload_n (pc := 29) dX4_hottest_29 rfl ?_
        refine x_iadd (pc := 30) dX4_hottest_30 ?_
        refine t_ild (pc := 31) (11 + k) cell_s (by decide) (nI_11 k) (by omega) (by decide) dX4_hottest_31 ?_
        try dsimp only
        try dsimp only
        rw [hM.heat k hkn]
        refine x_goto (pc := 32) 36 dX4_hottest_32 (by decide) ?_
        refine x_istore_n (pc := 36) dX4_hottest_36 (by decide) ?_
        refine x_iinc (pc := 37) (nI (k + 1)) dX4_hottest_37 rfl (iinc_nI k) (by decide) ?_
        refine x_goto (pc := 40) 4 dX4_hottest_40 (by decide) ?_
        have e := ih hkn
        first
        | (simp only [htN, if_pos c20] at e; exact x_back e ⟨rfl, rfl, rfl, trivial⟩)
        | (simp only [htN, if_neg c20] at e; exact x_back e ⟨rfl, rfl, rfl, trivial⟩)
  refine x_iconst (pc := 0) (0) dX4_hottest_0 (by decide) ?_
  refine x_istore_n (pc := 1) dX4_hottest_1 (by decide) ?_
  refine x_iconst (pc := 2) (0) dX4_hottest_2 (by decide) ?_
  refine x_istore_n (pc := 3) dX4_hottest_3 (by decide) ?_
  exact x_back (lp 0 (by omega)) ⟨rfl, rfl, rfl, trivial⟩
set_option maxHeartbeats 4000000 in
set_option maxRecDepth 100000 in
theorem c_X4_isTooHot (hM : RM s A) (hF : vS A) (hi : i < A.1) (x : Int32) : Ct G yX4_isTooHot YX4_isTooHot 0 0 [.ref (gB G + 247), .int (nI i), .int x] 255 (cellOf G S B (N, s, T)) (Rt G (some (.int (b01 (tooN A (edgQ (A.2.2.2.2 i)) (x * A.2.2.2.1 1) 12)))) S B (N, s, T)) := by
  refine ct_of (by decide +kernel) rfl rfl (Nat.le_of_ble_eq_true rfl) (by simp [Value.category]) ?_
  refine x_sub (l' := [(0, .ref (gB G + 247)), (1, .int (nI i)), (2, .int x)]) ⟨rfl, rfl, rfl, trivial⟩ ?_
  have h12 := hM.le
  have lp : ∀ k, k ≤ 12 → XJ G YX4_isTooHot (fun _ => True) (Zx G (Rt G (some (.int (b01 (tooN A (edgQ (A.2.2.2.2 i)) (x * A.2.2.2.1 1) 12)))) S B (N, s, T)) 0 0) 5 [(0, .ref (gB G + 247)), (1, .int (nI i)), (2, .int x), (3, .int (b01 (tooN A (edgQ (A.2.2.2.2 i)) (x * A.2.2.2.1 1) k))), (4, .int (nI k))] [] 255 (cellOf G S B (N, s, T)) 0 0 := by
    refine loopD (12) ?_
    intro k hk ih
    refine x_iload (pc := 5) dX4_isTooHot_5 rfl ?_
    refine x_bipush (pc := 7) (12) dX4_isTooHot_7 (by decide) ?_
    refine x_cmpge (pc := 9) 70 dX4_isTooHot_9 (by decide) (fun c9 => ?_) (fun c9 => ?_)
    · obtain rfl : k = 12 := by have := mt (lt_lit (n := 12) rfl (by decide) (by omega)).mpr c9; omega
      refine x_iload_n (pc := 70) dX4_isTooHot_70 rfl ?_
      exact x_zret rfl (narrow_b01 _) dX4_isTooHot_71 ⟨rfl, rfl, rfl⟩
    · have hkn : k < 12 := (lt_lit rfl (by decide) (by omega)).mp c9
      refine x_iload_n (pc := 12) dX4_isTooHot_12 rfl ?_
      refine x_ifne (pc := 13) 58 dX4_isTooHot_13 (by decide) (fun c13 => ?_) (fun c13 => ?_)
      · refine x_iconst (pc := 58) (1) dX4_isTooHot_58 (by decide) ?_
        refine x_goto (pc := 59) 63 dX4_isTooHot_59 (by decide) ?_
        refine x_istore_n (pc := 63) dX4_isTooHot_63 (by decide) ?_
        refine x_iinc (pc := 64) (nI (k + 1)) dX4_isTooHot_64 rfl (iinc_nI k) (by decide) ?_
        refine x_goto (pc := 67) 5 dX4_isTooHot_67 (by decide) ?_
        have e := ih hkn
        first
        | (simp only [tooN, b01_ne c13, Bool.true_or, b01_1] at e; exact x_back e ⟨rfl, rfl, rfl, rfl, rfl, trivial⟩)
        | (simp only [tooN, b01_eq c13, decide_eq_false c23, Bool.false_and, Bool.or_self, b01_0] at e; exact x_back e ⟨rfl, rfl, rfl, rfl, rfl, trivial⟩)
        | (simp only [tooN, b01_eq c13, decide_eq_true c23, decide_eq_false c55, Bool.and_false, Bool.or_self, b01_0] at e; exact x_back e ⟨rfl, rfl, rfl, rfl, rfl, trivial⟩)
        | (simp only [tooN, b01_eq c13, decide_eq_true c23, decide_eq_true c55, Bool.and_self, Bool.false_or, b01_1] at e; exact x_back e ⟨rfl, rfl, rfl, rfl, rfl, trivial⟩)
      · refine x_aload_n (pc := 16) dX4_isTooHot_16 rfl ?_
        refine x_iload_n (pc := 17) dX4_isTooHot_17 rfl ?_
        refine x_iload (pc := 18) dX4_isTooHot_18 rfl ?_
        refine t_Vi (pc := 20) (c_X4_edgeIn hM hF (by first | assumption | omega) (by first | assumption | omega)) qV_X4_edgeIn mL_X4_85 dX4_isTooHot_20 rfl cell_model (by decide) rfl rfl rfl ⟨by decide, by decide⟩ (Nat.le_of_ble_eq_true rfl) (Nat.le_of_ble_eq_true rfl) (Nat.le_of_ble_eq_true rfl) ?_
        refine x_ifle (pc := 23) 62 dX4_isTooHot_23 (by decide) (fun c23 => ?_) (fun c23 => ?_)
        · refine x_iconst (pc := 62) (0) dX4_isTooHot_62 (by decide) ?_
          refine x_istore_n (pc := 63) dX4_isTooHot_63 (by decide) ?_
          refine x_iinc (pc := 64) (nI (k + 1)) dX4_isTooHot_64 rfl (iinc_nI k) (by decide) ?_
          refine x_goto (pc := 67) 5 dX4_isTooHot_67 (by decide) ?_
          have e := ih hkn
          first
          | (simp only [tooN, b01_ne c13, Bool.true_or, b01_1] at e; exact x_back e ⟨rfl, rfl, rfl, rfl, rfl, trivial⟩)
          | (simp only [tooN, b01_eq c13, decide_eq_false c23, Bool.false_and, Bool.or_self, b01_0] at e; exact x_back e ⟨rfl, rfl, rfl, rfl, rfl, trivial⟩)
          | (simp only [tooN, b01_eq c13, decide_eq_true c23, decide_eq_false c55, Bool.and_false, Bool.or_self, b01_0] at e; exact x_back e ⟨rfl, rfl, rfl, rfl, rfl, trivial⟩)
          | (simp only [tooN, b01_eq c13, decide_eq_true c23, decide_eq_true c55, Bool.and_self, Bool.false_or, b01_1] at e; exact x_back e ⟨rfl, rfl, rfl, rfl, rfl, trivial⟩)
        · refine x_aload_n (pc := 26) dX4_isTooHot_26 rfl ?_
          refine x_get (pc := 27) (ci := 4) (k := 0) (C := RX4) (T := TX4) (N := 21) cell_model rfl (by decide) rfl nX4 (by decide) mF_X4_7 rfl dX4_isTooHot_27 ?_
          refine x_bipush (pc := 30) (11) dX4_isTooHot_30 (by decide) ?_
          refine x_iload (pc := 32) dX4_isTooHot_32 rfl ?_
          refine x_iadd (pc := 34) dX4_isTooHot_34 ?_
          refine t_ild (pc := 35) (11 + k) cell_s (by decide) (nI_11 k) (by omega) (by decide) dX4_isTooHot_35 ?_
          try dsimp only
          try dsimp only
          rw [hM.heat k hkn]
          refine x_iload_n (pc := 36) dX4_isTooHot_36 rfl ?_
          refine x_aload_n (pc := 37) dX4_isTooHot_37 rfl ?_
          refine x_get (pc := 38) (ci := 4) (k := 0) (C := RX4) (T := TX4) (N := 21) cell_model rfl (by decide) rfl nX4 (by decide) mF_X4_7 rfl dX4_isTooHot_38 ?_
          refine x_bipush (pc := 41) (8) dX4_isTooHot_41 (by decide) ?_
          refine t_ild (pc := 43) 8 cell_s (by decide) rfl (by decide) (by decide) dX4_isTooHot_43 ?_
          try dsimp only
          rw [hM.sett 1]
          refine x_imul (pc := 44) dX4_isTooHot_44 ?_
          refine t_Si (pc := 45) (c_X4_cooled _ _) qS_X4_cooled mL_X4_82 dX4_isTooHot_45 rfl rfl rfl ⟨by decide, by decide⟩ (Nat.le_of_ble_eq_true rfl) (Nat.le_of_ble_eq_true rfl) (Nat.le_of_ble_eq_true rfl) ?_
          refine x_aload_n (pc := 48) dX4_isTooHot_48 rfl ?_
          refine x_get (pc := 49) (ci := 4) (k := 0) (C := RX4) (T := TX4) (N := 21) cell_model rfl (by decide) rfl nX4 (by decide) mF_X4_7 rfl dX4_isTooHot_49 ?_
          refine x_bipush (pc := 52) (9) dX4_isTooHot_52 (by decide) ?_
          refine t_ild (pc := 54) 9 cell_s (by decide) rfl (by decide) (by decide) dX4_isTooHot_54 ?_
          try dsimp only
          rw [hM.sett 2]
          refine x_cmple (pc := 55) 62 dX4_isTooHot_55 (by decide) (fun c55 => ?_) (fun c55 => ?_)
          · refine x_iconst (pc := 62) (0) dX4_isTooHot_62 (by decide) ?_
            refine x_istore_n (pc := 63) dX4_isTooHot_63 (by decide) ?_
            refine x_iinc (pc := 64) (nI (k + 1)) dX4_isTooHot_64 rfl (iinc_nI k) (by decide) ?_
            refine x_goto (pc := 67) 5 dX4_isTooHot_67 (by decide) ?_
            have e := ih hkn
            first
            | (simp only [tooN, b01_ne c13, Bool.true_or, b01_1] at e; exact x_back e ⟨rfl, rfl, rfl, rfl, rfl, trivial⟩)
            | (simp only [tooN, b01_eq c13, decide_eq_false c23, Bool.false_and, Bool.or_self, b01_0] at e; exact x_back e ⟨rfl, rfl, rfl, rfl, rfl, trivial⟩)
            | (simp only [tooN, b01_eq c13, decide_eq_true c23, decide_eq_false c55, Bool.and_false, Bool.or_self, b01_0] at e; exact x_back e ⟨rfl, rfl, rfl, rfl, rfl, trivial⟩)
            | (simp only [tooN, b01_eq c13, decide_eq_true c23, decide_eq_true c55, Bool.and_self, Bool.false_or, b01_1] at e; exact x_back e ⟨rfl, rfl, rfl, rfl, rfl, trivial⟩)
          · refine x_iconst (pc := 58) (1) dX4_isTooHot_58 (by decide) ?_
            refine x_goto (pc := 59) 63 dX4_isTooHot_59 (by decide) ?_
            refine x_istore_n (pc := 63) dX4_isTooHot_63 (by decide) ?_
            refine x_iinc (pc := 64) (nI (k + 1)) dX4_isTooHot_64 rfl (iinc_nI k) (by decide) ?_
            refine x_goto (pc := 67) 5 dX4_isTooHot_67 (by decide) ?_
            have e := ih hkn
            first
            | (simp only [tooN, b01_ne c13, Bool.true_or, b01_1] at e; exact x_back e ⟨rfl, rfl, rfl, rfl, rfl, trivial⟩)
            | (simp only [tooN, b01_eq c13, decide_eq_false c23, Bool.false_and, Bool.or_self, b01_0] at e; exact x_back e ⟨rfl, rfl, rfl, rfl, rfl, trivial⟩)
            | (simp only [tooN, b01_eq c13, decide_eq_true c23, decide_eq_false c55, Bool.and_false, Bool.or_self, b01_0] at e; exact x_back e ⟨rfl, rfl, rfl, rfl, rfl, trivial⟩)
            | (simp only [tooN, b01_eq c13, decide_eq_true c23, decide_eq_true c55, Bool.and_self, Bool.false_or, b01_1] at e; exact x_back e ⟨rfl, rfl, rfl, rfl, rfl, trivial⟩)
  refine x_iconst (pc := 0) (0) dX4_isTooHot_0 (by decide) ?_
  refine x_istore_n (pc := 1) dX4_isTooHot_1 (by decide) ?_
  refine x_iconst (pc := 2) (0) dX4_isTooHot_2 (by decide) ?_
  refine x_istore (pc := 3) dX4_isTooHot_3 (by decide) ?_
  exact x_back (lp 0 (by omega)) ⟨rfl, rfl, rfl, rfl, rfl, trivial⟩
set_option maxHeartbeats 4000000 in
set_option maxRecDepth 100000 in
theorem c_X4_why (hM : RM s A) (hV : VA A) (hi : i < A.1) : Ct G yX4_why YX4_why 0 0 [.ref (gB G + 247), .int (nI i)] 255 (cellOf G S B (N, s, T)) (Rt G (some (.int (whyV A i))) S B (N, s, T)) := by
  refine ct_of (by decide +kernel) rfl rfl (Nat.le_of_ble_eq_true rfl) (by simp [Value.category]) ?_
  refine x_sub (l' := [(0, .ref (gB G + 247)), (1, .int (nI i))]) ⟨rfl, rfl, trivial⟩ ?_
  have h12 := hM.le
  have hF := hV.vS
  refine x_aload_n (pc := 0) dX4_why_0 rfl ?_
  refine x_iload_n (pc := 1) dX4_why_1 rfl ?_
  refine t_Vi (pc := 2) (c_X4_isWhole hM (by first | assumption | omega)) qV_X4_isWhole mL_X4_66 dX4_why_2 rfl cell_model (by decide) rfl rfl rfl ⟨by decide, by decide⟩ (Nat.le_of_ble_eq_true rfl) (Nat.le_of_ble_eq_true rfl) (Nat.le_of_ble_eq_true rfl) ?_
  refine x_ifne (pc := 5) 15 dX4_why_5 (by decide) (fun c5 => ?_) (fun c5 => ?_)
  · have t5 : A.2.2.2.2 i 5 = 0 := of_decide_eq_true (b01_ne c5)
    refine x_aload_n (pc := 15) dX4_why_15 rfl ?_
    refine x_get (pc := 16) (ci := 4) (k := 0) (C := RX4) (T := TX4) (N := 21) cell_model rfl (by decide) rfl nX4 (by decide) mF_X4_7 rfl dX4_why_16 ?_
    refine x_bipush (pc := 19) (10) dX4_why_19 (by decide) ?_
    refine t_ild (pc := 21) 10 cell_s (by decide) rfl (by decide) (by decide) dX4_why_21 ?_
    try dsimp only
    rw [hM.sett 3]
    refine x_iconst (pc := 22) (1) dX4_why_22 (by decide) ?_
    refine x_cmpne (pc := 23) 38 dX4_why_23 (by decide) (fun c23 => ?_) (fun c23 => ?_)
    · refine x_aload_n (pc := 38) dX4_why_38 rfl ?_
      refine x_iload_n (pc := 39) dX4_why_39 rfl ?_
      refine x_aload_n (pc := 40) dX4_why_40 rfl ?_
      refine x_iload_n (pc := 41) dX4_why_41 rfl ?_
      refine t_Vi (pc := 42) (c_X4_going hM hV (by first | assumption | omega)) qV_X4_going mL_X4_91 dX4_why_42 rfl cell_model (by decide) rfl rfl rfl ⟨by decide, by decide⟩ (Nat.le_of_ble_eq_true rfl) (Nat.le_of_ble_eq_true rfl) (Nat.le_of_ble_eq_true rfl) ?_
      refine t_Vi (pc := 45) (c_X4_isTooHot hM hF hi _) qV_X4_isTooHot mL_X4_94 dX4_why_45 rfl cell_model (by decide) rfl rfl rfl ⟨by decide, by decide⟩ (Nat.le_of_ble_eq_true rfl) (Nat.le_of_ble_eq_true rfl) (Nat.le_of_ble_eq_true rfl) ?_
      try dsimp only
      rw [too_eq hV hi]
      refine x_ifeq (pc := 48) 55 dX4_why_48 (by decide) (fun c48 => ?_) (fun c48 => ?_)
      · have t48 := of_decide_eq_false (b01_eq c48)
        refine x_iconst (pc := 55) (0) dX4_why_55 (by decide) ?_
        first
        | (have z := t48
           exact x_iret rfl dX4_why_56 ⟨by rw [whyV_w t5 (by first | (rintro ⟨q, -⟩; exact c23 q) | (rintro ⟨-, q⟩; rw [b01_eq c31] at q; cases q))]; first | rw [if_pos z] | rw [if_neg z], rfl, rfl⟩)
        | (have z := b01_ne c31
           exact x_iret rfl dX4_why_56 ⟨by rw [whyV_h t5 c23 z], rfl, rfl⟩)
        | (have z := id (α := ¬ A.2.2.2.2 i 5 = 0) t5
           exact x_iret rfl dX4_why_56 ⟨by rw [whyV_n (hF i hi) z], rfl, rfl⟩)
      · have t48 := of_decide_eq_true (b01_ne c48)
        refine x_iconst (pc := 51) (4) dX4_why_51 (by decide) ?_
        refine x_goto (pc := 52) 56 dX4_why_52 (by decide) ?_
        first
        | (have z := t48
           exact x_iret rfl dX4_why_56 ⟨by rw [whyV_w t5 (by first | (rintro ⟨q, -⟩; exact c23 q) | (rintro ⟨-, q⟩; rw [b01_eq c31] at q; cases q))]; first | rw [if_pos z] | rw [if_neg z], rfl, rfl⟩)
        | (have z := b01_ne c31
           exact x_iret rfl dX4_why_56 ⟨by rw [whyV_h t5 c23 z], rfl, rfl⟩)
        | (have z := id (α := ¬ A.2.2.2.2 i 5 = 0) t5
           exact x_iret rfl dX4_why_56 ⟨by rw [whyV_n (hF i hi) z], rfl, rfl⟩)
    · refine x_aload_n (pc := 26) dX4_why_26 rfl ?_
      refine x_iload_n (pc := 27) dX4_why_27 rfl ?_
      refine t_Vi (pc := 28) (c_X4_hasWholeInside hM hF (by first | assumption | omega)) qV_X4_hasWholeInside mL_X4_88 dX4_why_28 rfl cell_model (by decide) rfl rfl rfl ⟨by decide, by decide⟩ (Nat.le_of_ble_eq_true rfl) (Nat.le_of_ble_eq_true rfl) (Nat.le_of_ble_eq_true rfl) ?_
      refine x_ifeq (pc := 31) 38 dX4_why_31 (by decide) (fun c31 => ?_) (fun c31 => ?_)
      · refine x_aload_n (pc := 38) dX4_why_38 rfl ?_
        refine x_iload_n (pc := 39) dX4_why_39 rfl ?_
        refine x_aload_n (pc := 40) dX4_why_40 rfl ?_
        refine x_iload_n (pc := 41) dX4_why_41 rfl ?_
        refine t_Vi (pc := 42) (c_X4_going hM hV (by first | assumption | omega)) qV_X4_going mL_X4_91 dX4_why_42 rfl cell_model (by decide) rfl rfl rfl ⟨by decide, by decide⟩ (Nat.le_of_ble_eq_true rfl) (Nat.le_of_ble_eq_true rfl) (Nat.le_of_ble_eq_true rfl) ?_
        refine t_Vi (pc := 45) (c_X4_isTooHot hM hF hi _) qV_X4_isTooHot mL_X4_94 dX4_why_45 rfl cell_model (by decide) rfl rfl rfl ⟨by decide, by decide⟩ (Nat.le_of_ble_eq_true rfl) (Nat.le_of_ble_eq_true rfl) (Nat.le_of_ble_eq_true rfl) ?_
        try dsimp only
        rw [too_eq hV hi]
        refine x_ifeq (pc := 48) 55 dX4_why_48 (by decide) (fun c48 => ?_) (fun c48 => ?_)
        · have t48 := of_decide_eq_false (b01_eq c48)
          refine x_iconst (pc := 55) (0) dX4_why_55 (by decide) ?_
          first
          | (have z := t48
             exact x_iret rfl dX4_why_56 ⟨by rw [whyV_w t5 (by first | (rintro ⟨q, -⟩; exact c23 q) | (rintro ⟨-, q⟩; rw [b01_eq c31] at q; cases q))]; first | rw [if_pos z] | rw [if_neg z], rfl, rfl⟩)
          | (have z := b01_ne c31
             exact x_iret rfl dX4_why_56 ⟨by rw [whyV_h t5 c23 z], rfl, rfl⟩)
          | (have z := id (α := ¬ A.2.2.2.2 i 5 = 0) t5
             exact x_iret rfl dX4_why_56 ⟨by rw [whyV_n (hF i hi) z], rfl, rfl⟩)
        · have t48 := of_decide_eq_true (b01_ne c48)
          refine x_iconst (pc := 51) (4) dX4_why_51 (by decide) ?_
          refine x_goto (pc := 52) 56 dX4_why_52 (by decide) ?_
          first
          | (have z := t48
             exact x_iret rfl dX4_why_56 ⟨by rw [whyV_w t5 (by first | (rintro ⟨q, -⟩; exact c23 q) | (rintro ⟨-, q⟩; rw [b01_eq c31] at q; cases q))]; first | rw [if_pos z] | rw [if_neg z], rfl, rfl⟩)
          | (have z := b01_ne c31
             exact x_iret rfl dX4_why_56 ⟨by rw [whyV_h t5 c23 z], rfl, rfl⟩)
          | (have z := id (α := ¬ A.2.2.2.2 i 5 = 0) t5
             exact x_iret rfl dX4_why_56 ⟨by rw [whyV_n (hF i hi) z], rfl, rfl⟩)
      · refine x_iconst (pc := 34) (3) dX4_why_34 (by decide) ?_
        refine x_goto (pc := 35) 56 dX4_why_35 (by decide) ?_
        first
        | (have z := t48
           exact x_iret rfl dX4_why_56 ⟨by rw [whyV_w t5 (by first | (rintro ⟨q, -⟩; exact c23 q) | (rintro ⟨-, q⟩; rw [b01_eq c31] at q; cases q))]; first | rw [if_pos z] | rw [if_neg z], rfl, rfl⟩)
        | (have z := b01_ne c31
           exact x_iret rfl dX4_why_56 ⟨by rw [whyV_h t5 c23 z], rfl, rfl⟩)
        | (have z := id (α := ¬ A.2.2.2.2 i 5 = 0) t5
           exact x_iret rfl dX4_why_56 ⟨by rw [whyV_n (hF i hi) z], rfl, rfl⟩)
  · have t5 : ¬ A.2.2.2.2 i 5 = 0 := of_decide_eq_false (b01_eq c5)
    refine x_aload_n (pc := 8) dX4_why_8 rfl ?_
    refine x_iload_n (pc := 9) dX4_why_9 rfl ?_
    refine x_iconst (pc := 10) (5) dX4_why_10 (by decide) ?_
    refine t_Vi (pc := 11) (c_X4_of hM (by first | assumption | omega) 5 (by decide)) qV_X4_of mL_X4_46 dX4_why_11 rfl cell_model (by decide) rfl rfl rfl ⟨by decide, by decide⟩ (Nat.le_of_ble_eq_true rfl) (Nat.le_of_ble_eq_true rfl) (Nat.le_of_ble_eq_true rfl) ?_
    first
    | (have z := t48
       exact x_iret rfl dX4_why_14 ⟨by rw [whyV_w t5 (by first | (rintro ⟨q, -⟩; exact c23 q) | (rintro ⟨-, q⟩; rw [b01_eq c31] at q; cases q))]; first | rw [if_pos z] | rw [if_neg z], rfl, rfl⟩)
    | (have z := b01_ne c31
       exact x_iret rfl dX4_why_14 ⟨by rw [whyV_h t5 c23 z], rfl, rfl⟩)
    | (have z := id (α := ¬ A.2.2.2.2 i 5 = 0) t5
       exact x_iret rfl dX4_why_14 ⟨by rw [whyV_n (hF i hi) z], rfl, rfl⟩)
set_option maxHeartbeats 4000000 in
set_option maxRecDepth 100000 in
theorem c_X4_waitFor (hM : RM s A) (hV : VA A) (hi : i < A.1) : Ct G yX4_waitFor YX4_waitFor 0 0 [.ref (gB G + 247), .int (nI i)] 255 (cellOf G S B (N, s, T)) (Rt G (some (.int (wfR A i))) S B (N, s, T)) := by
  refine ct_of (by decide +kernel) rfl rfl (Nat.le_of_ble_eq_true rfl) (by simp [Value.category]) ?_
  refine x_sub (l' := [(0, .ref (gB G + 247)), (1, .int (nI i))]) ⟨rfl, rfl, trivial⟩ ?_
  have h12 := hM.le
  have hF := hV.vS
  have lp : ∀ k, k ≤ 12 → (∀ q, q < k → ¬ (A.2.2.2.1 1 = 0 ∧ 0 < A.2.2.1 q - A.2.2.2.1 2 ∧ 0 < edgQ (A.2.2.2.2 i) q)) → XJ G YX4_waitFor (fun _ => True) (Zx G (Rt G (some (.int (wfR A i))) S B (N, s, T)) 0 0) 4 [(0, .ref (gB G + 247)), (1, .int (nI i)), (2, .int (wfN (edgQ (A.2.2.2.2 i)) A.2.2.1 (A.2.2.2.1 2) (A.2.2.2.1 1) k)), (3, .int (nI k))] [] 255 (cellOf G S B (N, s, T)) 0 0 := by
    refine loopD (12) ?_
    intro k hk ih hf
    refine x_iload_n (pc := 4) dX4_waitFor_4 rfl ?_
    refine x_bipush (pc := 5) (12) dX4_waitFor_5 (by decide) ?_
    refine x_cmpge (pc := 7) 97 dX4_waitFor_7 (by decide) (fun c7 => ?_) (fun c7 => ?_)
    · obtain rfl : k = 12 := by have := mt (lt_lit (n := 12) rfl (by decide) (by omega)).mpr c7; omega
      refine x_iload_n (pc := 97) dX4_waitFor_97 rfl ?_
      refine x_aload_n (pc := 98) dX4_waitFor_98 rfl ?_
      refine x_iload_n (pc := 99) dX4_waitFor_99 rfl ?_
      refine t_Vi (pc := 100) (c_X4_going hM hV (by first | assumption | omega)) qV_X4_going mL_X4_91 dX4_waitFor_100 rfl cell_model (by decide) rfl rfl rfl ⟨by decide, by decide⟩ (Nat.le_of_ble_eq_true rfl) (Nat.le_of_ble_eq_true rfl) (Nat.le_of_ble_eq_true rfl) ?_
      refine x_cmple (pc := 103) 116 dX4_waitFor_103 (by decide) (fun c103 => ?_) (fun c103 => ?_)
      · have hn : ¬ (A.2.2.2.1 1 = 0 ∧ 0 < hovV A i) := fun z => hov_no hV (fun q hq y => hf q hq ⟨z.1, y⟩) z.2
        
        refine x_iconst (pc := 116) (0) dX4_waitFor_116 (by decide) ?_
        first
        | (have z := id (α := wayV A i < _) c103; exact x_iret rfl dX4_waitFor_117 ⟨by rw [wfR, if_neg hn, if_pos z], rfl, rfl⟩)
        | (have z := c103; exact x_iret rfl dX4_waitFor_117 ⟨by rw [wfR, if_neg hn, if_neg z], rfl, rfl⟩)
      · have hn : ¬ (A.2.2.2.1 1 = 0 ∧ 0 < hovV A i) := fun z => hov_no hV (fun q hq y => hf q hq ⟨z.1, y⟩) z.2
        
        refine x_iload_n (pc := 106) dX4_waitFor_106 rfl ?_
        refine x_aload_n (pc := 107) dX4_waitFor_107 rfl ?_
        refine x_iload_n (pc := 108) dX4_waitFor_108 rfl ?_
        refine t_Vi (pc := 109) (c_X4_going hM hV (by first | assumption | omega)) qV_X4_going mL_X4_91 dX4_waitFor_109 rfl cell_model (by decide) rfl rfl rfl ⟨by decide, by decide⟩ (Nat.le_of_ble_eq_true rfl) (Nat.le_of_ble_eq_true rfl) (Nat.le_of_ble_eq_true rfl) ?_
        refine x_isub (pc := 112) dX4_waitFor_112 ?_
        refine x_goto (pc := 113) 117 dX4_waitFor_113 (by decide) ?_
        first
        | (have z := id (α := wayV A i < _) c103; exact x_iret rfl dX4_waitFor_117 ⟨by rw [wfR, if_neg hn, if_pos z], rfl, rfl⟩)
        | (have z := c103; exact x_iret rfl dX4_waitFor_117 ⟨by rw [wfR, if_neg hn, if_neg z], rfl, rfl⟩)
    · have hkn : k < 12 := (lt_lit rfl (by decide) (by omega)).mp c7
      refine x_aload_n (pc := 10) dX4_waitFor_10 rfl ?_
      refine x_get (pc := 11) (ci := 4) (k := 0) (C := RX4) (T := TX4) (N := 21) cell_model rfl (by decide) rfl nX4 (by decide) mF_X4_7 rfl dX4_waitFor_11 ?_
      refine x_bipush (pc := 14) (11) dX4_waitFor_14 (by decide) ?_
      refine x_iload_n (pc := 16) dX4_waitFor_16 rfl ?_
      refine x_iadd (pc := 17) dX4_waitFor_17 ?_
      refine t_ild (pc := 18) (11 + k) cell_s (by decide) (nI_11 k) (by omega) (by decide) dX4_waitFor_18 ?_
      try dsimp only
      try dsimp only
      rw [hM.heat k hkn]
      refine x_aload_n (pc := 19) dX4_waitFor_19 rfl ?_
      refine x_get (pc := 20) (ci := 4) (k := 0) (C := RX4) (T := TX4) (N := 21) cell_model rfl (by decide) rfl nX4 (by decide) mF_X4_7 rfl dX4_waitFor_20 ?_
      refine x_bipush (pc := 23) (9) dX4_waitFor_23 (by decide) ?_
      refine t_ild (pc := 25) 9 cell_s (by decide) rfl (by decide) (by decide) dX4_waitFor_25 ?_
      try dsimp only
      rw [hM.sett 2]
      refine x_isub (pc := 26) dX4_waitFor_26 ?_
      refine x_istore (pc := 27) dX4_waitFor_27 (by decide) ?_
      refine x_iload (pc := 29) dX4_waitFor_29 rfl ?_
      refine x_ifle (pc := 31) 91 dX4_waitFor_31 (by decide) (fun c31 => ?_) (fun c31 => ?_)
      · refine x_iinc (pc := 91) (nI (k + 1)) dX4_waitFor_91 rfl (iinc_nI k) (by decide) ?_
        refine x_goto (pc := 94) 4 dX4_waitFor_94 (by decide) ?_
        first
        | (have nk := c31
           have hf1 : ∀ q, q < k + 1 → ¬ (A.2.2.2.1 1 = 0 ∧ 0 < A.2.2.1 q - A.2.2.2.1 2 ∧ 0 < edgQ (A.2.2.2.2 i) q) := by
             intro q hq
             by_cases e : q = k
             · subst e; exact fun z => nk z.2.1
             · exact hf q (by omega)
           have e := ih hkn hf1
           have hc : ¬ (0 < A.2.2.1 k - A.2.2.2.1 2 ∧ 0 < edgQ (A.2.2.2.2 i) k) := fun z => nk z.1
           simp only [wfN, if_neg hc] at e
           exact x_back e ⟨rfl, rfl, rfl, rfl, trivial⟩)
        | (have nk := id (α := ¬ 0 < edgQ (A.2.2.2.2 i) k) c40
           have hf1 : ∀ q, q < k + 1 → ¬ (A.2.2.2.1 1 = 0 ∧ 0 < A.2.2.1 q - A.2.2.2.1 2 ∧ 0 < edgQ (A.2.2.2.2 i) q) := by
             intro q hq
             by_cases e : q = k
             · subst e; exact fun z => nk z.2.2
             · exact hf q (by omega)
           have e := ih hkn hf1
           have hc : ¬ (0 < A.2.2.1 k - A.2.2.2.1 2 ∧ 0 < edgQ (A.2.2.2.2 i) k) := fun z => nk z.2
           simp only [wfN, if_neg hc] at e
           exact x_back e ⟨rfl, rfl, rfl, rfl, trivial⟩)
        | (have nk := c50
           have hf1 : ∀ q, q < k + 1 → ¬ (A.2.2.2.1 1 = 0 ∧ 0 < A.2.2.1 q - A.2.2.2.1 2 ∧ 0 < edgQ (A.2.2.2.2 i) q) := by
             intro q hq
             by_cases e : q = k
             · subst e; exact fun z => nk z.1
             · exact hf q (by omega)
           have e := ih hkn hf1
           have hc : (0 < A.2.2.1 k - A.2.2.2.1 2 ∧ 0 < edgQ (A.2.2.2.2 i) k) := ⟨c31, c40⟩
           have z := id (α := _ < (_ : Int32)) c81
           simp only [wfN, if_pos hc, if_pos z] at e
           exact x_back e ⟨rfl, rfl, rfl, rfl, trivial⟩)
        | (have nk := c50
           have hf1 : ∀ q, q < k + 1 → ¬ (A.2.2.2.1 1 = 0 ∧ 0 < A.2.2.1 q - A.2.2.2.1 2 ∧ 0 < edgQ (A.2.2.2.2 i) q) := by
             intro q hq
             by_cases e : q = k
             · subst e; exact fun z => nk z.1
             · exact hf q (by omega)
           have e := ih hkn hf1
           have hc : (0 < A.2.2.1 k - A.2.2.2.1 2 ∧ 0 < edgQ (A.2.2.2.2 i) k) := ⟨c31, c40⟩
           have z := id (α := ¬ _ < (_ : Int32)) c81
           simp only [wfN, if_pos hc, if_neg z] at e
           exact x_back e ⟨rfl, rfl, rfl, rfl, trivial⟩)
      · refine x_aload_n (pc := 34) dX4_waitFor_34 rfl ?_
        refine x_iload_n (pc := 35) dX4_waitFor_35 rfl ?_
        refine x_iload_n (pc := 36) dX4_waitFor_36 rfl ?_
        refine t_Vi (pc := 37) (c_X4_edgeIn hM hF (by first | assumption | omega) (by first | assumption | omega)) qV_X4_edgeIn mL_X4_85 dX4_waitFor_37 rfl cell_model (by decide) rfl rfl rfl ⟨by decide, by decide⟩ (Nat.le_of_ble_eq_true rfl) (Nat.le_of_ble_eq_true rfl) (Nat.le_of_ble_eq_true rfl) ?_
        refine x_ifle (pc := 40) 91 dX4_waitFor_40 (by decide) (fun c40 => ?_) (fun c40 => ?_)
        · refine x_iinc (pc := 91) (nI (k + 1)) dX4_waitFor_91 rfl (iinc_nI k) (by decide) ?_
          refine x_goto (pc := 94) 4 dX4_waitFor_94 (by decide) ?_
          first
          | (have nk := c31
             have hf1 : ∀ q, q < k + 1 → ¬ (A.2.2.2.1 1 = 0 ∧ 0 < A.2.2.1 q - A.2.2.2.1 2 ∧ 0 < edgQ (A.2.2.2.2 i) q) := by
               intro q hq
               by_cases e : q = k
               · subst e; exact fun z => nk z.2.1
               · exact hf q (by omega)
             have e := ih hkn hf1
             have hc : ¬ (0 < A.2.2.1 k - A.2.2.2.1 2 ∧ 0 < edgQ (A.2.2.2.2 i) k) := fun z => nk z.1
             simp only [wfN, if_neg hc] at e
             exact x_back e ⟨rfl, rfl, rfl, rfl, trivial⟩)
          | (have nk := id (α := ¬ 0 < edgQ (A.2.2.2.2 i) k) c40
             have hf1 : ∀ q, q < k + 1 → ¬ (A.2.2.2.1 1 = 0 ∧ 0 < A.2.2.1 q - A.2.2.2.1 2 ∧ 0 < edgQ (A.2.2.2.2 i) q) := by
               intro q hq
               by_cases e : q = k
               · subst e; exact fun z => nk z.2.2
               · exact hf q (by omega)
             have e := ih hkn hf1
             have hc : ¬ (0 < A.2.2.1 k - A.2.2.2.1 2 ∧ 0 < edgQ (A.2.2.2.2 i) k) := fun z => nk z.2
             simp only [wfN, if_neg hc] at e
             exact x_back e ⟨rfl, rfl, rfl, rfl, trivial⟩)
          | (have nk := c50
             have hf1 : ∀ q, q < k + 1 → ¬ (A.2.2.2.1 1 = 0 ∧ 0 < A.2.2.1 q - A.2.2.2.1 2 ∧ 0 < edgQ (A.2.2.2.2 i) q) := by
               intro q hq
               by_cases e : q = k
               · subst e; exact fun z => nk z.1
               · exact hf q (by omega)
             have e := ih hkn hf1
             have hc : (0 < A.2.2.1 k - A.2.2.2.1 2 ∧ 0 < edgQ (A.2.2.2.2 i) k) := ⟨c31, c40⟩
             have z := id (α := _ < (_ : Int32)) c81
             simp only [wfN, if_pos hc, if_pos z] at e
             exact x_back e ⟨rfl, rfl, rfl, rfl, trivial⟩)
          | (have nk := c50
             have hf1 : ∀ q, q < k + 1 → ¬ (A.2.2.2.1 1 = 0 ∧ 0 < A.2.2.1 q - A.2.2.2.1 2 ∧ 0 < edgQ (A.2.2.2.2 i) q) := by
               intro q hq
               by_cases e : q = k
               · subst e; exact fun z => nk z.1
               · exact hf q (by omega)
             have e := ih hkn hf1
             have hc : (0 < A.2.2.1 k - A.2.2.2.1 2 ∧ 0 < edgQ (A.2.2.2.2 i) k) := ⟨c31, c40⟩
             have z := id (α := ¬ _ < (_ : Int32)) c81
             simp only [wfN, if_pos hc, if_neg z] at e
             exact x_back e ⟨rfl, rfl, rfl, rfl, trivial⟩)
        · refine x_aload_n (pc := 43) dX4_waitFor_43 rfl ?_
          refine x_get (pc := 44) (ci := 4) (k := 0) (C := RX4) (T := TX4) (N := 21) cell_model rfl (by decide) rfl nX4 (by decide) mF_X4_7 rfl dX4_waitFor_44 ?_
          refine x_bipush (pc := 47) (8) dX4_waitFor_47 (by decide) ?_
          refine t_ild (pc := 49) 8 cell_s (by decide) rfl (by decide) (by decide) dX4_waitFor_49 ?_
          try dsimp only
          rw [hM.sett 1]
          refine x_ifne (pc := 50) 56 dX4_waitFor_50 (by decide) (fun c50 => ?_) (fun c50 => ?_)
          · refine x_iload (pc := 56) dX4_waitFor_56 rfl ?_
            refine x_aload_n (pc := 58) dX4_waitFor_58 rfl ?_
            refine x_get (pc := 59) (ci := 4) (k := 0) (C := RX4) (T := TX4) (N := 21) cell_model rfl (by decide) rfl nX4 (by decide) mF_X4_7 rfl dX4_waitFor_59 ?_
            refine x_bipush (pc := 62) (8) dX4_waitFor_62 (by decide) ?_
            refine t_ild (pc := 64) 8 cell_s (by decide) rfl (by decide) (by decide) dX4_waitFor_64 ?_
            try dsimp only
            rw [hM.sett 1]
            refine x_iadd (pc := 65) dX4_waitFor_65 ?_
            refine x_iconst (pc := 66) (1) dX4_waitFor_66 (by decide) ?_
            refine x_isub (pc := 67) dX4_waitFor_67 ?_
            refine x_aload_n (pc := 68) dX4_waitFor_68 rfl ?_
            refine x_get (pc := 69) (ci := 4) (k := 0) (C := RX4) (T := TX4) (N := 21) cell_model rfl (by decide) rfl nX4 (by decide) mF_X4_7 rfl dX4_waitFor_69 ?_
            refine x_bipush (pc := 72) (8) dX4_waitFor_72 (by decide) ?_
            refine t_ild (pc := 74) 8 cell_s (by decide) rfl (by decide) (by decide) dX4_waitFor_74 ?_
            try dsimp only
            rw [hM.sett 1]
            refine x_idiv (pc := 75) dX4_waitFor_75 c50 ?_
            refine x_istore (pc := 76) dX4_waitFor_76 (by decide) ?_
            refine x_iload (pc := 78) dX4_waitFor_78 rfl ?_
            refine x_iload_n (pc := 80) dX4_waitFor_80 rfl ?_
            refine x_cmple (pc := 81) 89 dX4_waitFor_81 (by decide) (fun c81 => ?_) (fun c81 => ?_)
            · refine x_iload_n (pc := 89) dX4_waitFor_89 rfl ?_
              refine x_istore_n (pc := 90) dX4_waitFor_90 (by decide) ?_
              refine x_iinc (pc := 91) (nI (k + 1)) dX4_waitFor_91 rfl (iinc_nI k) (by decide) ?_
              refine x_goto (pc := 94) 4 dX4_waitFor_94 (by decide) ?_
              first
              | (have nk := c31
                 have hf1 : ∀ q, q < k + 1 → ¬ (A.2.2.2.1 1 = 0 ∧ 0 < A.2.2.1 q - A.2.2.2.1 2 ∧ 0 < edgQ (A.2.2.2.2 i) q) := by
                   intro q hq
                   by_cases e : q = k
                   · subst e; exact fun z => nk z.2.1
                   · exact hf q (by omega)
                 have e := ih hkn hf1
                 have hc : ¬ (0 < A.2.2.1 k - A.2.2.2.1 2 ∧ 0 < edgQ (A.2.2.2.2 i) k) := fun z => nk z.1
                 simp only [wfN, if_neg hc] at e
                 exact x_back e ⟨rfl, rfl, rfl, rfl, trivial⟩)
              | (have nk := id (α := ¬ 0 < edgQ (A.2.2.2.2 i) k) c40
                 have hf1 : ∀ q, q < k + 1 → ¬ (A.2.2.2.1 1 = 0 ∧ 0 < A.2.2.1 q - A.2.2.2.1 2 ∧ 0 < edgQ (A.2.2.2.2 i) q) := by
                   intro q hq
                   by_cases e : q = k
                   · subst e; exact fun z => nk z.2.2
                   · exact hf q (by omega)
                 have e := ih hkn hf1
                 have hc : ¬ (0 < A.2.2.1 k - A.2.2.2.1 2 ∧ 0 < edgQ (A.2.2.2.2 i) k) := fun z => nk z.2
                 simp only [wfN, if_neg hc] at e
                 exact x_back e ⟨rfl, rfl, rfl, rfl, trivial⟩)
              | (have nk := c50
                 have hf1 : ∀ q, q < k + 1 → ¬ (A.2.2.2.1 1 = 0 ∧ 0 < A.2.2.1 q - A.2.2.2.1 2 ∧ 0 < edgQ (A.2.2.2.2 i) q) := by
                   intro q hq
                   by_cases e : q = k
                   · subst e; exact fun z => nk z.1
                   · exact hf q (by omega)
                 have e := ih hkn hf1
                 have hc : (0 < A.2.2.1 k - A.2.2.2.1 2 ∧ 0 < edgQ (A.2.2.2.2 i) k) := ⟨c31, c40⟩
                 have z := id (α := _ < (_ : Int32)) c81
                 simp only [wfN, if_pos hc, if_pos z] at e
                 exact x_back e ⟨rfl, rfl, rfl, rfl, trivial⟩)
              | (have nk := c50
                 have hf1 : ∀ q, q < k + 1 → ¬ (A.2.2.2.1 1 = 0 ∧ 0 < A.2.2.1 q - A.2.2.2.1 2 ∧ 0 < edgQ (A.2.2.2.2 i) q) := by
                   intro q hq
                   by_cases e : q = k
                   · subst e; exact fun z => nk z.1
                   · exact hf q (by omega)
                 have e := ih hkn hf1
                 have hc : (0 < A.2.2.1 k - A.2.2.2.1 2 ∧ 0 < edgQ (A.2.2.2.2 i) k) := ⟨c31, c40⟩
                 have z := id (α := ¬ _ < (_ : Int32)) c81
                 simp only [wfN, if_pos hc, if_neg z] at e
                 exact x_back e ⟨rfl, rfl, rfl, rfl, trivial⟩)
            · refine x_iload (pc := 84) dX4_waitFor_84 rfl ?_
              refine x_goto (pc := 86) 90 dX4_waitFor_86 (by decide) ?_
              refine x_istore_n (pc := 90) dX4_waitFor_90 (by decide) ?_
              refine x_iinc (pc := 91) (nI (k + 1)) dX4_waitFor_91 rfl (iinc_nI k) (by decide) ?_
              refine x_goto (pc := 94) 4 dX4_waitFor_94 (by decide) ?_
              first
              | (have nk := c31
                 have hf1 : ∀ q, q < k + 1 → ¬ (A.2.2.2.1 1 = 0 ∧ 0 < A.2.2.1 q - A.2.2.2.1 2 ∧ 0 < edgQ (A.2.2.2.2 i) q) := by
                   intro q hq
                   by_cases e : q = k
                   · subst e; exact fun z => nk z.2.1
                   · exact hf q (by omega)
                 have e := ih hkn hf1
                 have hc : ¬ (0 < A.2.2.1 k - A.2.2.2.1 2 ∧ 0 < edgQ (A.2.2.2.2 i) k) := fun z => nk z.1
                 simp only [wfN, if_neg hc] at e
                 exact x_back e ⟨rfl, rfl, rfl, rfl, trivial⟩)
              | (have nk := id (α := ¬ 0 < edgQ (A.2.2.2.2 i) k) c40
                 have hf1 : ∀ q, q < k + 1 → ¬ (A.2.2.2.1 1 = 0 ∧ 0 < A.2.2.1 q - A.2.2.2.1 2 ∧ 0 < edgQ (A.2.2.2.2 i) q) := by
                   intro q hq
                   by_cases e : q = k
                   · subst e; exact fun z => nk z.2.2
                   · exact hf q (by omega)
                 have e := ih hkn hf1
                 have hc : ¬ (0 < A.2.2.1 k - A.2.2.2.1 2 ∧ 0 < edgQ (A.2.2.2.2 i) k) := fun z => nk z.2
                 simp only [wfN, if_neg hc] at e
                 exact x_back e ⟨rfl, rfl, rfl, rfl, trivial⟩)
              | (have nk := c50
                 have hf1 : ∀ q, q < k + 1 → ¬ (A.2.2.2.1 1 = 0 ∧ 0 < A.2.2.1 q - A.2.2.2.1 2 ∧ 0 < edgQ (A.2.2.2.2 i) q) := by
                   intro q hq
                   by_cases e : q = k
                   · subst e; exact fun z => nk z.1
                   · exact hf q (by omega)
                 have e := ih hkn hf1
                 have hc : (0 < A.2.2.1 k - A.2.2.2.1 2 ∧ 0 < edgQ (A.2.2.2.2 i) k) := ⟨c31, c40⟩
                 have z := id (α := _ < (_ : Int32)) c81
                 simp only [wfN, if_pos hc, if_pos z] at e
                 exact x_back e ⟨rfl, rfl, rfl, rfl, trivial⟩)
              | (have nk := c50
                 have hf1 : ∀ q, q < k + 1 → ¬ (A.2.2.2.1 1 = 0 ∧ 0 < A.2.2.1 q - A.2.2.2.1 2 ∧ 0 < edgQ (A.2.2.2.2 i) q) := by
                   intro q hq
                   by_cases e : q = k
                   · subst e; exact fun z => nk z.1
                   · exact hf q (by omega)
                 have e := ih hkn hf1
                 have hc : (0 < A.2.2.1 k - A.2.2.2.1 2 ∧ 0 < edgQ (A.2.2.2.2 i) k) := ⟨c31, c40⟩
                 have z := id (α := ¬ _ < (_ : Int32)) c81
                 simp only [wfN, if_pos hc, if_neg z] at e
                 exact x_back e ⟨rfl, rfl, rfl, rfl, trivial⟩)
          · refine x_bipush (pc := 53) (-5) dX4_waitFor_53 (by decide) ?_
            have hp := hit_pos hV hkn c31 c40
            exact x_iret rfl dX4_waitFor_55 ⟨by rw [wfR, if_pos ⟨c50, hp⟩], rfl, rfl⟩
  refine x_iconst (pc := 0) (0) dX4_waitFor_0 (by decide) ?_
  refine x_istore_n (pc := 1) dX4_waitFor_1 (by decide) ?_
  refine x_iconst (pc := 2) (0) dX4_waitFor_2 (by decide) ?_
  refine x_istore_n (pc := 3) dX4_waitFor_3 (by decide) ?_
  exact x_back (lp 0 (by omega) (fun q hq => absurd hq (Nat.not_lt_zero q))) ⟨rfl, rfl, rfl, rfl, trivial⟩
set_option maxHeartbeats 4000000 in
set_option maxRecDepth 100000 in
theorem c_X4_ticksOf (hM : RM s A) (hV : VA A) (hi : i < A.1) : Ct G yX4_ticksOf YX4_ticksOf 0 0 [.ref (gB G + 247), .int (nI i)] 255 (cellOf G S B (N, s, T)) (Rt G (some (.int (tkV A i))) S B (N, s, T)) := by
  refine ct_of (by decide +kernel) rfl rfl (Nat.le_of_ble_eq_true rfl) (by simp [Value.category]) ?_
  refine x_sub (l' := [(0, .ref (gB G + 247)), (1, .int (nI i))]) ⟨rfl, rfl, trivial⟩ ?_
  refine x_aload_n (pc := 0) dX4_ticksOf_0 rfl ?_
  refine x_iload_n (pc := 1) dX4_ticksOf_1 rfl ?_
  refine t_Vi (pc := 2) (c_X4_going hM hV (by first | assumption | omega)) qV_X4_going mL_X4_91 dX4_ticksOf_2 rfl cell_model (by decide) rfl rfl rfl ⟨by decide, by decide⟩ (Nat.le_of_ble_eq_true rfl) (Nat.le_of_ble_eq_true rfl) (Nat.le_of_ble_eq_true rfl) ?_
  refine x_aload_n (pc := 5) dX4_ticksOf_5 rfl ?_
  refine x_iload_n (pc := 6) dX4_ticksOf_6 rfl ?_
  refine t_Vi (pc := 7) (c_X4_burning hM (by first | assumption | omega)) qV_X4_burning mL_X4_107 dX4_ticksOf_7 rfl cell_model (by decide) rfl rfl rfl ⟨by decide, by decide⟩ (Nat.le_of_ble_eq_true rfl) (Nat.le_of_ble_eq_true rfl) (Nat.le_of_ble_eq_true rfl) ?_
  refine x_iadd (pc := 10) dX4_ticksOf_10 ?_
  exact x_iret rfl dX4_ticksOf_11 ⟨by rfl, rfl, rfl⟩
theorem besD_no {A : Ab} {k : Nat} {f : Option Nat} (h : ¬ whyV A k = 0) : besD A (k + 1) f = besD A k f := by simp [besD, h]
theorem besD_nn {A : Ab} {k : Nat} (h : whyV A k = 0) : besD A (k + 1) none = besD A k (some k) := by simp [besD, h]
theorem besD_lt {A : Ab} {k q : Nat} (c : tkV A q < tkV A k) : besD A (k + 1) (some q) = besD A k (some q) := by simp [besD, c]
theorem besD_ge {A : Ab} {k q : Nat} (h : whyV A k = 0) (c : ¬ tkV A q < tkV A k) : besD A (k + 1) (some q) = besD A k (some k) := by simp [besD, h, c]
theorem sooD_no {A : Ab} {k : Nat} {f : Option Nat} (h : mayB A k = false) : sooD A (k + 1) f = sooD A k f := by simp [sooD, h]
theorem sooD_nn {A : Ab} {k : Nat} (h : mayB A k = true) : sooD A (k + 1) none = sooD A k (some k) := by simp [sooD, h]
theorem sooD_lt {A : Ab} {k q : Nat} (c : kcV A q < kcV A k) : sooD A (k + 1) (some q) = sooD A k (some q) := by simp [sooD, c]
theorem sooD_ge {A : Ab} {k q : Nat} (h : mayB A k = true) (c : ¬ kcV A q < kcV A k) : sooD A (k + 1) (some q) = sooD A k (some k) := by simp [sooD, h, c]
theorem nI_m1 {k : Nat} (h : k < 2 ^ 31) : nI k - 1 < 0 ↔ k = 0 := by
  have e : (nI k).toInt = k := nI_toInt h
  have e2 : (nI k - 1).toInt = (k : Int) - 1 := by rw [ti_sub (by rw [e, t1]; omega) (by rw [e, t1]; omega), e, t1]
  rw [ti_lt, e2, t0]
  omega
set_option maxHeartbeats 4000000 in
set_option maxRecDepth 100000 in
theorem c_X4_bestOne (hM : RM s A) (hV : VA A) : Ct G yX4_bestOne YX4_bestOne 0 0 [.ref (gB G + 247)] 255 (cellOf G S B (N, s, T)) (Rt G (some (.int (oV (besO A A.1)))) S B (N, s, T)) := by
  refine ct_of (by decide +kernel) rfl rfl (Nat.le_of_ble_eq_true rfl) (by simp [Value.category]) ?_
  refine x_sub (l' := [(0, .ref (gB G + 247))]) ⟨rfl, trivial⟩ ?_
  have h12 := hM.le
  rw [← besD_eq hV]
  have lp : ∀ k (f : Option Nat), k ≤ A.1 → (∀ q, f = some q → q < A.1) → XJ G YX4_bestOne (fun _ => True) (Zx G (Rt G (some (.int (oV (besD A k f)))) S B (N, s, T)) 0 0) 12 [(0, .ref (gB G + 247)), (1, .int (oV f)), (2, .int (nI k - 1))] [] 255 (cellOf G S B (N, s, T)) 0 0 := by
    intro k
    induction k with
    | zero =>
      intro f hk hf
      refine x_iload_n (pc := 12) dX4_bestOne_12 rfl ?_
      refine x_iflt (pc := 13) 55 dX4_bestOne_13 (by decide) (fun c13 => ?_) (fun c13 => absurd ((nI_m1 (by decide)).mpr rfl) c13)
      refine x_iload_n (pc := 55) dX4_bestOne_55 rfl ?_
      exact x_iret rfl dX4_bestOne_56 ⟨by rfl, rfl, rfl⟩
    | succ k ih =>
      intro f hk hf
      refine x_iload_n (pc := 12) dX4_bestOne_12 rfl ?_
      refine x_iflt (pc := 13) 55 dX4_bestOne_13 (by decide) (fun c13 => absurd ((nI_m1 (by omega)).mp c13) (Nat.succ_ne_zero k)) (fun c13 => ?_)
      rw [nI_pred k]
      refine x_aload_n (pc := 16) dX4_bestOne_16 rfl ?_
      refine x_iload_n (pc := 17) dX4_bestOne_17 rfl ?_
      refine t_Vi (pc := 18) (c_X4_why hM hV (by first | assumption | omega)) qV_X4_why mL_X4_100 dX4_bestOne_18 rfl cell_model (by decide) rfl rfl rfl ⟨by decide, by decide⟩ (Nat.le_of_ble_eq_true rfl) (Nat.le_of_ble_eq_true rfl) (Nat.le_of_ble_eq_true rfl) ?_
      refine x_ifne (pc := 21) 47 dX4_bestOne_21 (by decide) (fun c21 => ?_) (fun c21 => ?_)
      · refine x_iload_n (pc := 47) dX4_bestOne_47 rfl ?_
        refine x_istore_n (pc := 48) dX4_bestOne_48 (by decide) ?_
        refine x_iinc (pc := 49) (nI k - 1) dX4_bestOne_49 rfl (dec_nI k) (by decide) ?_
        refine x_goto (pc := 52) 12 dX4_bestOne_52 (by decide) ?_
        have e := ih f (by omega) hf
        rw [besD_no c21]
        exact x_back e ⟨rfl, rfl, rfl, trivial⟩
      · refine x_iload_n (pc := 24) dX4_bestOne_24 rfl ?_
        refine x_bipush (pc := 25) (-5) dX4_bestOne_25 (by decide) ?_
        refine x_cmpeq (pc := 27) 43 dX4_bestOne_27 (by decide) (fun c27 => ?_) (fun c27 => ?_)
        · refine x_iload_n (pc := 43) dX4_bestOne_43 rfl ?_
          refine x_goto (pc := 44) 48 dX4_bestOne_44 (by decide) ?_
          refine x_istore_n (pc := 48) dX4_bestOne_48 (by decide) ?_
          refine x_iinc (pc := 49) (nI k - 1) dX4_bestOne_49 rfl (dec_nI k) (by decide) ?_
          refine x_goto (pc := 52) 12 dX4_bestOne_52 (by decide) ?_
          have hn := oV_none (fun q hq => by have := hf q hq; omega) c27
          subst hn
          have e := ih (some k) (by omega) (fun q hq => by cases hq; omega)
          rw [besD_nn c21]
          exact x_back e ⟨rfl, rfl, rfl, trivial⟩
        · obtain ⟨q, rfl⟩ := oV_some c27
          have hq := hf q rfl
          simp only [oV]
          refine x_aload_n (pc := 30) dX4_bestOne_30 rfl ?_
          refine x_iload_n (pc := 31) dX4_bestOne_31 rfl ?_
          refine t_Vi (pc := 32) (c_X4_ticksOf hM hV (by first | assumption | omega)) qV_X4_ticksOf mL_X4_196 dX4_bestOne_32 rfl cell_model (by decide) rfl rfl rfl ⟨by decide, by decide⟩ (Nat.le_of_ble_eq_true rfl) (Nat.le_of_ble_eq_true rfl) (Nat.le_of_ble_eq_true rfl) ?_
          refine x_aload_n (pc := 35) dX4_bestOne_35 rfl ?_
          refine x_iload_n (pc := 36) dX4_bestOne_36 rfl ?_
          refine t_Vi (pc := 37) (c_X4_ticksOf hM hV (by first | assumption | omega)) qV_X4_ticksOf mL_X4_196 dX4_bestOne_37 rfl cell_model (by decide) rfl rfl rfl ⟨by decide, by decide⟩ (Nat.le_of_ble_eq_true rfl) (Nat.le_of_ble_eq_true rfl) (Nat.le_of_ble_eq_true rfl) ?_
          refine x_cmpgt (pc := 40) 47 dX4_bestOne_40 (by decide) (fun c40 => ?_) (fun c40 => ?_)
          · refine x_iload_n (pc := 47) dX4_bestOne_47 rfl ?_
            refine x_istore_n (pc := 48) dX4_bestOne_48 (by decide) ?_
            refine x_iinc (pc := 49) (nI k - 1) dX4_bestOne_49 rfl (dec_nI k) (by decide) ?_
            refine x_goto (pc := 52) 12 dX4_bestOne_52 (by decide) ?_
            have e := ih (some q) (by omega) hf
            rw [besD_lt c40]
            exact x_back e ⟨rfl, rfl, rfl, trivial⟩
          · refine x_iload_n (pc := 43) dX4_bestOne_43 rfl ?_
            refine x_goto (pc := 44) 48 dX4_bestOne_44 (by decide) ?_
            refine x_istore_n (pc := 48) dX4_bestOne_48 (by decide) ?_
            refine x_iinc (pc := 49) (nI k - 1) dX4_bestOne_49 rfl (dec_nI k) (by decide) ?_
            refine x_goto (pc := 52) 12 dX4_bestOne_52 (by decide) ?_
            have e := ih (some k) (by omega) (fun q hq => by cases hq; omega)
            rw [besD_ge c21 c40]
            exact x_back e ⟨rfl, rfl, rfl, trivial⟩
  refine x_bipush (pc := 0) (-5) dX4_bestOne_0 (by decide) ?_
  refine x_istore_n (pc := 2) dX4_bestOne_2 (by decide) ?_
  refine x_aload_n (pc := 3) dX4_bestOne_3 rfl ?_
  refine x_get (pc := 4) (ci := 4) (k := 0) (C := RX4) (T := TX4) (N := 21) cell_model rfl (by decide) rfl nX4 (by decide) mF_X4_7 rfl dX4_bestOne_4 ?_
  refine x_iconst (pc := 7) (0) dX4_bestOne_7 (by decide) ?_
  refine t_ild (pc := 8) 0 cell_s (by decide) rfl (by decide) (by decide) dX4_bestOne_8 ?_
  try dsimp only
  rw [hM.told]
  refine x_iconst (pc := 9) (1) dX4_bestOne_9 (by decide) ?_
  refine x_isub (pc := 10) dX4_bestOne_10 ?_
  refine x_istore_n (pc := 11) dX4_bestOne_11 (by decide) ?_
  exact x_back (lp A.1 none (Nat.le_refl _) (fun q hq => by cases hq)) ⟨rfl, rfl, rfl, trivial⟩
set_option maxHeartbeats 4000000 in
set_option maxRecDepth 100000 in
theorem c_X4_soonest (hM : RM s A) (hV : VA A) : Ct G yX4_soonest YX4_soonest 0 0 [.ref (gB G + 247)] 255 (cellOf G S B (N, s, T)) (Rt G (some (.int (oV (sooD A A.1 none)))) S B (N, s, T)) := by
  refine ct_of (by decide +kernel) rfl rfl (Nat.le_of_ble_eq_true rfl) (by simp [Value.category]) ?_
  refine x_sub (l' := [(0, .ref (gB G + 247))]) ⟨rfl, trivial⟩ ?_
  have h12 := hM.le
  have lp : ∀ k (f : Option Nat), k ≤ A.1 → (∀ q, f = some q → q < A.1 ∧ whyV A q = 4) → XJ G YX4_soonest (fun _ => True) (Zx G (Rt G (some (.int (oV (sooD A k f)))) S B (N, s, T)) 0 0) 12 [(0, .ref (gB G + 247)), (1, .int (oV f)), (2, .int (nI k - 1))] [] 255 (cellOf G S B (N, s, T)) 0 0 := by
    intro k
    induction k with
    | zero =>
      intro f hk hf
      refine x_iload_n (pc := 12) dX4_soonest_12 rfl ?_
      refine x_iflt (pc := 13) 76 dX4_soonest_13 (by decide) (fun c13 => ?_) (fun c13 => absurd ((nI_m1 (by decide)).mpr rfl) c13)
      refine x_iload_n (pc := 76) dX4_soonest_76 rfl ?_
      exact x_iret rfl dX4_soonest_77 ⟨by rfl, rfl, rfl⟩
    | succ k ih =>
      intro f hk hf
      refine x_iload_n (pc := 12) dX4_soonest_12 rfl ?_
      refine x_iflt (pc := 13) 76 dX4_soonest_13 (by decide) (fun c13 => absurd ((nI_m1 (by omega)).mp c13) (Nat.succ_ne_zero k)) (fun c13 => ?_)
      rw [nI_pred k]
      refine x_aload_n (pc := 16) dX4_soonest_16 rfl ?_
      refine x_iload_n (pc := 17) dX4_soonest_17 rfl ?_
      refine t_Vi (pc := 18) (c_X4_why hM hV (by first | assumption | omega)) qV_X4_why mL_X4_100 dX4_soonest_18 rfl cell_model (by decide) rfl rfl rfl ⟨by decide, by decide⟩ (Nat.le_of_ble_eq_true rfl) (Nat.le_of_ble_eq_true rfl) (Nat.le_of_ble_eq_true rfl) ?_
      refine x_iconst (pc := 21) (4) dX4_soonest_21 (by decide) ?_
      refine x_cmpne (pc := 22) 39 dX4_soonest_22 (by decide) (fun c22 => ?_) (fun c22 => ?_)
      · refine x_iconst (pc := 39) (0) dX4_soonest_39 (by decide) ?_
        refine x_istore_n (pc := 40) dX4_soonest_40 (by decide) ?_
        refine x_iload_n (pc := 41) dX4_soonest_41 rfl ?_
        refine x_ifeq (pc := 42) 68 dX4_soonest_42 (by decide) (fun _ => ?_) (fun h => absurd h (by decide))
        refine x_iload_n (pc := 68) dX4_soonest_68 rfl ?_
        refine x_istore_n (pc := 69) dX4_soonest_69 (by decide) ?_
        refine x_iinc (pc := 70) (nI k - 1) dX4_soonest_70 rfl (dec_nI k) (by decide) ?_
        refine x_goto (pc := 73) 12 dX4_soonest_73 (by decide) ?_
        have e := ih f (by omega) hf
        rw [sooD_no (by simp [mayB, c22])]
        exact x_back e ⟨rfl, rfl, rfl, trivial⟩
      · refine x_aload_n (pc := 25) dX4_soonest_25 rfl ?_
        refine x_iload_n (pc := 26) dX4_soonest_26 rfl ?_
        refine t_Vi (pc := 27) (c_X4_waitFor hM hV (by first | assumption | omega)) qV_X4_waitFor mL_X4_199 dX4_soonest_27 rfl cell_model (by decide) rfl rfl rfl ⟨by decide, by decide⟩ (Nat.le_of_ble_eq_true rfl) (Nat.le_of_ble_eq_true rfl) (Nat.le_of_ble_eq_true rfl) ?_
        try dsimp only
        rw [wfR_eq hV (show k < A.1 by omega) (Or.inr c22)]
        refine x_bipush (pc := 30) (-5) dX4_soonest_30 (by decide) ?_
        refine x_cmpeq (pc := 32) 39 dX4_soonest_32 (by decide) (fun c32 => ?_) (fun c32 => ?_)
        · refine x_iconst (pc := 39) (0) dX4_soonest_39 (by decide) ?_
          refine x_istore_n (pc := 40) dX4_soonest_40 (by decide) ?_
          refine x_iload_n (pc := 41) dX4_soonest_41 rfl ?_
          refine x_ifeq (pc := 42) 68 dX4_soonest_42 (by decide) (fun _ => ?_) (fun h => absurd h (by decide))
          refine x_iload_n (pc := 68) dX4_soonest_68 rfl ?_
          refine x_istore_n (pc := 69) dX4_soonest_69 (by decide) ?_
          refine x_iinc (pc := 70) (nI k - 1) dX4_soonest_70 rfl (dec_nI k) (by decide) ?_
          refine x_goto (pc := 73) 12 dX4_soonest_73 (by decide) ?_
          have e := ih f (by omega) hf
          rw [sooD_no (by simp [mayB, c32])]
          exact x_back e ⟨rfl, rfl, rfl, trivial⟩
        · refine x_iconst (pc := 35) (1) dX4_soonest_35 (by decide) ?_
          refine x_goto (pc := 36) 40 dX4_soonest_36 (by decide) ?_
          refine x_istore_n (pc := 40) dX4_soonest_40 (by decide) ?_
          refine x_iload_n (pc := 41) dX4_soonest_41 rfl ?_
          refine x_ifeq (pc := 42) 68 dX4_soonest_42 (by decide) (fun h => absurd h (by decide)) (fun _ => ?_)
          refine x_iload_n (pc := 45) dX4_soonest_45 rfl ?_
          refine x_bipush (pc := 46) (-5) dX4_soonest_46 (by decide) ?_
          refine x_cmpeq (pc := 48) 64 dX4_soonest_48 (by decide) (fun c48 => ?_) (fun c48 => ?_)
          · refine x_iload_n (pc := 64) dX4_soonest_64 rfl ?_
            refine x_goto (pc := 65) 69 dX4_soonest_65 (by decide) ?_
            refine x_istore_n (pc := 69) dX4_soonest_69 (by decide) ?_
            refine x_iinc (pc := 70) (nI k - 1) dX4_soonest_70 rfl (dec_nI k) (by decide) ?_
            refine x_goto (pc := 73) 12 dX4_soonest_73 (by decide) ?_
            have hn := oV_none (fun q hq => by have := (hf q hq).1; omega) c48
            subst hn
            have e := ih (some k) (by omega) (fun q hq => by cases hq; exact ⟨by omega, c22⟩)
            rw [sooD_nn (by simp [mayB, c22, c32])]
            exact x_back e ⟨rfl, rfl, rfl, trivial⟩
          · obtain ⟨q, rfl⟩ := oV_some c48
            have hq := (hf q rfl).1
            simp only [oV]
            refine x_aload_n (pc := 51) dX4_soonest_51 rfl ?_
            refine x_iload_n (pc := 52) dX4_soonest_52 rfl ?_
            refine t_Vi (pc := 53) (c_X4_waitFor hM hV (by first | assumption | omega)) qV_X4_waitFor mL_X4_199 dX4_soonest_53 rfl cell_model (by decide) rfl rfl rfl ⟨by decide, by decide⟩ (Nat.le_of_ble_eq_true rfl) (Nat.le_of_ble_eq_true rfl) (Nat.le_of_ble_eq_true rfl) ?_
            try dsimp only
            rw [wfR_eq hV (show k < A.1 by omega) (Or.inr c22)]
            refine x_aload_n (pc := 56) dX4_soonest_56 rfl ?_
            refine x_iload_n (pc := 57) dX4_soonest_57 rfl ?_
            refine t_Vi (pc := 58) (c_X4_waitFor hM hV (by first | assumption | omega)) qV_X4_waitFor mL_X4_199 dX4_soonest_58 rfl cell_model (by decide) rfl rfl rfl ⟨by decide, by decide⟩ (Nat.le_of_ble_eq_true rfl) (Nat.le_of_ble_eq_true rfl) (Nat.le_of_ble_eq_true rfl) ?_
            try dsimp only
            rw [wfR_eq hV (hf q rfl).1 (Or.inr (hf q rfl).2)]
            refine x_cmpgt (pc := 61) 68 dX4_soonest_61 (by decide) (fun c61 => ?_) (fun c61 => ?_)
            · refine x_iload_n (pc := 68) dX4_soonest_68 rfl ?_
              refine x_istore_n (pc := 69) dX4_soonest_69 (by decide) ?_
              refine x_iinc (pc := 70) (nI k - 1) dX4_soonest_70 rfl (dec_nI k) (by decide) ?_
              refine x_goto (pc := 73) 12 dX4_soonest_73 (by decide) ?_
              have e := ih (some q) (by omega) hf
              rw [sooD_lt c61]
              exact x_back e ⟨rfl, rfl, rfl, trivial⟩
            · refine x_iload_n (pc := 64) dX4_soonest_64 rfl ?_
              refine x_goto (pc := 65) 69 dX4_soonest_65 (by decide) ?_
              refine x_istore_n (pc := 69) dX4_soonest_69 (by decide) ?_
              refine x_iinc (pc := 70) (nI k - 1) dX4_soonest_70 rfl (dec_nI k) (by decide) ?_
              refine x_goto (pc := 73) 12 dX4_soonest_73 (by decide) ?_
              have e := ih (some k) (by omega) (fun q hq => by cases hq; exact ⟨by omega, c22⟩)
              rw [sooD_ge (by simp [mayB, c22, c32]) c61]
              exact x_back e ⟨rfl, rfl, rfl, trivial⟩
  refine x_bipush (pc := 0) (-5) dX4_soonest_0 (by decide) ?_
  refine x_istore_n (pc := 2) dX4_soonest_2 (by decide) ?_
  refine x_aload_n (pc := 3) dX4_soonest_3 rfl ?_
  refine x_get (pc := 4) (ci := 4) (k := 0) (C := RX4) (T := TX4) (N := 21) cell_model rfl (by decide) rfl nX4 (by decide) mF_X4_7 rfl dX4_soonest_4 ?_
  refine x_iconst (pc := 7) (0) dX4_soonest_7 (by decide) ?_
  refine t_ild (pc := 8) 0 cell_s (by decide) rfl (by decide) (by decide) dX4_soonest_8 ?_
  try dsimp only
  rw [hM.told]
  refine x_iconst (pc := 9) (1) dX4_soonest_9 (by decide) ?_
  refine x_isub (pc := 10) dX4_soonest_10 ?_
  refine x_istore_n (pc := 11) dX4_soonest_11 (by decide) ?_
  exact x_back (lp A.1 none (Nat.le_refl _) (fun q hq => by cases hq)) ⟨rfl, rfl, rfl, trivial⟩
set_option maxHeartbeats 4000000 in
set_option maxRecDepth 100000 in
theorem c_X4_many (hM : RM s A) (v : Int32) : Ct G yX4_many YX4_many 0 0 [.ref (gB G + 247), .int v] 255 (cellOf G S B (N, s, T)) (Rt G (some (.int (cntN A.2.2.2.2 v A.1))) S B (N, s, T)) := by
  refine ct_of (by decide +kernel) rfl rfl (Nat.le_of_ble_eq_true rfl) (by simp [Value.category]) ?_
  refine x_sub (l' := [(0, .ref (gB G + 247)), (1, .int v)]) ⟨rfl, rfl, trivial⟩ ?_
  have h12 := hM.le
  have lp : ∀ k, k ≤ A.1 → XJ G YX4_many (fun _ => True) (Zx G (Rt G (some (.int (cntN A.2.2.2.2 v A.1))) S B (N, s, T)) 0 0) 4 [(0, .ref (gB G + 247)), (1, .int v), (2, .int (cntN A.2.2.2.2 v k)), (3, .int (nI k))] [] 255 (cellOf G S B (N, s, T)) 0 0 := by
    refine loopD (A.1) ?_
    intro k hk ih
    refine x_iload_n (pc := 4) dX4_many_4 rfl ?_
    refine x_aload_n (pc := 5) dX4_many_5 rfl ?_
    refine x_get (pc := 6) (ci := 4) (k := 0) (C := RX4) (T := TX4) (N := 21) cell_model rfl (by decide) rfl nX4 (by decide) mF_X4_7 rfl dX4_many_6 ?_
    refine x_iconst (pc := 9) (0) dX4_many_9 (by decide) ?_
    refine t_ild (pc := 10) 0 cell_s (by decide) rfl (by decide) (by decide) dX4_many_10 ?_
    try dsimp only
    rw [hM.told]
    refine x_cmpge (pc := 11) 38 dX4_many_11 (by decide) (fun c11 => ?_) (fun c11 => ?_)
    · obtain rfl : k = A.1 := by have := mt (tl_iff hM.le hk).mpr c11; omega
      refine x_iload_n (pc := 38) dX4_many_38 rfl ?_
      exact x_iret rfl dX4_many_39 ⟨by rfl, rfl, rfl⟩
    · have hkn : k < A.1 := (tl_iff hM.le hk).mp c11
      refine x_iload_n (pc := 14) dX4_many_14 rfl ?_
      refine x_aload_n (pc := 15) dX4_many_15 rfl ?_
      refine x_iload_n (pc := 16) dX4_many_16 rfl ?_
      refine x_iconst (pc := 17) (5) dX4_many_17 (by decide) ?_
      refine t_Vi (pc := 18) (c_X4_of hM (by first | assumption | omega) 5 (by decide)) qV_X4_of mL_X4_46 dX4_many_18 rfl cell_model (by decide) rfl rfl rfl ⟨by decide, by decide⟩ (Nat.le_of_ble_eq_true rfl) (Nat.le_of_ble_eq_true rfl) (Nat.le_of_ble_eq_true rfl) ?_
      refine x_iload_n (pc := 21) dX4_many_21 rfl ?_
      refine x_cmpne (pc := 22) 29 dX4_many_22 (by decide) (fun c22 => ?_) (fun c22 => ?_)
      · refine x_iconst (pc := 29) (0) dX4_many_29 (by decide) ?_
        refine x_iadd (pc := 30) dX4_many_30 ?_
        refine x_istore_n (pc := 31) dX4_many_31 (by decide) ?_
        refine x_iinc (pc := 32) (nI (k + 1)) dX4_many_32 rfl (iinc_nI k) (by decide) ?_
        refine x_goto (pc := 35) 4 dX4_many_35 (by decide) ?_
        have e := ih hkn
        first
        | (simp only [cntN, if_pos c22] at e; exact x_back e ⟨rfl, rfl, rfl, rfl, trivial⟩)
        | (simp only [cntN, if_neg c22] at e; rw [Int32.add_zero]; exact x_back e ⟨rfl, rfl, rfl, rfl, trivial⟩)
      · refine x_iconst (pc := 25) (1) dX4_many_25 (by decide) ?_
        refine x_goto (pc := 26) 30 dX4_many_26 (by decide) ?_
        refine x_iadd (pc := 30) dX4_many_30 ?_
        refine x_istore_n (pc := 31) dX4_many_31 (by decide) ?_
        refine x_iinc (pc := 32) (nI (k + 1)) dX4_many_32 rfl (iinc_nI k) (by decide) ?_
        refine x_goto (pc := 35) 4 dX4_many_35 (by decide) ?_
        have e := ih hkn
        first
        | (simp only [cntN, if_pos c22] at e; exact x_back e ⟨rfl, rfl, rfl, rfl, trivial⟩)
        | (simp only [cntN, if_neg c22] at e; rw [Int32.add_zero]; exact x_back e ⟨rfl, rfl, rfl, rfl, trivial⟩)
  refine x_iconst (pc := 0) (0) dX4_many_0 (by decide) ?_
  refine x_istore_n (pc := 1) dX4_many_1 (by decide) ?_
  refine x_iconst (pc := 2) (0) dX4_many_2 (by decide) ?_
  refine x_istore_n (pc := 3) dX4_many_3 (by decide) ?_
  exact x_back (lp 0 (by omega)) ⟨rfl, rfl, rfl, rfl, trivial⟩
set_option maxHeartbeats 4000000 in
set_option maxRecDepth 100000 in
theorem c_X4_tilted (hM : RM s A) : Ct G yX4_tilted YX4_tilted 0 0 [.ref (gB G + 247)] 255 (cellOf G S B (N, s, T)) (Rt G (some (.int (tilN A.2.2.2.2 A.1))) S B (N, s, T)) := by
  refine ct_of (by decide +kernel) rfl rfl (Nat.le_of_ble_eq_true rfl) (by simp [Value.category]) ?_
  refine x_sub (l' := [(0, .ref (gB G + 247))]) ⟨rfl, trivial⟩ ?_
  have h12 := hM.le
  have lp : ∀ k, k ≤ A.1 → XJ G YX4_tilted (fun _ => True) (Zx G (Rt G (some (.int (tilN A.2.2.2.2 A.1))) S B (N, s, T)) 0 0) 4 [(0, .ref (gB G + 247)), (1, .int (tilN A.2.2.2.2 k)), (2, .int (nI k))] [] 255 (cellOf G S B (N, s, T)) 0 0 := by
    refine loopD (A.1) ?_
    intro k hk ih
    refine x_iload_n (pc := 4) dX4_tilted_4 rfl ?_
    refine x_aload_n (pc := 5) dX4_tilted_5 rfl ?_
    refine x_get (pc := 6) (ci := 4) (k := 0) (C := RX4) (T := TX4) (N := 21) cell_model rfl (by decide) rfl nX4 (by decide) mF_X4_7 rfl dX4_tilted_6 ?_
    refine x_iconst (pc := 9) (0) dX4_tilted_9 (by decide) ?_
    refine t_ild (pc := 10) 0 cell_s (by decide) rfl (by decide) (by decide) dX4_tilted_10 ?_
    try dsimp only
    rw [hM.told]
    refine x_cmpge (pc := 11) 30 dX4_tilted_11 (by decide) (fun c11 => ?_) (fun c11 => ?_)
    · obtain rfl : k = A.1 := by have := mt (tl_iff hM.le hk).mpr c11; omega
      refine x_iload_n (pc := 30) dX4_tilted_30 rfl ?_
      exact x_iret rfl dX4_tilted_31 ⟨by rfl, rfl, rfl⟩
    · have hkn : k < A.1 := (tl_iff hM.le hk).mp c11
      refine x_iload_n (pc := 14) dX4_tilted_14 rfl ?_
      refine x_aload_n (pc := 15) dX4_tilted_15 rfl ?_
      refine x_iload_n (pc := 16) dX4_tilted_16 rfl ?_
      refine x_bipush (pc := 17) (6) dX4_tilted_17 (by decide) ?_
      refine t_Vi (pc := 19) (c_X4_of hM (by first | assumption | omega) 6 (by decide)) qV_X4_of mL_X4_46 dX4_tilted_19 rfl cell_model (by decide) rfl rfl rfl ⟨by decide, by decide⟩ (Nat.le_of_ble_eq_true rfl) (Nat.le_of_ble_eq_true rfl) (Nat.le_of_ble_eq_true rfl) ?_
      refine x_iadd (pc := 22) dX4_tilted_22 ?_
      refine x_istore_n (pc := 23) dX4_tilted_23 (by decide) ?_
      refine x_iinc (pc := 24) (nI (k + 1)) dX4_tilted_24 rfl (iinc_nI k) (by decide) ?_
      refine x_goto (pc := 27) 4 dX4_tilted_27 (by decide) ?_
      have e := ih hkn
      simp only [tilN] at e
      exact x_back e ⟨rfl, rfl, rfl, trivial⟩
  refine x_iconst (pc := 0) (0) dX4_tilted_0 (by decide) ?_
  refine x_istore_n (pc := 1) dX4_tilted_1 (by decide) ?_
  refine x_iconst (pc := 2) (0) dX4_tilted_2 (by decide) ?_
  refine x_istore_n (pc := 3) dX4_tilted_3 (by decide) ?_
  exact x_back (lp 0 (by omega)) ⟨rfl, rfl, rfl, trivial⟩
set_option maxHeartbeats 4000000 in
set_option maxRecDepth 100000 in
theorem c_X4_allHeat (hM : RM s A) : Ct G yX4_allHeat YX4_allHeat 0 0 [.ref (gB G + 247)] 255 (cellOf G S B (N, s, T)) (Rt G (some (.int (sumN A.2.2.1 12))) S B (N, s, T)) := by
  refine ct_of (by decide +kernel) rfl rfl (Nat.le_of_ble_eq_true rfl) (by simp [Value.category]) ?_
  refine x_sub (l' := [(0, .ref (gB G + 247))]) ⟨rfl, trivial⟩ ?_
  have h12 := hM.le
  have lp : ∀ k, k ≤ 12 → XJ G YX4_allHeat (fun _ => True) (Zx G (Rt G (some (.int (sumN A.2.2.1 12))) S B (N, s, T)) 0 0) 4 [(0, .ref (gB G + 247)), (1, .int (sumN A.2.2.1 k)), (2, .int (nI k))] [] 255 (cellOf G S B (N, s, T)) 0 0 := by
    refine loopD (12) ?_
    intro k hk ih
    refine x_iload_n (pc := 4) dX4_allHeat_4 rfl ?_
    refine x_bipush (pc := 5) (12) dX4_allHeat_5 (by decide) ?_
    refine x_cmpge (pc := 7) 28 dX4_allHeat_7 (by decide) (fun c7 => ?_) (fun c7 => ?_)
    · obtain rfl : k = 12 := by have := mt (lt_lit (n := 12) rfl (by decide) (by omega)).mpr c7; omega
      refine x_iload_n (pc := 28) dX4_allHeat_28 rfl ?_
      exact x_iret rfl dX4_allHeat_29 ⟨by rfl, rfl, rfl⟩
    · have hkn : k < 12 := (lt_lit rfl (by decide) (by omega)).mp c7
      refine x_iload_n (pc := 10) dX4_allHeat_10 rfl ?_
      refine x_aload_n (pc := 11) dX4_allHeat_11 rfl ?_
      refine x_get (pc := 12) (ci := 4) (k := 0) (C := RX4) (T := TX4) (N := 21) cell_model rfl (by decide) rfl nX4 (by decide) mF_X4_7 rfl dX4_allHeat_12 ?_
      refine x_bipush (pc := 15) (11) dX4_allHeat_15 (by decide) ?_
      refine x_iload_n (pc := 17) dX4_allHeat_17 rfl ?_
      refine x_iadd (pc := 18) dX4_allHeat_18 ?_
      refine t_ild (pc := 19) (11 + k) cell_s (by decide) (nI_11 k) (by omega) (by decide) dX4_allHeat_19 ?_
      try dsimp only
      try dsimp only
      rw [hM.heat k hkn]
      refine x_iadd (pc := 20) dX4_allHeat_20 ?_
      refine x_istore_n (pc := 21) dX4_allHeat_21 (by decide) ?_
      refine x_iinc (pc := 22) (nI (k + 1)) dX4_allHeat_22 rfl (iinc_nI k) (by decide) ?_
      refine x_goto (pc := 25) 4 dX4_allHeat_25 (by decide) ?_
      have e := ih hkn
      simp only [sumN] at e
      exact x_back e ⟨rfl, rfl, rfl, trivial⟩
  refine x_iconst (pc := 0) (0) dX4_allHeat_0 (by decide) ?_
  refine x_istore_n (pc := 1) dX4_allHeat_1 (by decide) ?_
  refine x_iconst (pc := 2) (0) dX4_allHeat_2 (by decide) ?_
  refine x_istore_n (pc := 3) dX4_allHeat_3 (by decide) ?_
  exact x_back (lp 0 (by omega)) ⟨rfl, rfl, rfl, trivial⟩
set_option maxHeartbeats 4000000 in
set_option maxRecDepth 100000 in
theorem c_X4_hottestSquare (hM : RM s A) (hV : VA A) : Ct G yX4_hottestSquare YX4_hottestSquare 0 0 [.ref (gB G + 247)] 255 (cellOf G S B (N, s, T)) (Rt G (some (.int (nI (hotN A.2.2.1 12)))) S B (N, s, T)) := by
  refine ct_of (by decide +kernel) rfl rfl (Nat.le_of_ble_eq_true rfl) (by simp [Value.category]) ?_
  refine x_sub (l' := [(0, .ref (gB G + 247))]) ⟨rfl, trivial⟩ ?_
  have h12 := hM.le
  rw [← hs_eq hV 0]
  have hH : ∀ k, k < 12 → 0 ≤ (A.2.2.1 k).toInt := fun k hk => (hV.ht hk).1
  have lp : ∀ k f, k ≤ 12 → XJ G YX4_hottestSquare (fun _ => True) (Zx G (Rt G (some (.int (nI (hsD A.2.2.1 (grV A) k f)))) S B (N, s, T)) 0 0) 5 [(0, .ref (gB G + 247)), (1, .int (nI f)), (2, .int (nI k - 1))] [] 255 (cellOf G S B (N, s, T)) 0 0 := by
    intro k
    induction k with
    | zero =>
      intro f hk
      refine x_iload_n (pc := 5) dX4_hottestSquare_5 rfl ?_
      refine x_iflt (pc := 6) 37 dX4_hottestSquare_6 (by decide) (fun c6 => ?_) (fun c6 => absurd ((nI_m1 (by decide)).mpr rfl) c6)
      refine x_iload_n (pc := 37) dX4_hottestSquare_37 rfl ?_
      exact x_iret rfl dX4_hottestSquare_38 ⟨by rfl, rfl, rfl⟩
    | succ k ih =>
      intro f hk
      refine x_iload_n (pc := 5) dX4_hottestSquare_5 rfl ?_
      refine x_iflt (pc := 6) 37 dX4_hottestSquare_6 (by decide) (fun c6 => absurd ((nI_m1 (by omega)).mp c6) (Nat.succ_ne_zero k)) (fun c6 => ?_)
      rw [nI_pred k]
      refine x_aload_n (pc := 9) dX4_hottestSquare_9 rfl ?_
      refine x_get (pc := 10) (ci := 4) (k := 0) (C := RX4) (T := TX4) (N := 21) cell_model rfl (by decide) rfl nX4 (by decide) mF_X4_7 rfl dX4_hottestSquare_10 ?_
      refine x_bipush (pc := 13) (11) dX4_hottestSquare_13 (by decide) ?_
      refine x_iload_n (pc := 15) dX4_hottestSquare_15 rfl ?_
      refine x_iadd (pc := 16) dX4_hottestSquare_16 ?_
      refine t_ild (pc := 17) (11 + k) cell_s (by decide) (nI_11 k) (by omega) (by decide) dX4_hottestSquare_17 ?_
      try dsimp only
      try dsimp only
      rw [hM.heat k (by omega)]
      refine x_aload_n (pc := 18) dX4_hottestSquare_18 rfl ?_
      refine t_Vi (pc := 19) (c_X4_hottest hM hH) qV_X4_hottest mL_X4_110 dX4_hottestSquare_19 rfl cell_model (by decide) rfl rfl rfl ⟨by decide, by decide⟩ (Nat.le_of_ble_eq_true rfl) (Nat.le_of_ble_eq_true rfl) (Nat.le_of_ble_eq_true rfl) ?_
      refine x_cmpne (pc := 22) 29 dX4_hottestSquare_22 (by decide) (fun c22 => ?_) (fun c22 => ?_)
      · refine x_iload_n (pc := 29) dX4_hottestSquare_29 rfl ?_
        refine x_istore_n (pc := 30) dX4_hottestSquare_30 (by decide) ?_
        refine x_iinc (pc := 31) (nI k - 1) dX4_hottestSquare_31 rfl (dec_nI k) (by decide) ?_
        refine x_goto (pc := 34) 5 dX4_hottestSquare_34 (by decide) ?_
        have e := ih f (by omega)
        simp only [hsD, if_neg c22]
        exact x_back e ⟨rfl, rfl, rfl, trivial⟩
      · refine x_iload_n (pc := 25) dX4_hottestSquare_25 rfl ?_
        refine x_goto (pc := 26) 30 dX4_hottestSquare_26 (by decide) ?_
        refine x_istore_n (pc := 30) dX4_hottestSquare_30 (by decide) ?_
        refine x_iinc (pc := 31) (nI k - 1) dX4_hottestSquare_31 rfl (dec_nI k) (by decide) ?_
        refine x_goto (pc := 34) 5 dX4_hottestSquare_34 (by decide) ?_
        have e := ih k (by omega)
        simp only [hsD, if_pos c22]
        exact x_back e ⟨rfl, rfl, rfl, trivial⟩
  refine x_iconst (pc := 0) (0) dX4_hottestSquare_0 (by decide) ?_
  refine x_istore_n (pc := 1) dX4_hottestSquare_1 (by decide) ?_
  refine x_bipush (pc := 2) (11) dX4_hottestSquare_2 (by decide) ?_
  refine x_istore_n (pc := 4) dX4_hottestSquare_4 (by decide) ?_
  exact x_back (lp 12 0 (Nat.le_refl _)) ⟨rfl, rfl, rfl, trivial⟩
end MREAD2
