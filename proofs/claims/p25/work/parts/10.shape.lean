/-! the class: isIn, Shape (rows laid by wip/whole/p10.py) -/
section SHAPE
variable {G : GX} {S : Nat → Sh} {B : Bc} {M : Md} {j i : Nat} {σ : Sh}

def insB (f g : Fs) : Bool := decide (g 0 < f 0) && decide (f 0 + f 2 < g 0 + g 2) && decide (g 1 < f 1) && decide (f 1 + f 3 < g 1 + g 3)
def apaB (f g : Fs) : Bool := !decide (g 0 < f 0 + f 2) || !decide (f 0 < g 0 + g 2) || !decide (g 1 < f 1 + f 3) || !decide (f 1 < g 1 + g 3)
def edgV (f : Fs) : Int32 := 2 * (f 2 + f 3) - 4
def lcV (f : Fs) : Int32 := if f 4 = 1 ∨ f 4 = 2 then f 0 + f 2 - 1 else f 0
def lrV (f : Fs) : Int32 := if f 4 = 2 ∨ f 4 = 3 then f 1 + f 3 - 1 else f 1
def lsV (f : Fs) : Int32 := lcV f / 8 + 4 * (lrV f / 8)
def fcV (f : Fs) (q m : Int32) : Int32 := imn (f 0 + f 2 - m) ((q - q / 4 * 4) * 8 + 8) - imx (f 0 + m) ((q - q / 4 * 4) * 8)
def frV (f : Fs) (q m : Int32) : Int32 := imn (f 1 + f 3 - m) (q / 4 * 8 + 8) - imx (f 1 + m) (q / 4 * 8)
def fldV (f : Fs) (q m : Int32) : Int32 := imx (fcV f q m) 0 * imx (frV f q m) 0
def edgQ (f : Fs) (k : Nat) : Int32 := fldV f (nI k) 0 - fldV f (nI k) 1
set_option maxHeartbeats 4000000 in
set_option maxRecDepth 100000 in
theorem c_X3_isIn (v a b : Int32) : Ct G yX3_isIn YX3_isIn 0 0 [.int v, .int a, .int b] (nN G) (cellOf G S B M) (Rt G (some (.int (b01 (betw v a b)))) S B M) := by
  refine ct_of (by decide +kernel) rfl rfl (Nat.le_of_ble_eq_true rfl) (by simp [Value.category]) ?_
  refine x_sub (l' := [(0, .int v), (1, .int a), (2, .int b)]) ⟨rfl, rfl, rfl, trivial⟩ ?_
  refine x_iload_n (pc := 0) dX3_isIn_0 rfl ?_
  refine x_iload_n (pc := 1) dX3_isIn_1 rfl ?_
  refine x_cmplt (pc := 2) 14 dX3_isIn_2 (by decide) (fun c2 => ?_) (fun c2 => ?_)
  · refine x_iconst (pc := 14) (0) dX3_isIn_14 (by decide) ?_
    exact x_zret rfl rfl dX3_isIn_15 ⟨by simp only [b01, betw, *, decide_true, decide_false, decide_not, Bool.and_true, Bool.true_and, Bool.and_false, Bool.false_and, Bool.or_true, Bool.true_or, Bool.or_false, Bool.false_or, Bool.not_true, Bool.not_false, if_true, if_false, not_true, not_false_eq_true, not_false_iff, Bool.false_eq_true, reduceIte, or_true, true_or, or_false, false_or, and_true, true_and, and_false, false_and, ite_self], rfl, rfl⟩
  · refine x_iload_n (pc := 5) dX3_isIn_5 rfl ?_
    refine x_iload_n (pc := 6) dX3_isIn_6 rfl ?_
    refine x_cmpgt (pc := 7) 14 dX3_isIn_7 (by decide) (fun c7 => ?_) (fun c7 => ?_)
    · refine x_iconst (pc := 14) (0) dX3_isIn_14 (by decide) ?_
      exact x_zret rfl rfl dX3_isIn_15 ⟨by simp only [b01, betw, *, decide_true, decide_false, decide_not, Bool.and_true, Bool.true_and, Bool.and_false, Bool.false_and, Bool.or_true, Bool.true_or, Bool.or_false, Bool.false_or, Bool.not_true, Bool.not_false, if_true, if_false, not_true, not_false_eq_true, not_false_iff, Bool.false_eq_true, reduceIte, or_true, true_or, or_false, false_or, and_true, true_and, and_false, false_and, ite_self], rfl, rfl⟩
    · refine x_iconst (pc := 10) (1) dX3_isIn_10 (by decide) ?_
      refine x_goto (pc := 11) 15 dX3_isIn_11 (by decide) ?_
      exact x_zret rfl rfl dX3_isIn_15 ⟨by simp only [b01, betw, *, decide_true, decide_false, decide_not, Bool.and_true, Bool.true_and, Bool.and_false, Bool.false_and, Bool.or_true, Bool.true_or, Bool.or_false, Bool.false_or, Bool.not_true, Bool.not_false, if_true, if_false, not_true, not_false_eq_true, not_false_iff, Bool.false_eq_true, reduceIte, or_true, true_or, or_false, false_or, and_true, true_and, and_false, false_and, ite_self], rfl, rfl⟩
set_option maxHeartbeats 4000000 in
set_option maxRecDepth 100000 in
theorem c_X1_isInside {i2 : Nat} (hj : j < 8) (hi : i < 13) (hi2 : i2 < 13) : Ct G yX1_isInside YX1_isInside 0 0 [.ref (gB G + shO j i), .ref (gB G + shO j i2)] (nN G) (cellOf G (updS S j σ) B M) (Rt G (some (.int (b01 (insB (σ.2.2.2.1 i) (σ.2.2.2.1 i2))))) (updS S j σ) B M) := by
  refine ct_of (by decide +kernel) rfl rfl (Nat.le_of_ble_eq_true rfl) (by simp [Value.category]) ?_
  refine x_sub (l' := [(0, .ref (gB G + shO j i)), (1, .ref (gB G + shO j i2))]) ⟨rfl, rfl, trivial⟩ ?_
  refine x_aload_n (pc := 0) dX1_isInside_0 rfl ?_
  refine x_get (pc := 1) (ci := 1) (k := 0) (C := RX1) (T := TX1) (N := 9) (cell_shape (by first | assumption | omega) (by first | assumption | omega)) rfl (shO_255 (by first | assumption | omega) (by first | assumption | omega)) rfl nX1 (by decide) mF_X1_9 rfl dX1_isInside_1 ?_
  refine x_aload_n (pc := 4) dX1_isInside_4 rfl ?_
  refine x_get (pc := 5) (ci := 1) (k := 0) (C := RX1) (T := TX1) (N := 9) (cell_shape (by first | assumption | omega) (by first | assumption | omega)) rfl (shO_255 (by first | assumption | omega) (by first | assumption | omega)) rfl nX1 (by decide) mF_X1_9 rfl dX1_isInside_5 ?_
  refine x_cmple (pc := 8) 68 dX1_isInside_8 (by decide) (fun c8 => ?_) (fun c8 => ?_)
  · refine x_iconst (pc := 68) (0) dX1_isInside_68 (by decide) ?_
    exact x_zret rfl rfl dX1_isInside_69 ⟨by simp only [b01, insB, *, decide_true, decide_false, decide_not, Bool.and_true, Bool.true_and, Bool.and_false, Bool.false_and, Bool.or_true, Bool.true_or, Bool.or_false, Bool.false_or, Bool.not_true, Bool.not_false, if_true, if_false, not_true, not_false_eq_true, not_false_iff, Bool.false_eq_true, reduceIte, or_true, true_or, or_false, false_or, and_true, true_and, and_false, false_and, ite_self], rfl, rfl⟩
  · refine x_aload_n (pc := 11) dX1_isInside_11 rfl ?_
    refine x_get (pc := 12) (ci := 1) (k := 0) (C := RX1) (T := TX1) (N := 9) (cell_shape (by first | assumption | omega) (by first | assumption | omega)) rfl (shO_255 (by first | assumption | omega) (by first | assumption | omega)) rfl nX1 (by decide) mF_X1_9 rfl dX1_isInside_12 ?_
    refine x_aload_n (pc := 15) dX1_isInside_15 rfl ?_
    refine x_get (pc := 16) (ci := 1) (k := 2) (C := RX1) (T := TX1) (N := 9) (cell_shape (by first | assumption | omega) (by first | assumption | omega)) rfl (shO_255 (by first | assumption | omega) (by first | assumption | omega)) rfl nX1 (by decide) mF_X1_18 rfl dX1_isInside_16 ?_
    refine x_iadd (pc := 19) dX1_isInside_19 ?_
    refine x_aload_n (pc := 20) dX1_isInside_20 rfl ?_
    refine x_get (pc := 21) (ci := 1) (k := 0) (C := RX1) (T := TX1) (N := 9) (cell_shape (by first | assumption | omega) (by first | assumption | omega)) rfl (shO_255 (by first | assumption | omega) (by first | assumption | omega)) rfl nX1 (by decide) mF_X1_9 rfl dX1_isInside_21 ?_
    refine x_aload_n (pc := 24) dX1_isInside_24 rfl ?_
    refine x_get (pc := 25) (ci := 1) (k := 2) (C := RX1) (T := TX1) (N := 9) (cell_shape (by first | assumption | omega) (by first | assumption | omega)) rfl (shO_255 (by first | assumption | omega) (by first | assumption | omega)) rfl nX1 (by decide) mF_X1_18 rfl dX1_isInside_25 ?_
    refine x_iadd (pc := 28) dX1_isInside_28 ?_
    refine x_cmpge (pc := 29) 68 dX1_isInside_29 (by decide) (fun c29 => ?_) (fun c29 => ?_)
    · refine x_iconst (pc := 68) (0) dX1_isInside_68 (by decide) ?_
      exact x_zret rfl rfl dX1_isInside_69 ⟨by simp only [b01, insB, *, decide_true, decide_false, decide_not, Bool.and_true, Bool.true_and, Bool.and_false, Bool.false_and, Bool.or_true, Bool.true_or, Bool.or_false, Bool.false_or, Bool.not_true, Bool.not_false, if_true, if_false, not_true, not_false_eq_true, not_false_iff, Bool.false_eq_true, reduceIte, or_true, true_or, or_false, false_or, and_true, true_and, and_false, false_and, ite_self], rfl, rfl⟩
    · refine x_aload_n (pc := 32) dX1_isInside_32 rfl ?_
      refine x_get (pc := 33) (ci := 1) (k := 1) (C := RX1) (T := TX1) (N := 9) (cell_shape (by first | assumption | omega) (by first | assumption | omega)) rfl (shO_255 (by first | assumption | omega) (by first | assumption | omega)) rfl nX1 (by decide) mF_X1_15 rfl dX1_isInside_33 ?_
      refine x_aload_n (pc := 36) dX1_isInside_36 rfl ?_
      refine x_get (pc := 37) (ci := 1) (k := 1) (C := RX1) (T := TX1) (N := 9) (cell_shape (by first | assumption | omega) (by first | assumption | omega)) rfl (shO_255 (by first | assumption | omega) (by first | assumption | omega)) rfl nX1 (by decide) mF_X1_15 rfl dX1_isInside_37 ?_
      refine x_cmple (pc := 40) 68 dX1_isInside_40 (by decide) (fun c40 => ?_) (fun c40 => ?_)
      · refine x_iconst (pc := 68) (0) dX1_isInside_68 (by decide) ?_
        exact x_zret rfl rfl dX1_isInside_69 ⟨by simp only [b01, insB, *, decide_true, decide_false, decide_not, Bool.and_true, Bool.true_and, Bool.and_false, Bool.false_and, Bool.or_true, Bool.true_or, Bool.or_false, Bool.false_or, Bool.not_true, Bool.not_false, if_true, if_false, not_true, not_false_eq_true, not_false_iff, Bool.false_eq_true, reduceIte, or_true, true_or, or_false, false_or, and_true, true_and, and_false, false_and, ite_self], rfl, rfl⟩
      · refine x_aload_n (pc := 43) dX1_isInside_43 rfl ?_
        refine x_get (pc := 44) (ci := 1) (k := 1) (C := RX1) (T := TX1) (N := 9) (cell_shape (by first | assumption | omega) (by first | assumption | omega)) rfl (shO_255 (by first | assumption | omega) (by first | assumption | omega)) rfl nX1 (by decide) mF_X1_15 rfl dX1_isInside_44 ?_
        refine x_aload_n (pc := 47) dX1_isInside_47 rfl ?_
        refine x_get (pc := 48) (ci := 1) (k := 3) (C := RX1) (T := TX1) (N := 9) (cell_shape (by first | assumption | omega) (by first | assumption | omega)) rfl (shO_255 (by first | assumption | omega) (by first | assumption | omega)) rfl nX1 (by decide) mF_X1_21 rfl dX1_isInside_48 ?_
        refine x_iadd (pc := 51) dX1_isInside_51 ?_
        refine x_aload_n (pc := 52) dX1_isInside_52 rfl ?_
        refine x_get (pc := 53) (ci := 1) (k := 1) (C := RX1) (T := TX1) (N := 9) (cell_shape (by first | assumption | omega) (by first | assumption | omega)) rfl (shO_255 (by first | assumption | omega) (by first | assumption | omega)) rfl nX1 (by decide) mF_X1_15 rfl dX1_isInside_53 ?_
        refine x_aload_n (pc := 56) dX1_isInside_56 rfl ?_
        refine x_get (pc := 57) (ci := 1) (k := 3) (C := RX1) (T := TX1) (N := 9) (cell_shape (by first | assumption | omega) (by first | assumption | omega)) rfl (shO_255 (by first | assumption | omega) (by first | assumption | omega)) rfl nX1 (by decide) mF_X1_21 rfl dX1_isInside_57 ?_
        refine x_iadd (pc := 60) dX1_isInside_60 ?_
        refine x_cmpge (pc := 61) 68 dX1_isInside_61 (by decide) (fun c61 => ?_) (fun c61 => ?_)
        · refine x_iconst (pc := 68) (0) dX1_isInside_68 (by decide) ?_
          exact x_zret rfl rfl dX1_isInside_69 ⟨by simp only [b01, insB, *, decide_true, decide_false, decide_not, Bool.and_true, Bool.true_and, Bool.and_false, Bool.false_and, Bool.or_true, Bool.true_or, Bool.or_false, Bool.false_or, Bool.not_true, Bool.not_false, if_true, if_false, not_true, not_false_eq_true, not_false_iff, Bool.false_eq_true, reduceIte, or_true, true_or, or_false, false_or, and_true, true_and, and_false, false_and, ite_self], rfl, rfl⟩
        · refine x_iconst (pc := 64) (1) dX1_isInside_64 (by decide) ?_
          refine x_goto (pc := 65) 69 dX1_isInside_65 (by decide) ?_
          exact x_zret rfl rfl dX1_isInside_69 ⟨by simp only [b01, insB, *, decide_true, decide_false, decide_not, Bool.and_true, Bool.true_and, Bool.and_false, Bool.false_and, Bool.or_true, Bool.true_or, Bool.or_false, Bool.false_or, Bool.not_true, Bool.not_false, if_true, if_false, not_true, not_false_eq_true, not_false_iff, Bool.false_eq_true, reduceIte, or_true, true_or, or_false, false_or, and_true, true_and, and_false, false_and, ite_self], rfl, rfl⟩
set_option maxHeartbeats 4000000 in
set_option maxRecDepth 100000 in
theorem c_X1_isApartFrom {i2 : Nat} (hj : j < 8) (hi : i < 13) (hi2 : i2 < 13) : Ct G yX1_isApartFrom YX1_isApartFrom 0 0 [.ref (gB G + shO j i), .ref (gB G + shO j i2)] (nN G) (cellOf G (updS S j σ) B M) (Rt G (some (.int (b01 (apaB (σ.2.2.2.1 i) (σ.2.2.2.1 i2))))) (updS S j σ) B M) := by
  refine ct_of (by decide +kernel) rfl rfl (Nat.le_of_ble_eq_true rfl) (by simp [Value.category]) ?_
  refine x_sub (l' := [(0, .ref (gB G + shO j i)), (1, .ref (gB G + shO j i2))]) ⟨rfl, rfl, trivial⟩ ?_
  refine x_aload_n (pc := 0) dX1_isApartFrom_0 rfl ?_
  refine x_get (pc := 1) (ci := 1) (k := 0) (C := RX1) (T := TX1) (N := 9) (cell_shape (by first | assumption | omega) (by first | assumption | omega)) rfl (shO_255 (by first | assumption | omega) (by first | assumption | omega)) rfl nX1 (by decide) mF_X1_9 rfl dX1_isApartFrom_1 ?_
  refine x_aload_n (pc := 4) dX1_isApartFrom_4 rfl ?_
  refine x_get (pc := 5) (ci := 1) (k := 2) (C := RX1) (T := TX1) (N := 9) (cell_shape (by first | assumption | omega) (by first | assumption | omega)) rfl (shO_255 (by first | assumption | omega) (by first | assumption | omega)) rfl nX1 (by decide) mF_X1_18 rfl dX1_isApartFrom_5 ?_
  refine x_iadd (pc := 8) dX1_isApartFrom_8 ?_
  refine x_aload_n (pc := 9) dX1_isApartFrom_9 rfl ?_
  refine x_get (pc := 10) (ci := 1) (k := 0) (C := RX1) (T := TX1) (N := 9) (cell_shape (by first | assumption | omega) (by first | assumption | omega)) rfl (shO_255 (by first | assumption | omega) (by first | assumption | omega)) rfl nX1 (by decide) mF_X1_9 rfl dX1_isApartFrom_10 ?_
  refine x_cmple (pc := 13) 64 dX1_isApartFrom_13 (by decide) (fun c13 => ?_) (fun c13 => ?_)
  · refine x_iconst (pc := 64) (1) dX1_isApartFrom_64 (by decide) ?_
    refine x_goto (pc := 65) 69 dX1_isApartFrom_65 (by decide) ?_
    exact x_zret rfl rfl dX1_isApartFrom_69 ⟨by simp only [b01, apaB, *, decide_true, decide_false, decide_not, Bool.and_true, Bool.true_and, Bool.and_false, Bool.false_and, Bool.or_true, Bool.true_or, Bool.or_false, Bool.false_or, Bool.not_true, Bool.not_false, if_true, if_false, not_true, not_false_eq_true, not_false_iff, Bool.false_eq_true, reduceIte, or_true, true_or, or_false, false_or, and_true, true_and, and_false, false_and, ite_self], rfl, rfl⟩
  · refine x_aload_n (pc := 16) dX1_isApartFrom_16 rfl ?_
    refine x_get (pc := 17) (ci := 1) (k := 0) (C := RX1) (T := TX1) (N := 9) (cell_shape (by first | assumption | omega) (by first | assumption | omega)) rfl (shO_255 (by first | assumption | omega) (by first | assumption | omega)) rfl nX1 (by decide) mF_X1_9 rfl dX1_isApartFrom_17 ?_
    refine x_aload_n (pc := 20) dX1_isApartFrom_20 rfl ?_
    refine x_get (pc := 21) (ci := 1) (k := 2) (C := RX1) (T := TX1) (N := 9) (cell_shape (by first | assumption | omega) (by first | assumption | omega)) rfl (shO_255 (by first | assumption | omega) (by first | assumption | omega)) rfl nX1 (by decide) mF_X1_18 rfl dX1_isApartFrom_21 ?_
    refine x_iadd (pc := 24) dX1_isApartFrom_24 ?_
    refine x_aload_n (pc := 25) dX1_isApartFrom_25 rfl ?_
    refine x_get (pc := 26) (ci := 1) (k := 0) (C := RX1) (T := TX1) (N := 9) (cell_shape (by first | assumption | omega) (by first | assumption | omega)) rfl (shO_255 (by first | assumption | omega) (by first | assumption | omega)) rfl nX1 (by decide) mF_X1_9 rfl dX1_isApartFrom_26 ?_
    refine x_cmple (pc := 29) 64 dX1_isApartFrom_29 (by decide) (fun c29 => ?_) (fun c29 => ?_)
    · refine x_iconst (pc := 64) (1) dX1_isApartFrom_64 (by decide) ?_
      refine x_goto (pc := 65) 69 dX1_isApartFrom_65 (by decide) ?_
      exact x_zret rfl rfl dX1_isApartFrom_69 ⟨by simp only [b01, apaB, *, decide_true, decide_false, decide_not, Bool.and_true, Bool.true_and, Bool.and_false, Bool.false_and, Bool.or_true, Bool.true_or, Bool.or_false, Bool.false_or, Bool.not_true, Bool.not_false, if_true, if_false, not_true, not_false_eq_true, not_false_iff, Bool.false_eq_true, reduceIte, or_true, true_or, or_false, false_or, and_true, true_and, and_false, false_and, ite_self], rfl, rfl⟩
    · refine x_aload_n (pc := 32) dX1_isApartFrom_32 rfl ?_
      refine x_get (pc := 33) (ci := 1) (k := 1) (C := RX1) (T := TX1) (N := 9) (cell_shape (by first | assumption | omega) (by first | assumption | omega)) rfl (shO_255 (by first | assumption | omega) (by first | assumption | omega)) rfl nX1 (by decide) mF_X1_15 rfl dX1_isApartFrom_33 ?_
      refine x_aload_n (pc := 36) dX1_isApartFrom_36 rfl ?_
      refine x_get (pc := 37) (ci := 1) (k := 3) (C := RX1) (T := TX1) (N := 9) (cell_shape (by first | assumption | omega) (by first | assumption | omega)) rfl (shO_255 (by first | assumption | omega) (by first | assumption | omega)) rfl nX1 (by decide) mF_X1_21 rfl dX1_isApartFrom_37 ?_
      refine x_iadd (pc := 40) dX1_isApartFrom_40 ?_
      refine x_aload_n (pc := 41) dX1_isApartFrom_41 rfl ?_
      refine x_get (pc := 42) (ci := 1) (k := 1) (C := RX1) (T := TX1) (N := 9) (cell_shape (by first | assumption | omega) (by first | assumption | omega)) rfl (shO_255 (by first | assumption | omega) (by first | assumption | omega)) rfl nX1 (by decide) mF_X1_15 rfl dX1_isApartFrom_42 ?_
      refine x_cmple (pc := 45) 64 dX1_isApartFrom_45 (by decide) (fun c45 => ?_) (fun c45 => ?_)
      · refine x_iconst (pc := 64) (1) dX1_isApartFrom_64 (by decide) ?_
        refine x_goto (pc := 65) 69 dX1_isApartFrom_65 (by decide) ?_
        exact x_zret rfl rfl dX1_isApartFrom_69 ⟨by simp only [b01, apaB, *, decide_true, decide_false, decide_not, Bool.and_true, Bool.true_and, Bool.and_false, Bool.false_and, Bool.or_true, Bool.true_or, Bool.or_false, Bool.false_or, Bool.not_true, Bool.not_false, if_true, if_false, not_true, not_false_eq_true, not_false_iff, Bool.false_eq_true, reduceIte, or_true, true_or, or_false, false_or, and_true, true_and, and_false, false_and, ite_self], rfl, rfl⟩
      · refine x_aload_n (pc := 48) dX1_isApartFrom_48 rfl ?_
        refine x_get (pc := 49) (ci := 1) (k := 1) (C := RX1) (T := TX1) (N := 9) (cell_shape (by first | assumption | omega) (by first | assumption | omega)) rfl (shO_255 (by first | assumption | omega) (by first | assumption | omega)) rfl nX1 (by decide) mF_X1_15 rfl dX1_isApartFrom_49 ?_
        refine x_aload_n (pc := 52) dX1_isApartFrom_52 rfl ?_
        refine x_get (pc := 53) (ci := 1) (k := 3) (C := RX1) (T := TX1) (N := 9) (cell_shape (by first | assumption | omega) (by first | assumption | omega)) rfl (shO_255 (by first | assumption | omega) (by first | assumption | omega)) rfl nX1 (by decide) mF_X1_21 rfl dX1_isApartFrom_53 ?_
        refine x_iadd (pc := 56) dX1_isApartFrom_56 ?_
        refine x_aload_n (pc := 57) dX1_isApartFrom_57 rfl ?_
        refine x_get (pc := 58) (ci := 1) (k := 1) (C := RX1) (T := TX1) (N := 9) (cell_shape (by first | assumption | omega) (by first | assumption | omega)) rfl (shO_255 (by first | assumption | omega) (by first | assumption | omega)) rfl nX1 (by decide) mF_X1_15 rfl dX1_isApartFrom_58 ?_
        refine x_cmpgt (pc := 61) 68 dX1_isApartFrom_61 (by decide) (fun c61 => ?_) (fun c61 => ?_)
        · refine x_iconst (pc := 68) (0) dX1_isApartFrom_68 (by decide) ?_
          exact x_zret rfl rfl dX1_isApartFrom_69 ⟨by simp only [b01, apaB, *, decide_true, decide_false, decide_not, Bool.and_true, Bool.true_and, Bool.and_false, Bool.false_and, Bool.or_true, Bool.true_or, Bool.or_false, Bool.false_or, Bool.not_true, Bool.not_false, if_true, if_false, not_true, not_false_eq_true, not_false_iff, Bool.false_eq_true, reduceIte, or_true, true_or, or_false, false_or, and_true, true_and, and_false, false_and, ite_self], rfl, rfl⟩
        · refine x_iconst (pc := 64) (1) dX1_isApartFrom_64 (by decide) ?_
          refine x_goto (pc := 65) 69 dX1_isApartFrom_65 (by decide) ?_
          exact x_zret rfl rfl dX1_isApartFrom_69 ⟨by simp only [b01, apaB, *, decide_true, decide_false, decide_not, Bool.and_true, Bool.true_and, Bool.and_false, Bool.false_and, Bool.or_true, Bool.true_or, Bool.or_false, Bool.false_or, Bool.not_true, Bool.not_false, if_true, if_false, not_true, not_false_eq_true, not_false_iff, Bool.false_eq_true, reduceIte, or_true, true_or, or_false, false_or, and_true, true_and, and_false, false_and, ite_self], rfl, rfl⟩
set_option maxHeartbeats 4000000 in
set_option maxRecDepth 100000 in
theorem c_X1_edge (hj : j < 8) (hi : i < 13) : Ct G yX1_edge YX1_edge 0 0 [.ref (gB G + shO j i)] (nN G) (cellOf G (updS S j σ) B M) (Rt G (some (.int (edgV (σ.2.2.2.1 i)))) (updS S j σ) B M) := by
  refine ct_of (by decide +kernel) rfl rfl (Nat.le_of_ble_eq_true rfl) (by simp [Value.category]) ?_
  refine x_sub (l' := [(0, .ref (gB G + shO j i))]) ⟨rfl, trivial⟩ ?_
  refine x_iconst (pc := 0) (2) dX1_edge_0 (by decide) ?_
  refine x_aload_n (pc := 1) dX1_edge_1 rfl ?_
  refine x_get (pc := 2) (ci := 1) (k := 2) (C := RX1) (T := TX1) (N := 9) (cell_shape (by first | assumption | omega) (by first | assumption | omega)) rfl (shO_255 (by first | assumption | omega) (by first | assumption | omega)) rfl nX1 (by decide) mF_X1_18 rfl dX1_edge_2 ?_
  refine x_aload_n (pc := 5) dX1_edge_5 rfl ?_
  refine x_get (pc := 6) (ci := 1) (k := 3) (C := RX1) (T := TX1) (N := 9) (cell_shape (by first | assumption | omega) (by first | assumption | omega)) rfl (shO_255 (by first | assumption | omega) (by first | assumption | omega)) rfl nX1 (by decide) mF_X1_21 rfl dX1_edge_6 ?_
  refine x_iadd (pc := 9) dX1_edge_9 ?_
  refine x_imul (pc := 10) dX1_edge_10 ?_
  refine x_iconst (pc := 11) (4) dX1_edge_11 (by decide) ?_
  refine x_isub (pc := 12) dX1_edge_12 ?_
  exact x_iret rfl dX1_edge_13 ⟨by rfl, rfl, rfl⟩
set_option maxHeartbeats 4000000 in
set_option maxRecDepth 100000 in
theorem c_X1_leadColumn (hj : j < 8) (hi : i < 13) : Ct G yX1_leadColumn YX1_leadColumn 0 0 [.ref (gB G + shO j i)] (nN G) (cellOf G (updS S j σ) B M) (Rt G (some (.int (lcV (σ.2.2.2.1 i)))) (updS S j σ) B M) := by
  refine ct_of (by decide +kernel) rfl rfl (Nat.le_of_ble_eq_true rfl) (by simp [Value.category]) ?_
  refine x_sub (l' := [(0, .ref (gB G + shO j i))]) ⟨rfl, trivial⟩ ?_
  refine x_aload_n (pc := 0) dX1_leadColumn_0 rfl ?_
  refine x_get (pc := 1) (ci := 1) (k := 4) (C := RX1) (T := TX1) (N := 9) (cell_shape (by first | assumption | omega) (by first | assumption | omega)) rfl (shO_255 (by first | assumption | omega) (by first | assumption | omega)) rfl nX1 (by decide) mF_X1_24 rfl dX1_leadColumn_1 ?_
  refine x_iconst (pc := 4) (1) dX1_leadColumn_4 (by decide) ?_
  refine x_cmpeq (pc := 5) 16 dX1_leadColumn_5 (by decide) (fun c5 => ?_) (fun c5 => ?_)
  · refine x_aload_n (pc := 16) dX1_leadColumn_16 rfl ?_
    refine x_get (pc := 17) (ci := 1) (k := 0) (C := RX1) (T := TX1) (N := 9) (cell_shape (by first | assumption | omega) (by first | assumption | omega)) rfl (shO_255 (by first | assumption | omega) (by first | assumption | omega)) rfl nX1 (by decide) mF_X1_9 rfl dX1_leadColumn_17 ?_
    refine x_aload_n (pc := 20) dX1_leadColumn_20 rfl ?_
    refine x_get (pc := 21) (ci := 1) (k := 2) (C := RX1) (T := TX1) (N := 9) (cell_shape (by first | assumption | omega) (by first | assumption | omega)) rfl (shO_255 (by first | assumption | omega) (by first | assumption | omega)) rfl nX1 (by decide) mF_X1_18 rfl dX1_leadColumn_21 ?_
    refine x_iadd (pc := 24) dX1_leadColumn_24 ?_
    refine x_iconst (pc := 25) (1) dX1_leadColumn_25 (by decide) ?_
    refine x_isub (pc := 26) dX1_leadColumn_26 ?_
    refine x_goto (pc := 27) 34 dX1_leadColumn_27 (by decide) ?_
    exact x_iret rfl dX1_leadColumn_34 ⟨by simp only [lcV, *, decide_true, decide_false, decide_not, Bool.and_true, Bool.true_and, Bool.and_false, Bool.false_and, Bool.or_true, Bool.true_or, Bool.or_false, Bool.false_or, Bool.not_true, Bool.not_false, if_true, if_false, not_true, not_false_eq_true, not_false_iff, Bool.false_eq_true, reduceIte, or_true, true_or, or_false, false_or, and_true, true_and, and_false, false_and, ite_self], rfl, rfl⟩
  · refine x_aload_n (pc := 8) dX1_leadColumn_8 rfl ?_
    refine x_get (pc := 9) (ci := 1) (k := 4) (C := RX1) (T := TX1) (N := 9) (cell_shape (by first | assumption | omega) (by first | assumption | omega)) rfl (shO_255 (by first | assumption | omega) (by first | assumption | omega)) rfl nX1 (by decide) mF_X1_24 rfl dX1_leadColumn_9 ?_
    refine x_iconst (pc := 12) (2) dX1_leadColumn_12 (by decide) ?_
    refine x_cmpne (pc := 13) 30 dX1_leadColumn_13 (by decide) (fun c13 => ?_) (fun c13 => ?_)
    · refine x_aload_n (pc := 30) dX1_leadColumn_30 rfl ?_
      refine x_get (pc := 31) (ci := 1) (k := 0) (C := RX1) (T := TX1) (N := 9) (cell_shape (by first | assumption | omega) (by first | assumption | omega)) rfl (shO_255 (by first | assumption | omega) (by first | assumption | omega)) rfl nX1 (by decide) mF_X1_9 rfl dX1_leadColumn_31 ?_
      exact x_iret rfl dX1_leadColumn_34 ⟨by simp only [lcV, *, decide_true, decide_false, decide_not, Bool.and_true, Bool.true_and, Bool.and_false, Bool.false_and, Bool.or_true, Bool.true_or, Bool.or_false, Bool.false_or, Bool.not_true, Bool.not_false, if_true, if_false, not_true, not_false_eq_true, not_false_iff, Bool.false_eq_true, reduceIte, or_true, true_or, or_false, false_or, and_true, true_and, and_false, false_and, ite_self], rfl, rfl⟩
    · refine x_aload_n (pc := 16) dX1_leadColumn_16 rfl ?_
      refine x_get (pc := 17) (ci := 1) (k := 0) (C := RX1) (T := TX1) (N := 9) (cell_shape (by first | assumption | omega) (by first | assumption | omega)) rfl (shO_255 (by first | assumption | omega) (by first | assumption | omega)) rfl nX1 (by decide) mF_X1_9 rfl dX1_leadColumn_17 ?_
      refine x_aload_n (pc := 20) dX1_leadColumn_20 rfl ?_
      refine x_get (pc := 21) (ci := 1) (k := 2) (C := RX1) (T := TX1) (N := 9) (cell_shape (by first | assumption | omega) (by first | assumption | omega)) rfl (shO_255 (by first | assumption | omega) (by first | assumption | omega)) rfl nX1 (by decide) mF_X1_18 rfl dX1_leadColumn_21 ?_
      refine x_iadd (pc := 24) dX1_leadColumn_24 ?_
      refine x_iconst (pc := 25) (1) dX1_leadColumn_25 (by decide) ?_
      refine x_isub (pc := 26) dX1_leadColumn_26 ?_
      refine x_goto (pc := 27) 34 dX1_leadColumn_27 (by decide) ?_
      exact x_iret rfl dX1_leadColumn_34 ⟨by simp only [lcV, *, decide_true, decide_false, decide_not, Bool.and_true, Bool.true_and, Bool.and_false, Bool.false_and, Bool.or_true, Bool.true_or, Bool.or_false, Bool.false_or, Bool.not_true, Bool.not_false, if_true, if_false, not_true, not_false_eq_true, not_false_iff, Bool.false_eq_true, reduceIte, or_true, true_or, or_false, false_or, and_true, true_and, and_false, false_and, ite_self], rfl, rfl⟩
set_option maxHeartbeats 4000000 in
set_option maxRecDepth 100000 in
theorem c_X1_leadRow (hj : j < 8) (hi : i < 13) : Ct G yX1_leadRow YX1_leadRow 0 0 [.ref (gB G + shO j i)] (nN G) (cellOf G (updS S j σ) B M) (Rt G (some (.int (lrV (σ.2.2.2.1 i)))) (updS S j σ) B M) := by
  refine ct_of (by decide +kernel) rfl rfl (Nat.le_of_ble_eq_true rfl) (by simp [Value.category]) ?_
  refine x_sub (l' := [(0, .ref (gB G + shO j i))]) ⟨rfl, trivial⟩ ?_
  refine x_aload_n (pc := 0) dX1_leadRow_0 rfl ?_
  refine x_get (pc := 1) (ci := 1) (k := 4) (C := RX1) (T := TX1) (N := 9) (cell_shape (by first | assumption | omega) (by first | assumption | omega)) rfl (shO_255 (by first | assumption | omega) (by first | assumption | omega)) rfl nX1 (by decide) mF_X1_24 rfl dX1_leadRow_1 ?_
  refine x_iconst (pc := 4) (2) dX1_leadRow_4 (by decide) ?_
  refine x_cmpeq (pc := 5) 16 dX1_leadRow_5 (by decide) (fun c5 => ?_) (fun c5 => ?_)
  · refine x_aload_n (pc := 16) dX1_leadRow_16 rfl ?_
    refine x_get (pc := 17) (ci := 1) (k := 1) (C := RX1) (T := TX1) (N := 9) (cell_shape (by first | assumption | omega) (by first | assumption | omega)) rfl (shO_255 (by first | assumption | omega) (by first | assumption | omega)) rfl nX1 (by decide) mF_X1_15 rfl dX1_leadRow_17 ?_
    refine x_aload_n (pc := 20) dX1_leadRow_20 rfl ?_
    refine x_get (pc := 21) (ci := 1) (k := 3) (C := RX1) (T := TX1) (N := 9) (cell_shape (by first | assumption | omega) (by first | assumption | omega)) rfl (shO_255 (by first | assumption | omega) (by first | assumption | omega)) rfl nX1 (by decide) mF_X1_21 rfl dX1_leadRow_21 ?_
    refine x_iadd (pc := 24) dX1_leadRow_24 ?_
    refine x_iconst (pc := 25) (1) dX1_leadRow_25 (by decide) ?_
    refine x_isub (pc := 26) dX1_leadRow_26 ?_
    refine x_goto (pc := 27) 34 dX1_leadRow_27 (by decide) ?_
    exact x_iret rfl dX1_leadRow_34 ⟨by simp only [lrV, *, decide_true, decide_false, decide_not, Bool.and_true, Bool.true_and, Bool.and_false, Bool.false_and, Bool.or_true, Bool.true_or, Bool.or_false, Bool.false_or, Bool.not_true, Bool.not_false, if_true, if_false, not_true, not_false_eq_true, not_false_iff, Bool.false_eq_true, reduceIte, or_true, true_or, or_false, false_or, and_true, true_and, and_false, false_and, ite_self], rfl, rfl⟩
  · refine x_aload_n (pc := 8) dX1_leadRow_8 rfl ?_
    refine x_get (pc := 9) (ci := 1) (k := 4) (C := RX1) (T := TX1) (N := 9) (cell_shape (by first | assumption | omega) (by first | assumption | omega)) rfl (shO_255 (by first | assumption | omega) (by first | assumption | omega)) rfl nX1 (by decide) mF_X1_24 rfl dX1_leadRow_9 ?_
    refine x_iconst (pc := 12) (3) dX1_leadRow_12 (by decide) ?_
    refine x_cmpne (pc := 13) 30 dX1_leadRow_13 (by decide) (fun c13 => ?_) (fun c13 => ?_)
    · refine x_aload_n (pc := 30) dX1_leadRow_30 rfl ?_
      refine x_get (pc := 31) (ci := 1) (k := 1) (C := RX1) (T := TX1) (N := 9) (cell_shape (by first | assumption | omega) (by first | assumption | omega)) rfl (shO_255 (by first | assumption | omega) (by first | assumption | omega)) rfl nX1 (by decide) mF_X1_15 rfl dX1_leadRow_31 ?_
      exact x_iret rfl dX1_leadRow_34 ⟨by simp only [lrV, *, decide_true, decide_false, decide_not, Bool.and_true, Bool.true_and, Bool.and_false, Bool.false_and, Bool.or_true, Bool.true_or, Bool.or_false, Bool.false_or, Bool.not_true, Bool.not_false, if_true, if_false, not_true, not_false_eq_true, not_false_iff, Bool.false_eq_true, reduceIte, or_true, true_or, or_false, false_or, and_true, true_and, and_false, false_and, ite_self], rfl, rfl⟩
    · refine x_aload_n (pc := 16) dX1_leadRow_16 rfl ?_
      refine x_get (pc := 17) (ci := 1) (k := 1) (C := RX1) (T := TX1) (N := 9) (cell_shape (by first | assumption | omega) (by first | assumption | omega)) rfl (shO_255 (by first | assumption | omega) (by first | assumption | omega)) rfl nX1 (by decide) mF_X1_15 rfl dX1_leadRow_17 ?_
      refine x_aload_n (pc := 20) dX1_leadRow_20 rfl ?_
      refine x_get (pc := 21) (ci := 1) (k := 3) (C := RX1) (T := TX1) (N := 9) (cell_shape (by first | assumption | omega) (by first | assumption | omega)) rfl (shO_255 (by first | assumption | omega) (by first | assumption | omega)) rfl nX1 (by decide) mF_X1_21 rfl dX1_leadRow_21 ?_
      refine x_iadd (pc := 24) dX1_leadRow_24 ?_
      refine x_iconst (pc := 25) (1) dX1_leadRow_25 (by decide) ?_
      refine x_isub (pc := 26) dX1_leadRow_26 ?_
      refine x_goto (pc := 27) 34 dX1_leadRow_27 (by decide) ?_
      exact x_iret rfl dX1_leadRow_34 ⟨by simp only [lrV, *, decide_true, decide_false, decide_not, Bool.and_true, Bool.true_and, Bool.and_false, Bool.false_and, Bool.or_true, Bool.true_or, Bool.or_false, Bool.false_or, Bool.not_true, Bool.not_false, if_true, if_false, not_true, not_false_eq_true, not_false_iff, Bool.false_eq_true, reduceIte, or_true, true_or, or_false, false_or, and_true, true_and, and_false, false_and, ite_self], rfl, rfl⟩
set_option maxHeartbeats 4000000 in
set_option maxRecDepth 100000 in
theorem c_X1_leadSquare (hj : j < 8) (hi : i < 13) : Ct G yX1_leadSquare YX1_leadSquare 0 0 [.ref (gB G + shO j i)] (nN G) (cellOf G (updS S j σ) B M) (Rt G (some (.int (lsV (σ.2.2.2.1 i)))) (updS S j σ) B M) := by
  refine ct_of (by decide +kernel) rfl rfl (Nat.le_of_ble_eq_true rfl) (by simp [Value.category]) ?_
  refine x_sub (l' := [(0, .ref (gB G + shO j i))]) ⟨rfl, trivial⟩ ?_
  refine x_aload_n (pc := 0) dX1_leadSquare_0 rfl ?_
  refine t_Vi (pc := 1) (c_X1_leadColumn (by first | assumption | omega) (by first | assumption | omega)) qV_X1_leadColumn mL_X1_54 dX1_leadSquare_1 rfl (cell_shape (by first | assumption | omega) (by first | assumption | omega)) (shO_255 (by first | assumption | omega) (by first | assumption | omega)) rfl rfl rfl ⟨by decide, by decide⟩ (Nat.le_of_ble_eq_true rfl) (Nat.le_of_ble_eq_true rfl) (Nat.le_of_ble_eq_true rfl) ?_
  refine x_bipush (pc := 4) (8) dX1_leadSquare_4 (by decide) ?_
  refine x_idiv (pc := 6) dX1_leadSquare_6 (by decide) ?_
  refine x_iconst (pc := 7) (4) dX1_leadSquare_7 (by decide) ?_
  refine x_aload_n (pc := 8) dX1_leadSquare_8 rfl ?_
  refine t_Vi (pc := 9) (c_X1_leadRow (by first | assumption | omega) (by first | assumption | omega)) qV_X1_leadRow mL_X1_58 dX1_leadSquare_9 rfl (cell_shape (by first | assumption | omega) (by first | assumption | omega)) (shO_255 (by first | assumption | omega) (by first | assumption | omega)) rfl rfl rfl ⟨by decide, by decide⟩ (Nat.le_of_ble_eq_true rfl) (Nat.le_of_ble_eq_true rfl) (Nat.le_of_ble_eq_true rfl) ?_
  refine x_bipush (pc := 12) (8) dX1_leadSquare_12 (by decide) ?_
  refine x_idiv (pc := 14) dX1_leadSquare_14 (by decide) ?_
  refine x_imul (pc := 15) dX1_leadSquare_15 ?_
  refine x_iadd (pc := 16) dX1_leadSquare_16 ?_
  exact x_iret rfl dX1_leadSquare_17 ⟨by rfl, rfl, rfl⟩
set_option maxHeartbeats 4000000 in
set_option maxRecDepth 100000 in
theorem c_X1_fieldsIn (hj : j < 8) (hi : i < 13) (q m : Int32) : Ct G yX1_fieldsIn YX1_fieldsIn 0 0 [.ref (gB G + shO j i), .int q, .int m] (nN G) (cellOf G (updS S j σ) B M) (Rt G (some (.int (fldV (σ.2.2.2.1 i) q m))) (updS S j σ) B M) := by
  refine ct_of (by decide +kernel) rfl rfl (Nat.le_of_ble_eq_true rfl) (by simp [Value.category]) ?_
  refine x_sub (l' := [(0, .ref (gB G + shO j i)), (1, .int q), (2, .int m)]) ⟨rfl, rfl, rfl, trivial⟩ ?_
  refine x_iload_n (pc := 0) dX1_fieldsIn_0 rfl ?_
  refine x_iconst (pc := 1) (4) dX1_fieldsIn_1 (by decide) ?_
  refine x_irem (pc := 2) dX1_fieldsIn_2 (by decide) ?_
  refine x_bipush (pc := 3) (8) dX1_fieldsIn_3 (by decide) ?_
  refine x_imul (pc := 5) dX1_fieldsIn_5 ?_
  refine x_istore_n (pc := 6) dX1_fieldsIn_6 (by decide) ?_
  refine x_iload_n (pc := 7) dX1_fieldsIn_7 rfl ?_
  refine x_iconst (pc := 8) (4) dX1_fieldsIn_8 (by decide) ?_
  refine x_idiv (pc := 9) dX1_fieldsIn_9 (by decide) ?_
  refine x_bipush (pc := 10) (8) dX1_fieldsIn_10 (by decide) ?_
  refine x_imul (pc := 12) dX1_fieldsIn_12 ?_
  refine x_istore (pc := 13) dX1_fieldsIn_13 (by decide) ?_
  refine x_aload_n (pc := 15) dX1_fieldsIn_15 rfl ?_
  refine x_get (pc := 16) (ci := 1) (k := 0) (C := RX1) (T := TX1) (N := 9) (cell_shape (by first | assumption | omega) (by first | assumption | omega)) rfl (shO_255 (by first | assumption | omega) (by first | assumption | omega)) rfl nX1 (by decide) mF_X1_9 rfl dX1_fieldsIn_16 ?_
  refine x_aload_n (pc := 19) dX1_fieldsIn_19 rfl ?_
  refine x_get (pc := 20) (ci := 1) (k := 2) (C := RX1) (T := TX1) (N := 9) (cell_shape (by first | assumption | omega) (by first | assumption | omega)) rfl (shO_255 (by first | assumption | omega) (by first | assumption | omega)) rfl nX1 (by decide) mF_X1_18 rfl dX1_fieldsIn_20 ?_
  refine x_iadd (pc := 23) dX1_fieldsIn_23 ?_
  refine x_iload_n (pc := 24) dX1_fieldsIn_24 rfl ?_
  refine x_isub (pc := 25) dX1_fieldsIn_25 ?_
  refine x_iload_n (pc := 26) dX1_fieldsIn_26 rfl ?_
  refine x_bipush (pc := 27) (8) dX1_fieldsIn_27 (by decide) ?_
  refine x_iadd (pc := 29) dX1_fieldsIn_29 ?_
  refine x_min (pc := 30) mL_X1_46 (by decide) (Nat.le_of_ble_eq_true rfl) (Nat.le_of_ble_eq_true rfl) (Nat.le_of_ble_eq_true rfl) dX1_fieldsIn_30 ?_
  refine x_aload_n (pc := 33) dX1_fieldsIn_33 rfl ?_
  refine x_get (pc := 34) (ci := 1) (k := 0) (C := RX1) (T := TX1) (N := 9) (cell_shape (by first | assumption | omega) (by first | assumption | omega)) rfl (shO_255 (by first | assumption | omega) (by first | assumption | omega)) rfl nX1 (by decide) mF_X1_9 rfl dX1_fieldsIn_34 ?_
  refine x_iload_n (pc := 37) dX1_fieldsIn_37 rfl ?_
  refine x_iadd (pc := 38) dX1_fieldsIn_38 ?_
  refine x_iload_n (pc := 39) dX1_fieldsIn_39 rfl ?_
  refine x_max (pc := 40) mL_X1_51 (by decide) (Nat.le_of_ble_eq_true rfl) (Nat.le_of_ble_eq_true rfl) (Nat.le_of_ble_eq_true rfl) dX1_fieldsIn_40 ?_
  refine x_isub (pc := 43) dX1_fieldsIn_43 ?_
  refine x_istore (pc := 44) dX1_fieldsIn_44 (by decide) ?_
  refine x_aload_n (pc := 46) dX1_fieldsIn_46 rfl ?_
  refine x_get (pc := 47) (ci := 1) (k := 1) (C := RX1) (T := TX1) (N := 9) (cell_shape (by first | assumption | omega) (by first | assumption | omega)) rfl (shO_255 (by first | assumption | omega) (by first | assumption | omega)) rfl nX1 (by decide) mF_X1_15 rfl dX1_fieldsIn_47 ?_
  refine x_aload_n (pc := 50) dX1_fieldsIn_50 rfl ?_
  refine x_get (pc := 51) (ci := 1) (k := 3) (C := RX1) (T := TX1) (N := 9) (cell_shape (by first | assumption | omega) (by first | assumption | omega)) rfl (shO_255 (by first | assumption | omega) (by first | assumption | omega)) rfl nX1 (by decide) mF_X1_21 rfl dX1_fieldsIn_51 ?_
  refine x_iadd (pc := 54) dX1_fieldsIn_54 ?_
  refine x_iload_n (pc := 55) dX1_fieldsIn_55 rfl ?_
  refine x_isub (pc := 56) dX1_fieldsIn_56 ?_
  refine x_iload (pc := 57) dX1_fieldsIn_57 rfl ?_
  refine x_bipush (pc := 59) (8) dX1_fieldsIn_59 (by decide) ?_
  refine x_iadd (pc := 61) dX1_fieldsIn_61 ?_
  refine x_min (pc := 62) mL_X1_46 (by decide) (Nat.le_of_ble_eq_true rfl) (Nat.le_of_ble_eq_true rfl) (Nat.le_of_ble_eq_true rfl) dX1_fieldsIn_62 ?_
  refine x_aload_n (pc := 65) dX1_fieldsIn_65 rfl ?_
  refine x_get (pc := 66) (ci := 1) (k := 1) (C := RX1) (T := TX1) (N := 9) (cell_shape (by first | assumption | omega) (by first | assumption | omega)) rfl (shO_255 (by first | assumption | omega) (by first | assumption | omega)) rfl nX1 (by decide) mF_X1_15 rfl dX1_fieldsIn_66 ?_
  refine x_iload_n (pc := 69) dX1_fieldsIn_69 rfl ?_
  refine x_iadd (pc := 70) dX1_fieldsIn_70 ?_
  refine x_iload (pc := 71) dX1_fieldsIn_71 rfl ?_
  refine x_max (pc := 73) mL_X1_51 (by decide) (Nat.le_of_ble_eq_true rfl) (Nat.le_of_ble_eq_true rfl) (Nat.le_of_ble_eq_true rfl) dX1_fieldsIn_73 ?_
  refine x_isub (pc := 76) dX1_fieldsIn_76 ?_
  refine x_istore (pc := 77) dX1_fieldsIn_77 (by decide) ?_
  refine x_iload (pc := 79) dX1_fieldsIn_79 rfl ?_
  refine x_iconst (pc := 81) (0) dX1_fieldsIn_81 (by decide) ?_
  refine x_max (pc := 82) mL_X1_51 (by decide) (Nat.le_of_ble_eq_true rfl) (Nat.le_of_ble_eq_true rfl) (Nat.le_of_ble_eq_true rfl) dX1_fieldsIn_82 ?_
  refine x_iload (pc := 85) dX1_fieldsIn_85 rfl ?_
  refine x_iconst (pc := 87) (0) dX1_fieldsIn_87 (by decide) ?_
  refine x_max (pc := 88) mL_X1_51 (by decide) (Nat.le_of_ble_eq_true rfl) (Nat.le_of_ble_eq_true rfl) (Nat.le_of_ble_eq_true rfl) dX1_fieldsIn_88 ?_
  refine x_imul (pc := 91) dX1_fieldsIn_91 ?_
  exact x_iret rfl dX1_fieldsIn_92 ⟨by rfl, rfl, rfl⟩
end SHAPE
