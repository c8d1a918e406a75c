/-! the class: Sheet's readers, second part (rows laid by wip/whole/p14.py) -/
def tcX (A : Ab) (v : Int32) : Int32 := if knB A v then tcV A v.toNatClampNeg else -1
def kcX (A : Ab) (v : Int32) : Int32 := if knB A v then kcV A v.toNatClampNeg else -1
theorem tcX_nI {A : Ab} (ht : A.1 ≤ 12) {i : Nat} (hi : i < A.1) : tcX A (nI i) = tcV A i := by
  simp only [tcX, knB_nI ht hi, if_true, nI_clamp (show i < 2 ^ 31 by omega)]
theorem kcX_nI {A : Ab} (ht : A.1 ≤ 12) {i : Nat} (hi : i < A.1) : kcX A (nI i) = kcV A i := by
  simp only [kcX, knB_nI ht hi, if_true, nI_clamp (show i < 2 ^ 31 by omega)]
theorem nI_ne5 {q : Nat} (h : q < 2 ^ 31) : ¬ nI q = -5 := fun e => by
  have h1 := nI_toInt h
  rw [e] at h1
  have h2 : (-5 : Int32).toInt = -5 := by decide
  omega
theorem oV_some {o : Option Nat} (h : ¬ oV o = -5) : ∃ q, o = some q := by
  cases o with
  | none => exact absurd rfl h
  | some q => exact ⟨q, rfl⟩
theorem oV_none {o : Option Nat} (hb : ∀ q, o = some q → q < 2 ^ 31) (h : oV o = -5) : o = none := by
  cases o with
  | none => rfl
  | some q => exact absurd h (nI_ne5 (hb q rfl))
theorem besO_lt {A : Ab} : ∀ {k q : Nat}, besO A k = some q → q < k
  | 0, _, h => by simp [besO] at h
  | k + 1, q, h => by
    simp only [besO] at h
    split at h
    · split at h
      · cases h; omega
      · rename_i q' hq'
        have := besO_lt hq'
        split at h <;> (cases h; omega)
    · exact Nat.lt_succ_of_lt (besO_lt h)
theorem outO_lt {P : Nat → Fs} {f : Fs} : ∀ {k q : Nat}, outO P f k = some q → q < k
  | 0, _, h => by simp [outO] at h
  | k + 1, q, h => by
    rw [show outO P f (k + 1) = if (insB f (P k) && (match outO P f k with | none => true | some q => insB (P k) (P q))) then some k else outO P f k from rfl] at h
    by_cases hc : (insB f (P k) && (match outO P f k with | none => true | some q => insB (P k) (P q))) = true
    · rw [if_pos hc] at h; cases h; omega
    · rw [if_neg hc] at h; exact Nat.lt_succ_of_lt (outO_lt h)
theorem hotN_1 (H : Fs) : hotN H 1 = 0 := by simp [hotN]
theorem hotN_12 (H : Fs) : hotN H 12 < 12 := (hotN_lt H 12).elim id (fun h => absurd h (by decide))
theorem betw_out {v b : Int32} {n : Nat} (hb : b = nI n) (hn : n < 2 ^ 31) (h : ¬ betw v 0 b = true) : v.toInt < 0 ∨ (n : Int) < v.toInt := by
  by_cases h1 : v < 0
  · exact Or.inl (by simpa using (Int32.lt_iff_toInt_lt.mp h1))
  · refine Or.inr ?_
    have h2 : b < v := by
      apply Classical.byContradiction
      intro q
      exact h (by simp only [betw, decide_eq_false h1, decide_eq_false q]; rfl)
    have h3 := Int32.lt_iff_toInt_lt.mp h2
    rw [hb, nI_toInt hn] at h3
    exact h3
theorem ne_out {v : Int32} {n m : Nat} (hm : m ≤ n) (hn : n < 2 ^ 31) (h : v.toInt < 0 ∨ (n : Int) < v.toInt) : ¬ v = nI m := fun e => by
  rw [e, nI_toInt (by omega)] at h
  omega
theorem betw_ge {v : Int32} {n m : Nat} (hm : m ≤ n) (hn : n < 2 ^ 31) (h : v.toInt < 0 ∨ (n : Int) < v.toInt) : betw v 0 (nI m) = false := by
  rcases h with h | h
  · have h1 : v < 0 := Int32.lt_iff_toInt_lt.mpr (by simpa using h)
    simp only [betw, decide_eq_true h1]; rfl
  · have h1 : nI m < v := Int32.lt_iff_toInt_lt.mpr (by rw [nI_toInt (by omega)]; omega)
    simp only [betw, decide_eq_true h1]; simp
section SHEET3
variable {G : GX} {S : Nat → Sh} {B : Bc} {M : Md} {j i : Nat} {σ : Sh}
variable {A : Ab}
set_option maxHeartbeats 4000000 in
set_option maxRecDepth 100000 in
theorem c_X2_ticksToCut (hj : j < 8) (hR : RC σ A) (v : Int32) : Ct G yX2_ticksToCut YX2_ticksToCut 0 0 [.ref (gB G + sB j), .int v] (nN G) (cellOf G (updS S j σ) B M) (Rt G (some (.int (tcX A v))) (updS S j σ) B M) := by
  refine ct_of (by decide +kernel) rfl rfl (Nat.le_of_ble_eq_true rfl) (by simp [Value.category]) ?_
  refine x_sub (l' := [(0, .ref (gB G + sB j)), (1, .int v)]) ⟨rfl, rfl, trivial⟩ ?_
  have h12 := hR.le
  refine x_aload_n (pc := 0) dX2_ticksToCut_0 rfl ?_
  refine x_iload_n (pc := 1) dX2_ticksToCut_1 rfl ?_
  refine t_Vi (pc := 2) (c_X2_knows (by first | assumption | omega) hR _) qV_X2_knows mL_X2_72 dX2_ticksToCut_2 rfl (cell_sheet (by first | assumption | omega)) (sB_255 (by first | assumption | omega)) rfl rfl rfl ⟨by decide, by decide⟩ (Nat.le_of_ble_eq_true rfl) (Nat.le_of_ble_eq_true rfl) (Nat.le_of_ble_eq_true rfl) ?_
  refine x_ifne (pc := 5) 10 dX2_ticksToCut_5 (by decide) (fun c5 => ?_) (fun c5 => ?_)
  · obtain ⟨i, hi, rfl, hcl⟩ := knB_some hR.le (b01_ne c5)
    refine x_aload_n (pc := 10) dX2_ticksToCut_10 rfl ?_
    refine x_get (pc := 11) (ci := 2) (k := 0) (C := RX2) (T := TX2) (N := 10) (cell_sheet (by first | assumption | omega)) rfl (sB_255 (by first | assumption | omega)) rfl nX2 (by decide) mF_X2_13 rfl dX2_ticksToCut_11 ?_
    refine x_iload_n (pc := 14) dX2_ticksToCut_14 rfl ?_
    refine t_shapes (pc := 15) _ (by first | assumption | omega) rfl (by first | assumption | omega) dX2_ticksToCut_15 ?_
    refine x_astore_n (pc := 16) dX2_ticksToCut_16 (by decide) ?_
    refine x_aload_n (pc := 17) dX2_ticksToCut_17 rfl ?_
    refine x_get (pc := 18) (ci := 1) (k := 5) (C := RX1) (T := TX1) (N := 9) (cell_shape (by first | assumption | omega) (by first | assumption | omega)) rfl (shO_255 (by first | assumption | omega) (by first | assumption | omega)) rfl nX1 (by decide) mF_X2_66 rfl dX2_ticksToCut_18 ?_
    rw [hR.shp (by first | assumption | omega) 5]
    refine x_ifne (pc := 21) 38 dX2_ticksToCut_21 (by decide) (fun c21 => ?_) (fun c21 => ?_)
    · refine x_bipush (pc := 38) (-4) dX2_ticksToCut_38 (by decide) ?_
      exact x_iret rfl dX2_ticksToCut_40 ⟨by simp only [tcX, b01_ne c5, if_true, hcl, tcV, *, if_false], rfl, rfl⟩
    · refine x_aload_n (pc := 24) dX2_ticksToCut_24 rfl ?_
      refine x_aload_n (pc := 25) dX2_ticksToCut_25 rfl ?_
      refine t_Vi (pc := 26) (c_X2_wayTo (by first | assumption | omega) hR (by first | assumption | omega)) qV_X2_wayTo mL_X2_89 dX2_ticksToCut_26 rfl (cell_sheet (by first | assumption | omega)) (sB_255 (by first | assumption | omega)) rfl rfl rfl ⟨by decide, by decide⟩ (Nat.le_of_ble_eq_true rfl) (Nat.le_of_ble_eq_true rfl) (Nat.le_of_ble_eq_true rfl) ?_
      refine x_aload_n (pc := 29) dX2_ticksToCut_29 rfl ?_
      refine x_aload_n (pc := 30) dX2_ticksToCut_30 rfl ?_
      refine t_Vi (pc := 31) (c_X2_burningOf (by first | assumption | omega) hR (by first | assumption | omega)) qV_X2_burningOf mL_X2_125 dX2_ticksToCut_31 rfl (cell_sheet (by first | assumption | omega)) (sB_255 (by first | assumption | omega)) rfl rfl rfl ⟨by decide, by decide⟩ (Nat.le_of_ble_eq_true rfl) (Nat.le_of_ble_eq_true rfl) (Nat.le_of_ble_eq_true rfl) ?_
      refine x_iadd (pc := 34) dX2_ticksToCut_34 ?_
      refine x_goto (pc := 35) 40 dX2_ticksToCut_35 (by decide) ?_
      exact x_iret rfl dX2_ticksToCut_40 ⟨by simp only [tcX, b01_ne c5, if_true, hcl, tcV, *, if_false], rfl, rfl⟩
  · refine x_iconst (pc := 8) (-1) dX2_ticksToCut_8 (by decide) ?_
    exact x_iret rfl dX2_ticksToCut_9 ⟨by simp only [tcX, b01_eq c5, Bool.false_eq_true, if_false], rfl, rfl⟩
set_option maxHeartbeats 4000000 in
set_option maxRecDepth 100000 in
theorem c_X2_ticksToCool (hj : j < 8) (hR : RC σ A) (v : Int32) : Ct G yX2_ticksToCool YX2_ticksToCool 0 0 [.ref (gB G + sB j), .int v] (nN G) (cellOf G (updS S j σ) B M) (Rt G (some (.int (kcX A v))) (updS S j σ) B M) := by
  refine ct_of (by decide +kernel) rfl rfl (Nat.le_of_ble_eq_true rfl) (by simp [Value.category]) ?_
  refine x_sub (l' := [(0, .ref (gB G + sB j)), (1, .int v)]) ⟨rfl, rfl, trivial⟩ ?_
  have h12 := hR.le
  refine x_aload_n (pc := 0) dX2_ticksToCool_0 rfl ?_
  refine x_iload_n (pc := 1) dX2_ticksToCool_1 rfl ?_
  refine t_Vi (pc := 2) (c_X2_knows (by first | assumption | omega) hR _) qV_X2_knows mL_X2_72 dX2_ticksToCool_2 rfl (cell_sheet (by first | assumption | omega)) (sB_255 (by first | assumption | omega)) rfl rfl rfl ⟨by decide, by decide⟩ (Nat.le_of_ble_eq_true rfl) (Nat.le_of_ble_eq_true rfl) (Nat.le_of_ble_eq_true rfl) ?_
  refine x_ifne (pc := 5) 10 dX2_ticksToCool_5 (by decide) (fun c5 => ?_) (fun c5 => ?_)
  · obtain ⟨i, hi, rfl, hcl⟩ := knB_some hR.le (b01_ne c5)
    refine x_aload_n (pc := 10) dX2_ticksToCool_10 rfl ?_
    refine x_iload_n (pc := 11) dX2_ticksToCool_11 rfl ?_
    refine t_Vi (pc := 12) (c_X2_reasonAgainst (by first | assumption | omega) hR (by first | assumption | omega)) qV_X2_reasonAgainst mL_X2_85 dX2_ticksToCool_12 rfl (cell_sheet (by first | assumption | omega)) (sB_255 (by first | assumption | omega)) rfl rfl rfl ⟨by decide, by decide⟩ (Nat.le_of_ble_eq_true rfl) (Nat.le_of_ble_eq_true rfl) (Nat.le_of_ble_eq_true rfl) ?_
    refine x_istore_n (pc := 15) dX2_ticksToCool_15 (by decide) ?_
    refine x_iload_n (pc := 16) dX2_ticksToCool_16 rfl ?_
    refine x_ifne (pc := 17) 22 dX2_ticksToCool_17 (by decide) (fun c17 => ?_) (fun c17 => ?_)
    · refine x_iload_n (pc := 22) dX2_ticksToCool_22 rfl ?_
      refine x_iconst (pc := 23) (4) dX2_ticksToCool_23 (by decide) ?_
      refine x_cmpeq (pc := 24) 30 dX2_ticksToCool_24 (by decide) (fun c24 => ?_) (fun c24 => ?_)
      · refine x_aload_n (pc := 30) dX2_ticksToCool_30 rfl ?_
        refine x_get (pc := 31) (ci := 2) (k := 2) (C := RX2) (T := TX2) (N := 10) (cell_sheet (by first | assumption | omega)) rfl (sB_255 (by first | assumption | omega)) rfl nX2 (by decide) mF_X2_22 rfl dX2_ticksToCool_31 ?_
        refine x_iconst (pc := 34) (1) dX2_ticksToCool_34 (by decide) ?_
        refine t_ild (pc := 35) 1 (cell_sets (by first | assumption | omega)) (stO_255 (by first | assumption | omega)) rfl (by decide) (by decide) dX2_ticksToCool_35 ?_
        rw [hR.sett _ (by decide)]
        refine x_istore_n (pc := 36) dX2_ticksToCool_36 (by decide) ?_
        refine x_iload_n (pc := 37) dX2_ticksToCool_37 rfl ?_
        refine x_ifgt (pc := 38) 44 dX2_ticksToCool_38 (by decide) (fun c38 => ?_) (fun c38 => ?_)
        · refine x_aload_n (pc := 44) dX2_ticksToCool_44 rfl ?_
          refine x_get (pc := 45) (ci := 2) (k := 0) (C := RX2) (T := TX2) (N := 10) (cell_sheet (by first | assumption | omega)) rfl (sB_255 (by first | assumption | omega)) rfl nX2 (by decide) mF_X2_13 rfl dX2_ticksToCool_45 ?_
          refine x_iload_n (pc := 48) dX2_ticksToCool_48 rfl ?_
          refine t_shapes (pc := 49) _ (by first | assumption | omega) rfl (by first | assumption | omega) dX2_ticksToCool_49 ?_
          refine x_astore (pc := 50) dX2_ticksToCool_50 (by decide) ?_
          refine x_aload_n (pc := 52) dX2_ticksToCool_52 rfl ?_
          refine x_aload (pc := 53) dX2_ticksToCool_53 rfl ?_
          refine t_Vi (pc := 55) (c_X2_heatOver (by first | assumption | omega) hR (by first | assumption | omega)) qV_X2_heatOver mL_X2_146 dX2_ticksToCool_55 rfl (cell_sheet (by first | assumption | omega)) (sB_255 (by first | assumption | omega)) rfl rfl rfl ⟨by decide, by decide⟩ (Nat.le_of_ble_eq_true rfl) (Nat.le_of_ble_eq_true rfl) (Nat.le_of_ble_eq_true rfl) ?_
          refine x_iload_n (pc := 58) dX2_ticksToCool_58 rfl ?_
          refine x_iadd (pc := 59) dX2_ticksToCool_59 ?_
          refine x_iconst (pc := 60) (1) dX2_ticksToCool_60 (by decide) ?_
          refine x_isub (pc := 61) dX2_ticksToCool_61 ?_
          refine x_iload_n (pc := 62) dX2_ticksToCool_62 rfl ?_
          refine x_idiv (pc := 63) dX2_ticksToCool_63 (fun z => absurd c38 (by rw [z]; decide)) ?_
          refine x_aload_n (pc := 64) dX2_ticksToCool_64 rfl ?_
          refine x_aload (pc := 65) dX2_ticksToCool_65 rfl ?_
          refine t_Vi (pc := 67) (c_X2_wayTo (by first | assumption | omega) hR (by first | assumption | omega)) qV_X2_wayTo mL_X2_89 dX2_ticksToCool_67 rfl (cell_sheet (by first | assumption | omega)) (sB_255 (by first | assumption | omega)) rfl rfl rfl ⟨by decide, by decide⟩ (Nat.le_of_ble_eq_true rfl) (Nat.le_of_ble_eq_true rfl) (Nat.le_of_ble_eq_true rfl) ?_
          refine x_isub (pc := 70) dX2_ticksToCool_70 ?_
          exact x_iret rfl dX2_ticksToCool_71 ⟨by simp only [kcX, b01_ne c5, if_true, hcl, kcV, if_neg c17, if_pos c24, if_pos c38], rfl, rfl⟩
        · refine x_bipush (pc := 41) (-5) dX2_ticksToCool_41 (by decide) ?_
          exact x_iret rfl dX2_ticksToCool_43 ⟨by simp only [kcX, b01_ne c5, if_true, hcl, kcV, if_neg c17, if_pos c24, if_neg c38], rfl, rfl⟩
      · refine x_bipush (pc := 27) (-4) dX2_ticksToCool_27 (by decide) ?_
        exact x_iret rfl dX2_ticksToCool_29 ⟨by simp only [kcX, b01_ne c5, if_true, hcl, kcV, if_neg c17, if_neg c24], rfl, rfl⟩
    · refine x_iconst (pc := 20) (0) dX2_ticksToCool_20 (by decide) ?_
      exact x_iret rfl dX2_ticksToCool_21 ⟨by simp only [kcX, b01_ne c5, if_true, hcl, kcV, if_pos c17], rfl, rfl⟩
  · refine x_iconst (pc := 8) (-1) dX2_ticksToCool_8 (by decide) ?_
    exact x_iret rfl dX2_ticksToCool_9 ⟨by simp only [kcX, b01_eq c5, Bool.false_eq_true, if_false], rfl, rfl⟩
set_option maxHeartbeats 4000000 in
set_option maxRecDepth 100000 in
theorem c_X2_bestShape (hj : j < 8) (hR : RC σ A) : Ct G yX2_bestShape YX2_bestShape 0 0 [.ref (gB G + sB j)] (nN G) (cellOf G (updS S j σ) B M) (Rt G (some (.int (oV (besO A A.1)))) (updS S j σ) B M) := by
  refine ct_of (by decide +kernel) rfl rfl (Nat.le_of_ble_eq_true rfl) (by simp [Value.category]) ?_
  refine x_sub (l' := [(0, .ref (gB G + sB j))]) ⟨rfl, trivial⟩ ?_
  have h12 := hR.le
  have lp : ∀ k, k ≤ A.1 → ∀ w : Int32, (∀ q, besO A k = some q → w = tcV A q) → XJ G YX2_bestShape (fun _ => True) (Zx G (Rt G (some (.int (oV (besO A A.1)))) (updS S j σ) B M) 0 0) 7 [(0, .ref (gB G + sB j)), (1, .int (oV (besO A k))), (2, .int w), (3, .int (nI k))] [] (nN G) (cellOf G (updS S j σ) B M) 0 0 := by
    refine loopD (A.1) ?_
    intro k hk ih w hw
    refine x_iload_n (pc := 7) dX2_bestShape_7 rfl ?_
    refine x_aload_n (pc := 8) dX2_bestShape_8 rfl ?_
    refine x_get (pc := 9) (ci := 2) (k := 3) (C := RX2) (T := TX2) (N := 10) (cell_sheet (by first | assumption | omega)) rfl (sB_255 (by first | assumption | omega)) rfl nX2 (by decide) mF_X2_25 rfl dX2_bestShape_9 ?_
    rw [hR.told]
    refine x_cmpge (pc := 12) 53 dX2_bestShape_12 (by decide) (fun c12 => ?_) (fun c12 => ?_)
    · obtain rfl : k = A.1 := by have := mt (tl_iff hR.le hk).mpr c12; omega
      refine x_iload_n (pc := 53) dX2_bestShape_53 rfl ?_
      exact x_iret rfl dX2_bestShape_54 ⟨by rfl, rfl, rfl⟩
    · have hkn : k < A.1 := (tl_iff hR.le hk).mp c12
      refine x_aload_n (pc := 15) dX2_bestShape_15 rfl ?_
      refine x_iload_n (pc := 16) dX2_bestShape_16 rfl ?_
      refine t_Vi (pc := 17) (c_X2_reasonAgainst (by first | assumption | omega) hR (by first | assumption | omega)) qV_X2_reasonAgainst mL_X2_85 dX2_bestShape_17 rfl (cell_sheet (by first | assumption | omega)) (sB_255 (by first | assumption | omega)) rfl rfl rfl ⟨by decide, by decide⟩ (Nat.le_of_ble_eq_true rfl) (Nat.le_of_ble_eq_true rfl) (Nat.le_of_ble_eq_true rfl) ?_
      refine x_ifne (pc := 20) 47 dX2_bestShape_20 (by decide) (fun c20 => ?_) (fun c20 => ?_)
      · refine x_iinc (pc := 47) (nI (k + 1)) dX2_bestShape_47 rfl (iinc_nI k) (by decide) ?_
        refine x_goto (pc := 50) 7 dX2_bestShape_50 (by decide) ?_
        have hbl : ∀ q, besO A k = some q → q < 2 ^ 31 := fun q hq => by have := besO_lt hq; omega
        first
        | (have eb : besO A (k + 1) = besO A k := by simp only [besO, if_neg c20]
           have e := ih hkn w (by rw [eb]; exact hw)
           rw [eb] at e
           exact x_back e ⟨rfl, rfl, rfl, rfl, trivial⟩)
        | (have hn := oV_none hbl c33
           have eb : besO A (k + 1) = some k := by simp only [besO, if_pos c20, hn]
           have e := ih hkn (tcV A k) (by rw [eb]; intro q hq; cases hq; rfl)
           rw [eb] at e
           exact x_back e ⟨rfl, rfl, rfl, rfl, trivial⟩)
        | (obtain ⟨q, hq⟩ := oV_some c33
           have hwq := hw q hq
           subst hwq
           have eb : besO A (k + 1) = some k := by simp only [besO, if_pos c20, hq, if_pos c39]
           have e := ih hkn (tcV A k) (by rw [eb]; intro q hq; cases hq; rfl)
           rw [eb] at e
           exact x_back e ⟨rfl, rfl, rfl, rfl, trivial⟩)
        | (obtain ⟨q, hq⟩ := oV_some c33
           have hwq := hw q hq
           subst hwq
           have eb : besO A (k + 1) = some q := by simp only [besO, if_pos c20, hq, if_neg c39]
           have e := ih hkn (tcV A q) (by rw [eb]; intro q hq; cases hq; rfl)
           rw [eb] at e
           rw [hq]
           exact x_back e ⟨rfl, rfl, rfl, rfl, trivial⟩)
      · refine x_aload_n (pc := 23) dX2_bestShape_23 rfl ?_
        refine x_iload_n (pc := 24) dX2_bestShape_24 rfl ?_
        refine t_Vi (pc := 25) (c_X2_ticksToCut (by first | assumption | omega) hR _) qV_X2_ticksToCut mL_X2_149 dX2_bestShape_25 rfl (cell_sheet (by first | assumption | omega)) (sB_255 (by first | assumption | omega)) rfl rfl rfl ⟨by decide, by decide⟩ (Nat.le_of_ble_eq_true rfl) (Nat.le_of_ble_eq_true rfl) (Nat.le_of_ble_eq_true rfl) ?_
        rw [tcX_nI hR.le hkn]
        refine x_istore (pc := 28) dX2_bestShape_28 (by decide) ?_
        refine x_iload_n (pc := 30) dX2_bestShape_30 rfl ?_
        refine x_bipush (pc := 31) (-5) dX2_bestShape_31 (by decide) ?_
        refine x_cmpeq (pc := 33) 42 dX2_bestShape_33 (by decide) (fun c33 => ?_) (fun c33 => ?_)
        · refine x_iload_n (pc := 42) dX2_bestShape_42 rfl ?_
          refine x_istore_n (pc := 43) dX2_bestShape_43 (by decide) ?_
          refine x_iload (pc := 44) dX2_bestShape_44 rfl ?_
          refine x_istore_n (pc := 46) dX2_bestShape_46 (by decide) ?_
          refine x_iinc (pc := 47) (nI (k + 1)) dX2_bestShape_47 rfl (iinc_nI k) (by decide) ?_
          refine x_goto (pc := 50) 7 dX2_bestShape_50 (by decide) ?_
          have hbl : ∀ q, besO A k = some q → q < 2 ^ 31 := fun q hq => by have := besO_lt hq; omega
          first
          | (have eb : besO A (k + 1) = besO A k := by simp only [besO, if_neg c20]
             have e := ih hkn w (by rw [eb]; exact hw)
             rw [eb] at e
             exact x_back e ⟨rfl, rfl, rfl, rfl, trivial⟩)
          | (have hn := oV_none hbl c33
             have eb : besO A (k + 1) = some k := by simp only [besO, if_pos c20, hn]
             have e := ih hkn (tcV A k) (by rw [eb]; intro q hq; cases hq; rfl)
             rw [eb] at e
             exact x_back e ⟨rfl, rfl, rfl, rfl, trivial⟩)
          | (obtain ⟨q, hq⟩ := oV_some c33
             have hwq := hw q hq
             subst hwq
             have eb : besO A (k + 1) = some k := by simp only [besO, if_pos c20, hq, if_pos c39]
             have e := ih hkn (tcV A k) (by rw [eb]; intro q hq; cases hq; rfl)
             rw [eb] at e
             exact x_back e ⟨rfl, rfl, rfl, rfl, trivial⟩)
          | (obtain ⟨q, hq⟩ := oV_some c33
             have hwq := hw q hq
             subst hwq
             have eb : besO A (k + 1) = some q := by simp only [besO, if_pos c20, hq, if_neg c39]
             have e := ih hkn (tcV A q) (by rw [eb]; intro q hq; cases hq; rfl)
             rw [eb] at e
             rw [hq]
             exact x_back e ⟨rfl, rfl, rfl, rfl, trivial⟩)
        · refine x_iload (pc := 36) dX2_bestShape_36 rfl ?_
          refine x_iload_n (pc := 38) dX2_bestShape_38 rfl ?_
          refine x_cmpge (pc := 39) 47 dX2_bestShape_39 (by decide) (fun c39 => ?_) (fun c39 => ?_)
          · refine x_iinc (pc := 47) (nI (k + 1)) dX2_bestShape_47 rfl (iinc_nI k) (by decide) ?_
            refine x_goto (pc := 50) 7 dX2_bestShape_50 (by decide) ?_
            have hbl : ∀ q, besO A k = some q → q < 2 ^ 31 := fun q hq => by have := besO_lt hq; omega
            first
            | (have eb : besO A (k + 1) = besO A k := by simp only [besO, if_neg c20]
               have e := ih hkn w (by rw [eb]; exact hw)
               rw [eb] at e
               exact x_back e ⟨rfl, rfl, rfl, rfl, trivial⟩)
            | (have hn := oV_none hbl c33
               have eb : besO A (k + 1) = some k := by simp only [besO, if_pos c20, hn]
               have e := ih hkn (tcV A k) (by rw [eb]; intro q hq; cases hq; rfl)
               rw [eb] at e
               exact x_back e ⟨rfl, rfl, rfl, rfl, trivial⟩)
            | (obtain ⟨q, hq⟩ := oV_some c33
               have hwq := hw q hq
               subst hwq
               have eb : besO A (k + 1) = some k := by simp only [besO, if_pos c20, hq, if_pos c39]
               have e := ih hkn (tcV A k) (by rw [eb]; intro q hq; cases hq; rfl)
               rw [eb] at e
               exact x_back e ⟨rfl, rfl, rfl, rfl, trivial⟩)
            | (obtain ⟨q, hq⟩ := oV_some c33
               have hwq := hw q hq
               subst hwq
               have eb : besO A (k + 1) = some q := by simp only [besO, if_pos c20, hq, if_neg c39]
               have e := ih hkn (tcV A q) (by rw [eb]; intro q hq; cases hq; rfl)
               rw [eb] at e
               rw [hq]
               exact x_back e ⟨rfl, rfl, rfl, rfl, trivial⟩)
          · refine x_iload_n (pc := 42) dX2_bestShape_42 rfl ?_
            refine x_istore_n (pc := 43) dX2_bestShape_43 (by decide) ?_
            refine x_iload (pc := 44) dX2_bestShape_44 rfl ?_
            refine x_istore_n (pc := 46) dX2_bestShape_46 (by decide) ?_
            refine x_iinc (pc := 47) (nI (k + 1)) dX2_bestShape_47 rfl (iinc_nI k) (by decide) ?_
            refine x_goto (pc := 50) 7 dX2_bestShape_50 (by decide) ?_
            have hbl : ∀ q, besO A k = some q → q < 2 ^ 31 := fun q hq => by have := besO_lt hq; omega
            first
            | (have eb : besO A (k + 1) = besO A k := by simp only [besO, if_neg c20]
               have e := ih hkn w (by rw [eb]; exact hw)
               rw [eb] at e
               exact x_back e ⟨rfl, rfl, rfl, rfl, trivial⟩)
            | (have hn := oV_none hbl c33
               have eb : besO A (k + 1) = some k := by simp only [besO, if_pos c20, hn]
               have e := ih hkn (tcV A k) (by rw [eb]; intro q hq; cases hq; rfl)
               rw [eb] at e
               exact x_back e ⟨rfl, rfl, rfl, rfl, trivial⟩)
            | (obtain ⟨q, hq⟩ := oV_some c33
               have hwq := hw q hq
               subst hwq
               have eb : besO A (k + 1) = some k := by simp only [besO, if_pos c20, hq, if_pos c39]
               have e := ih hkn (tcV A k) (by rw [eb]; intro q hq; cases hq; rfl)
               rw [eb] at e
               exact x_back e ⟨rfl, rfl, rfl, rfl, trivial⟩)
            | (obtain ⟨q, hq⟩ := oV_some c33
               have hwq := hw q hq
               subst hwq
               have eb : besO A (k + 1) = some q := by simp only [besO, if_pos c20, hq, if_neg c39]
               have e := ih hkn (tcV A q) (by rw [eb]; intro q hq; cases hq; rfl)
               rw [eb] at e
               rw [hq]
               exact x_back e ⟨rfl, rfl, rfl, rfl, trivial⟩)
  refine x_bipush (pc := 0) (-5) dX2_bestShape_0 (by decide) ?_
  refine x_istore_n (pc := 2) dX2_bestShape_2 (by decide) ?_
  refine x_iconst (pc := 3) (0) dX2_bestShape_3 (by decide) ?_
  refine x_istore_n (pc := 4) dX2_bestShape_4 (by decide) ?_
  refine x_iconst (pc := 5) (0) dX2_bestShape_5 (by decide) ?_
  refine x_istore_n (pc := 6) dX2_bestShape_6 (by decide) ?_
  exact x_back (lp 0 (by omega) 0 (fun q hq => by simp [besO] at hq)) ⟨rfl, rfl, rfl, rfl, trivial⟩
set_option maxHeartbeats 4000000 in
set_option maxRecDepth 100000 in
theorem c_X2_fewestTicksToCool (hj : j < 8) (hR : RC σ A) : Ct G yX2_fewestTicksToCool YX2_fewestTicksToCool 0 0 [.ref (gB G + sB j)] (nN G) (cellOf G (updS S j σ) B M) (Rt G (some (.int (fewV A A.1))) (updS S j σ) B M) := by
  refine ct_of (by decide +kernel) rfl rfl (Nat.le_of_ble_eq_true rfl) (by simp [Value.category]) ?_
  refine x_sub (l' := [(0, .ref (gB G + sB j))]) ⟨rfl, trivial⟩ ?_
  have h12 := hR.le
  have lp : ∀ k, k ≤ A.1 → XJ G YX2_fewestTicksToCool (fun _ => True) (Zx G (Rt G (some (.int (fewV A A.1))) (updS S j σ) B M) 0 0) 5 [(0, .ref (gB G + sB j)), (1, .int (fewV A k)), (2, .int (nI k))] [] (nN G) (cellOf G (updS S j σ) B M) 0 0 := by
    refine loopD (A.1) ?_
    intro k hk ih
    refine x_iload_n (pc := 5) dX2_fewestTicksToCool_5 rfl ?_
    refine x_aload_n (pc := 6) dX2_fewestTicksToCool_6 rfl ?_
    refine x_get (pc := 7) (ci := 2) (k := 3) (C := RX2) (T := TX2) (N := 10) (cell_sheet (by first | assumption | omega)) rfl (sB_255 (by first | assumption | omega)) rfl nX2 (by decide) mF_X2_25 rfl dX2_fewestTicksToCool_7 ?_
    rw [hR.told]
    refine x_cmpge (pc := 10) 42 dX2_fewestTicksToCool_10 (by decide) (fun c10 => ?_) (fun c10 => ?_)
    · obtain rfl : k = A.1 := by have := mt (tl_iff hR.le hk).mpr c10; omega
      refine x_iload_n (pc := 42) dX2_fewestTicksToCool_42 rfl ?_
      exact x_iret rfl dX2_fewestTicksToCool_43 ⟨by rfl, rfl, rfl⟩
    · have hkn : k < A.1 := (tl_iff hR.le hk).mp c10
      refine x_aload_n (pc := 13) dX2_fewestTicksToCool_13 rfl ?_
      refine x_iload_n (pc := 14) dX2_fewestTicksToCool_14 rfl ?_
      refine t_Vi (pc := 15) (c_X2_ticksToCool (by first | assumption | omega) hR _) qV_X2_ticksToCool mL_X2_152 dX2_fewestTicksToCool_15 rfl (cell_sheet (by first | assumption | omega)) (sB_255 (by first | assumption | omega)) rfl rfl rfl ⟨by decide, by decide⟩ (Nat.le_of_ble_eq_true rfl) (Nat.le_of_ble_eq_true rfl) (Nat.le_of_ble_eq_true rfl) ?_
      rw [kcX_nI hR.le hkn]
      refine x_istore_n (pc := 18) dX2_fewestTicksToCool_18 (by decide) ?_
      refine x_iload_n (pc := 19) dX2_fewestTicksToCool_19 rfl ?_
      refine x_iflt (pc := 20) 36 dX2_fewestTicksToCool_20 (by decide) (fun c20 => ?_) (fun c20 => ?_)
      · refine x_iinc (pc := 36) (nI (k + 1)) dX2_fewestTicksToCool_36 rfl (iinc_nI k) (by decide) ?_
        refine x_goto (pc := 39) 5 dX2_fewestTicksToCool_39 (by decide) ?_
        have e := ih hkn
        first
        | (simp only [fewV, if_pos c20] at e; exact x_back e ⟨rfl, rfl, rfl, trivial⟩)
        | (simp only [fewV, if_neg c20, if_pos c26] at e; exact x_back e ⟨rfl, rfl, rfl, trivial⟩)
        | (simp only [fewV, if_neg c20, if_neg c26, if_pos c31] at e; exact x_back e ⟨rfl, rfl, rfl, trivial⟩)
        | (simp only [fewV, if_neg c20, if_neg c26, if_neg c31] at e; exact x_back e ⟨rfl, rfl, rfl, trivial⟩)
      · refine x_iload_n (pc := 23) dX2_fewestTicksToCool_23 rfl ?_
        refine x_bipush (pc := 24) (-5) dX2_fewestTicksToCool_24 (by decide) ?_
        refine x_cmpeq (pc := 26) 34 dX2_fewestTicksToCool_26 (by decide) (fun c26 => ?_) (fun c26 => ?_)
        · refine x_iload_n (pc := 34) dX2_fewestTicksToCool_34 rfl ?_
          refine x_istore_n (pc := 35) dX2_fewestTicksToCool_35 (by decide) ?_
          refine x_iinc (pc := 36) (nI (k + 1)) dX2_fewestTicksToCool_36 rfl (iinc_nI k) (by decide) ?_
          refine x_goto (pc := 39) 5 dX2_fewestTicksToCool_39 (by decide) ?_
          have e := ih hkn
          first
          | (simp only [fewV, if_pos c20] at e; exact x_back e ⟨rfl, rfl, rfl, trivial⟩)
          | (simp only [fewV, if_neg c20, if_pos c26] at e; exact x_back e ⟨rfl, rfl, rfl, trivial⟩)
          | (simp only [fewV, if_neg c20, if_neg c26, if_pos c31] at e; exact x_back e ⟨rfl, rfl, rfl, trivial⟩)
          | (simp only [fewV, if_neg c20, if_neg c26, if_neg c31] at e; exact x_back e ⟨rfl, rfl, rfl, trivial⟩)
        · refine x_iload_n (pc := 29) dX2_fewestTicksToCool_29 rfl ?_
          refine x_iload_n (pc := 30) dX2_fewestTicksToCool_30 rfl ?_
          refine x_cmpge (pc := 31) 36 dX2_fewestTicksToCool_31 (by decide) (fun c31 => ?_) (fun c31 => ?_)
          · refine x_iinc (pc := 36) (nI (k + 1)) dX2_fewestTicksToCool_36 rfl (iinc_nI k) (by decide) ?_
            refine x_goto (pc := 39) 5 dX2_fewestTicksToCool_39 (by decide) ?_
            have e := ih hkn
            first
            | (simp only [fewV, if_pos c20] at e; exact x_back e ⟨rfl, rfl, rfl, trivial⟩)
            | (simp only [fewV, if_neg c20, if_pos c26] at e; exact x_back e ⟨rfl, rfl, rfl, trivial⟩)
            | (simp only [fewV, if_neg c20, if_neg c26, if_pos c31] at e; exact x_back e ⟨rfl, rfl, rfl, trivial⟩)
            | (simp only [fewV, if_neg c20, if_neg c26, if_neg c31] at e; exact x_back e ⟨rfl, rfl, rfl, trivial⟩)
          · refine x_iload_n (pc := 34) dX2_fewestTicksToCool_34 rfl ?_
            refine x_istore_n (pc := 35) dX2_fewestTicksToCool_35 (by decide) ?_
            refine x_iinc (pc := 36) (nI (k + 1)) dX2_fewestTicksToCool_36 rfl (iinc_nI k) (by decide) ?_
            refine x_goto (pc := 39) 5 dX2_fewestTicksToCool_39 (by decide) ?_
            have e := ih hkn
            first
            | (simp only [fewV, if_pos c20] at e; exact x_back e ⟨rfl, rfl, rfl, trivial⟩)
            | (simp only [fewV, if_neg c20, if_pos c26] at e; exact x_back e ⟨rfl, rfl, rfl, trivial⟩)
            | (simp only [fewV, if_neg c20, if_neg c26, if_pos c31] at e; exact x_back e ⟨rfl, rfl, rfl, trivial⟩)
            | (simp only [fewV, if_neg c20, if_neg c26, if_neg c31] at e; exact x_back e ⟨rfl, rfl, rfl, trivial⟩)
  refine x_bipush (pc := 0) (-5) dX2_fewestTicksToCool_0 (by decide) ?_
  refine x_istore_n (pc := 2) dX2_fewestTicksToCool_2 (by decide) ?_
  refine x_iconst (pc := 3) (0) dX2_fewestTicksToCool_3 (by decide) ?_
  refine x_istore_n (pc := 4) dX2_fewestTicksToCool_4 (by decide) ?_
  exact x_back (lp 0 (by omega)) ⟨rfl, rfl, rfl, trivial⟩
set_option maxHeartbeats 4000000 in
set_option maxRecDepth 100000 in
theorem c_X2_hottestSquare (hj : j < 8) (hR : RC σ A) : Ct G yX2_hottestSquare YX2_hottestSquare 0 0 [.ref (gB G + sB j)] (nN G) (cellOf G (updS S j σ) B M) (Rt G (some (.int (nI (hotN A.2.2.1 12)))) (updS S j σ) B M) := by
  refine ct_of (by decide +kernel) rfl rfl (Nat.le_of_ble_eq_true rfl) (by simp [Value.category]) ?_
  refine x_sub (l' := [(0, .ref (gB G + sB j))]) ⟨rfl, trivial⟩ ?_
  have h12 := hR.le
  have lp : ∀ k, k ≤ 12 → 1 ≤ k → XJ G YX2_hottestSquare (fun _ => True) (Zx G (Rt G (some (.int (nI (hotN A.2.2.1 12)))) (updS S j σ) B M) 0 0) 4 [(0, .ref (gB G + sB j)), (1, .int (nI (hotN A.2.2.1 k))), (2, .int (nI k))] [] (nN G) (cellOf G (updS S j σ) B M) 0 0 := by
    refine loopD 12 ?_
    intro k hk ih h1
    have hh : hotN A.2.2.1 k < 12 := (hotN_lt A.2.2.1 k).elim id (fun h => absurd h (by omega))
    refine x_iload_n (pc := 4) dX2_hottestSquare_4 rfl ?_
    refine x_bipush (pc := 5) (12) dX2_hottestSquare_5 (by decide) ?_
    refine x_cmpge (pc := 7) 33 dX2_hottestSquare_7 (by decide) (fun c7 => ?_) (fun c7 => ?_)
    · obtain rfl : k = 12 := by have := mt (lt_lit (n := 12) rfl (by decide) (by omega)).mpr c7; omega
      refine x_iload_n (pc := 33) dX2_hottestSquare_33 rfl ?_
      exact x_iret rfl dX2_hottestSquare_34 ⟨by rfl, rfl, rfl⟩
    · have hkn : k < 12 := (lt_lit rfl (by decide) (by omega)).mp c7
      refine x_aload_n (pc := 10) dX2_hottestSquare_10 rfl ?_
      refine x_get (pc := 11) (ci := 2) (k := 1) (C := RX2) (T := TX2) (N := 10) (cell_sheet (by first | assumption | omega)) rfl (sB_255 (by first | assumption | omega)) rfl nX2 (by decide) mF_X2_18 rfl dX2_hottestSquare_11 ?_
      refine x_iload_n (pc := 14) dX2_hottestSquare_14 rfl ?_
      refine t_ild (pc := 15) _ (cell_heats (by first | assumption | omega)) (htO_255 (by first | assumption | omega)) rfl (by first | assumption | omega) (by decide) dX2_hottestSquare_15 ?_
      rw [hR.heat _ (by first | assumption | omega)]
      refine x_aload_n (pc := 16) dX2_hottestSquare_16 rfl ?_
      refine x_get (pc := 17) (ci := 2) (k := 1) (C := RX2) (T := TX2) (N := 10) (cell_sheet (by first | assumption | omega)) rfl (sB_255 (by first | assumption | omega)) rfl nX2 (by decide) mF_X2_18 rfl dX2_hottestSquare_17 ?_
      refine x_iload_n (pc := 20) dX2_hottestSquare_20 rfl ?_
      refine t_ild (pc := 21) _ (cell_heats (by first | assumption | omega)) (htO_255 (by first | assumption | omega)) rfl hh (by decide) dX2_hottestSquare_21 ?_
      rw [hR.heat _ hh]
      refine x_cmple (pc := 22) 27 dX2_hottestSquare_22 (by decide) (fun c22 => ?_) (fun c22 => ?_)
      · refine x_iinc (pc := 27) (nI (k + 1)) dX2_hottestSquare_27 rfl (iinc_nI k) (by decide) ?_
        refine x_goto (pc := 30) 4 dX2_hottestSquare_30 (by decide) ?_
        have e := ih hkn (by omega)
        first
        | (simp only [hotN, if_pos c22] at e; exact x_back e ⟨rfl, rfl, rfl, trivial⟩)
        | (simp only [hotN, if_neg c22] at e; exact x_back e ⟨rfl, rfl, rfl, trivial⟩)
      · refine x_iload_n (pc := 25) dX2_hottestSquare_25 rfl ?_
        refine x_istore_n (pc := 26) dX2_hottestSquare_26 (by decide) ?_
        refine x_iinc (pc := 27) (nI (k + 1)) dX2_hottestSquare_27 rfl (iinc_nI k) (by decide) ?_
        refine x_goto (pc := 30) 4 dX2_hottestSquare_30 (by decide) ?_
        have e := ih hkn (by omega)
        first
        | (simp only [hotN, if_pos c22] at e; exact x_back e ⟨rfl, rfl, rfl, trivial⟩)
        | (simp only [hotN, if_neg c22] at e; exact x_back e ⟨rfl, rfl, rfl, trivial⟩)
  refine x_iconst (pc := 0) (0) dX2_hottestSquare_0 (by decide) ?_
  refine x_istore_n (pc := 1) dX2_hottestSquare_1 (by decide) ?_
  refine x_iconst (pc := 2) (1) dX2_hottestSquare_2 (by decide) ?_
  refine x_istore_n (pc := 3) dX2_hottestSquare_3 (by decide) ?_
  have e := lp 1 (by omega) (by omega)
  rw [hotN_1] at e
  exact x_back e ⟨rfl, rfl, rfl, trivial⟩
set_option maxHeartbeats 4000000 in
set_option maxRecDepth 100000 in
theorem c_X2_greatestHeat (hj : j < 8) (hR : RC σ A) : Ct G yX2_greatestHeat YX2_greatestHeat 0 0 [.ref (gB G + sB j)] (nN G) (cellOf G (updS S j σ) B M) (Rt G (some (.int (grV A))) (updS S j σ) B M) := by
  refine ct_of (by decide +kernel) rfl rfl (Nat.le_of_ble_eq_true rfl) (by simp [Value.category]) ?_
  refine x_sub (l' := [(0, .ref (gB G + sB j))]) ⟨rfl, trivial⟩ ?_
  have h12 := hR.le
  refine x_aload_n (pc := 0) dX2_greatestHeat_0 rfl ?_
  refine x_get (pc := 1) (ci := 2) (k := 1) (C := RX2) (T := TX2) (N := 10) (cell_sheet (by first | assumption | omega)) rfl (sB_255 (by first | assumption | omega)) rfl nX2 (by decide) mF_X2_18 rfl dX2_greatestHeat_1 ?_
  refine x_aload_n (pc := 4) dX2_greatestHeat_4 rfl ?_
  refine t_Vi (pc := 5) (c_X2_hottestSquare (by first | assumption | omega) hR) qV_X2_hottestSquare mL_X2_164 dX2_greatestHeat_5 rfl (cell_sheet (by first | assumption | omega)) (sB_255 (by first | assumption | omega)) rfl rfl rfl ⟨by decide, by decide⟩ (Nat.le_of_ble_eq_true rfl) (Nat.le_of_ble_eq_true rfl) (Nat.le_of_ble_eq_true rfl) ?_
  refine t_ild (pc := 8) _ (cell_heats (by first | assumption | omega)) (htO_255 (by first | assumption | omega)) rfl (hotN_12 _) (by decide) dX2_greatestHeat_8 ?_
  rw [hR.heat _ (hotN_12 _)]
  exact x_iret rfl dX2_greatestHeat_9 ⟨by rfl, rfl, rfl⟩
set_option maxHeartbeats 4000000 in
set_option maxRecDepth 100000 in
theorem c_X2_allHeat (hj : j < 8) (hR : RC σ A) : Ct G yX2_allHeat YX2_allHeat 0 0 [.ref (gB G + sB j)] (nN G) (cellOf G (updS S j σ) B M) (Rt G (some (.int (sumN A.2.2.1 12))) (updS S j σ) B M) := by
  refine ct_of (by decide +kernel) rfl rfl (Nat.le_of_ble_eq_true rfl) (by simp [Value.category]) ?_
  refine x_sub (l' := [(0, .ref (gB G + sB j))]) ⟨rfl, trivial⟩ ?_
  have h12 := hR.le
  have lp : ∀ k, k ≤ 12 → XJ G YX2_allHeat (fun _ => True) (Zx G (Rt G (some (.int (sumN A.2.2.1 12))) (updS S j σ) B M) 0 0) 4 [(0, .ref (gB G + sB j)), (1, .int (sumN A.2.2.1 k)), (2, .int (nI k))] [] (nN G) (cellOf G (updS S j σ) B M) 0 0 := by
    refine loopD (12) ?_
    intro k hk ih
    refine x_iload_n (pc := 4) dX2_allHeat_4 rfl ?_
    refine x_bipush (pc := 5) (12) dX2_allHeat_5 (by decide) ?_
    refine x_cmpge (pc := 7) 25 dX2_allHeat_7 (by decide) (fun c7 => ?_) (fun c7 => ?_)
    · obtain rfl : k = 12 := by have := mt (lt_lit (n := 12) rfl (by decide) (by omega)).mpr c7; omega
      refine x_iload_n (pc := 25) dX2_allHeat_25 rfl ?_
      exact x_iret rfl dX2_allHeat_26 ⟨by rfl, rfl, rfl⟩
    · have hkn : k < 12 := (lt_lit rfl (by decide) (by omega)).mp c7
      refine x_iload_n (pc := 10) dX2_allHeat_10 rfl ?_
      refine x_aload_n (pc := 11) dX2_allHeat_11 rfl ?_
      refine x_get (pc := 12) (ci := 2) (k := 1) (C := RX2) (T := TX2) (N := 10) (cell_sheet (by first | assumption | omega)) rfl (sB_255 (by first | assumption | omega)) rfl nX2 (by decide) mF_X2_18 rfl dX2_allHeat_12 ?_
      refine x_iload_n (pc := 15) dX2_allHeat_15 rfl ?_
      refine t_ild (pc := 16) _ (cell_heats (by first | assumption | omega)) (htO_255 (by first | assumption | omega)) rfl (by first | assumption | omega) (by decide) dX2_allHeat_16 ?_
      rw [hR.heat _ (by first | assumption | omega)]
      refine x_iadd (pc := 17) dX2_allHeat_17 ?_
      refine x_istore_n (pc := 18) dX2_allHeat_18 (by decide) ?_
      refine x_iinc (pc := 19) (nI (k + 1)) dX2_allHeat_19 rfl (iinc_nI k) (by decide) ?_
      refine x_goto (pc := 22) 4 dX2_allHeat_22 (by decide) ?_
      have e := ih hkn
      simp only [sumN] at e
      exact x_back e ⟨rfl, rfl, rfl, trivial⟩
  refine x_iconst (pc := 0) (0) dX2_allHeat_0 (by decide) ?_
  refine x_istore_n (pc := 1) dX2_allHeat_1 (by decide) ?_
  refine x_iconst (pc := 2) (0) dX2_allHeat_2 (by decide) ?_
  refine x_istore_n (pc := 3) dX2_allHeat_3 (by decide) ?_
  exact x_back (lp 0 (by omega)) ⟨rfl, rfl, rfl, trivial⟩
set_option maxHeartbeats 4000000 in
set_option maxRecDepth 100000 in
theorem c_X2_heatIn (hj : j < 8) (hR : RC σ A) (v : Int32) : Ct G yX2_heatIn YX2_heatIn 0 0 [.ref (gB G + sB j), .int v] (nN G) (cellOf G (updS S j σ) B M) (Rt G (some (.int (hinV A.2.2.1 v))) (updS S j σ) B M) := by
  refine ct_of (by decide +kernel) rfl rfl (Nat.le_of_ble_eq_true rfl) (by simp [Value.category]) ?_
  refine x_sub (l' := [(0, .ref (gB G + sB j)), (1, .int v)]) ⟨rfl, rfl, trivial⟩ ?_
  have h12 := hR.le
  refine x_iload_n (pc := 0) dX2_heatIn_0 rfl ?_
  refine x_iconst (pc := 1) (0) dX2_heatIn_1 (by decide) ?_
  refine x_bipush (pc := 2) (11) dX2_heatIn_2 (by decide) ?_
  refine t_Ni (pc := 4) (c_X3_isIn _ _ _) qS_X3_isIn (fun s h => h.2.2.2) dX2_heatIn_4 rfl rfl rfl ⟨by decide, by decide⟩ (Nat.le_of_ble_eq_true rfl) (Nat.le_of_ble_eq_true rfl) (Nat.le_of_ble_eq_true rfl) ?_
  refine x_ifeq (pc := 7) 19 dX2_heatIn_7 (by decide) (fun c7 => ?_) (fun c7 => ?_)
  · refine x_iconst (pc := 19) (-1) dX2_heatIn_19 (by decide) ?_
    first
    | (have t := b01_eq c7; exact x_iret rfl dX2_heatIn_20 ⟨by simp only [hinV, t, Bool.false_eq_true, if_false], rfl, rfl⟩)
    | (have t := b01_ne c7; exact x_iret rfl dX2_heatIn_20 ⟨by simp only [hinV, t, if_true, hcl], rfl, rfl⟩)
  · obtain ⟨q, hq, rfl, hcl⟩ := betw_some (n := 11) rfl (by decide) (b01_ne c7)
    refine x_aload_n (pc := 10) dX2_heatIn_10 rfl ?_
    refine x_get (pc := 11) (ci := 2) (k := 1) (C := RX2) (T := TX2) (N := 10) (cell_sheet (by first | assumption | omega)) rfl (sB_255 (by first | assumption | omega)) rfl nX2 (by decide) mF_X2_18 rfl dX2_heatIn_11 ?_
    refine x_iload_n (pc := 14) dX2_heatIn_14 rfl ?_
    refine t_ild (pc := 15) _ (cell_heats (by first | assumption | omega)) (htO_255 (by first | assumption | omega)) rfl (show q < 12 by omega) (by decide) dX2_heatIn_15 ?_
    rw [hR.heat _ (show q < 12 by omega)]
    refine x_goto (pc := 16) 20 dX2_heatIn_16 (by decide) ?_
    first
    | (have t := b01_eq c7; exact x_iret rfl dX2_heatIn_20 ⟨by simp only [hinV, t, Bool.false_eq_true, if_false], rfl, rfl⟩)
    | (have t := b01_ne c7; exact x_iret rfl dX2_heatIn_20 ⟨by simp only [hinV, t, if_true, hcl], rfl, rfl⟩)
set_option maxHeartbeats 4000000 in
set_option maxRecDepth 100000 in
theorem c_X2_shapesThatAre (hj : j < 8) (hR : RC σ A) (v : Int32) : Ct G yX2_shapesThatAre YX2_shapesThatAre 0 0 [.ref (gB G + sB j), .int v] (nN G) (cellOf G (updS S j σ) B M) (Rt G (some (.int (cntN A.2.2.2.2 v A.1))) (updS S j σ) B M) := by
  refine ct_of (by decide +kernel) rfl rfl (Nat.le_of_ble_eq_true rfl) (by simp [Value.category]) ?_
  refine x_sub (l' := [(0, .ref (gB G + sB j)), (1, .int v)]) ⟨rfl, rfl, trivial⟩ ?_
  have h12 := hR.le
  have lp : ∀ k, k ≤ A.1 → XJ G YX2_shapesThatAre (fun _ => True) (Zx G (Rt G (some (.int (cntN A.2.2.2.2 v A.1))) (updS S j σ) B M) 0 0) 4 [(0, .ref (gB G + sB j)), (1, .int v), (2, .int (cntN A.2.2.2.2 v k)), (3, .int (nI k))] [] (nN G) (cellOf G (updS S j σ) B M) 0 0 := by
    refine loopD (A.1) ?_
    intro k hk ih
    refine x_iload_n (pc := 4) dX2_shapesThatAre_4 rfl ?_
    refine x_aload_n (pc := 5) dX2_shapesThatAre_5 rfl ?_
    refine x_get (pc := 6) (ci := 2) (k := 3) (C := RX2) (T := TX2) (N := 10) (cell_sheet (by first | assumption | omega)) rfl (sB_255 (by first | assumption | omega)) rfl nX2 (by decide) mF_X2_25 rfl dX2_shapesThatAre_6 ?_
    rw [hR.told]
    refine x_cmpge (pc := 9) 34 dX2_shapesThatAre_9 (by decide) (fun c9 => ?_) (fun c9 => ?_)
    · obtain rfl : k = A.1 := by have := mt (tl_iff hR.le hk).mpr c9; omega
      refine x_iload_n (pc := 34) dX2_shapesThatAre_34 rfl ?_
      exact x_iret rfl dX2_shapesThatAre_35 ⟨by rfl, rfl, rfl⟩
    · have hkn : k < A.1 := (tl_iff hR.le hk).mp c9
      refine x_aload_n (pc := 12) dX2_shapesThatAre_12 rfl ?_
      refine x_get (pc := 13) (ci := 2) (k := 0) (C := RX2) (T := TX2) (N := 10) (cell_sheet (by first | assumption | omega)) rfl (sB_255 (by first | assumption | omega)) rfl nX2 (by decide) mF_X2_13 rfl dX2_shapesThatAre_13 ?_
      refine x_iload_n (pc := 16) dX2_shapesThatAre_16 rfl ?_
      refine t_shapes (pc := 17) _ (by first | assumption | omega) rfl (by first | assumption | omega) dX2_shapesThatAre_17 ?_
      refine x_get (pc := 18) (ci := 1) (k := 5) (C := RX1) (T := TX1) (N := 9) (cell_shape (by first | assumption | omega) (by first | assumption | omega)) rfl (shO_255 (by first | assumption | omega) (by first | assumption | omega)) rfl nX1 (by decide) mF_X2_66 rfl dX2_shapesThatAre_18 ?_
      rw [hR.shp (by first | assumption | omega) 5]
      refine x_iload_n (pc := 21) dX2_shapesThatAre_21 rfl ?_
      refine x_cmpne (pc := 22) 28 dX2_shapesThatAre_22 (by decide) (fun c22 => ?_) (fun c22 => ?_)
      · refine x_iinc (pc := 28) (nI (k + 1)) dX2_shapesThatAre_28 rfl (iinc_nI k) (by decide) ?_
        refine x_goto (pc := 31) 4 dX2_shapesThatAre_31 (by decide) ?_
        have e := ih hkn
        first
        | (simp only [cntN, if_pos c22] at e; exact x_back e ⟨rfl, rfl, rfl, rfl, trivial⟩)
        | (simp only [cntN, if_neg c22] at e; exact x_back e ⟨rfl, rfl, rfl, rfl, trivial⟩)
      · refine x_iinc (pc := 25) (_ + (1)) dX2_shapesThatAre_25 rfl rfl (by decide) ?_
        refine x_iinc (pc := 28) (nI (k + 1)) dX2_shapesThatAre_28 rfl (iinc_nI k) (by decide) ?_
        refine x_goto (pc := 31) 4 dX2_shapesThatAre_31 (by decide) ?_
        have e := ih hkn
        first
        | (simp only [cntN, if_pos c22] at e; exact x_back e ⟨rfl, rfl, rfl, rfl, trivial⟩)
        | (simp only [cntN, if_neg c22] at e; exact x_back e ⟨rfl, rfl, rfl, rfl, trivial⟩)
  refine x_iconst (pc := 0) (0) dX2_shapesThatAre_0 (by decide) ?_
  refine x_istore_n (pc := 1) dX2_shapesThatAre_1 (by decide) ?_
  refine x_iconst (pc := 2) (0) dX2_shapesThatAre_2 (by decide) ?_
  refine x_istore_n (pc := 3) dX2_shapesThatAre_3 (by decide) ?_
  exact x_back (lp 0 (by omega)) ⟨rfl, rfl, rfl, rfl, trivial⟩
set_option maxHeartbeats 4000000 in
set_option maxRecDepth 100000 in
theorem c_X2_shapesThatTilted (hj : j < 8) (hR : RC σ A) : Ct G yX2_shapesThatTilted YX2_shapesThatTilted 0 0 [.ref (gB G + sB j)] (nN G) (cellOf G (updS S j σ) B M) (Rt G (some (.int (tilN A.2.2.2.2 A.1))) (updS S j σ) B M) := by
  refine ct_of (by decide +kernel) rfl rfl (Nat.le_of_ble_eq_true rfl) (by simp [Value.category]) ?_
  refine x_sub (l' := [(0, .ref (gB G + sB j))]) ⟨rfl, trivial⟩ ?_
  have h12 := hR.le
  have lp : ∀ k, k ≤ A.1 → XJ G YX2_shapesThatTilted (fun _ => True) (Zx G (Rt G (some (.int (tilN A.2.2.2.2 A.1))) (updS S j σ) B M) 0 0) 4 [(0, .ref (gB G + sB j)), (1, .int (tilN A.2.2.2.2 k)), (2, .int (nI k))] [] (nN G) (cellOf G (updS S j σ) B M) 0 0 := by
    refine loopD (A.1) ?_
    intro k hk ih
    refine x_iload_n (pc := 4) dX2_shapesThatTilted_4 rfl ?_
    refine x_aload_n (pc := 5) dX2_shapesThatTilted_5 rfl ?_
    refine x_get (pc := 6) (ci := 2) (k := 3) (C := RX2) (T := TX2) (N := 10) (cell_sheet (by first | assumption | omega)) rfl (sB_255 (by first | assumption | omega)) rfl nX2 (by decide) mF_X2_25 rfl dX2_shapesThatTilted_6 ?_
    rw [hR.told]
    refine x_cmpge (pc := 9) 30 dX2_shapesThatTilted_9 (by decide) (fun c9 => ?_) (fun c9 => ?_)
    · obtain rfl : k = A.1 := by have := mt (tl_iff hR.le hk).mpr c9; omega
      refine x_iload_n (pc := 30) dX2_shapesThatTilted_30 rfl ?_
      exact x_iret rfl dX2_shapesThatTilted_31 ⟨by rfl, rfl, rfl⟩
    · have hkn : k < A.1 := (tl_iff hR.le hk).mp c9
      refine x_iload_n (pc := 12) dX2_shapesThatTilted_12 rfl ?_
      refine x_aload_n (pc := 13) dX2_shapesThatTilted_13 rfl ?_
      refine x_get (pc := 14) (ci := 2) (k := 0) (C := RX2) (T := TX2) (N := 10) (cell_sheet (by first | assumption | omega)) rfl (sB_255 (by first | assumption | omega)) rfl nX2 (by decide) mF_X2_13 rfl dX2_shapesThatTilted_14 ?_
      refine x_iload_n (pc := 17) dX2_shapesThatTilted_17 rfl ?_
      refine t_shapes (pc := 18) _ (by first | assumption | omega) rfl (by first | assumption | omega) dX2_shapesThatTilted_18 ?_
      refine x_get (pc := 19) (ci := 1) (k := 6) (C := RX1) (T := TX1) (N := 9) (cell_shape (by first | assumption | omega) (by first | assumption | omega)) rfl (shO_255 (by first | assumption | omega) (by first | assumption | omega)) rfl nX1 (by decide) mF_X2_119 rfl dX2_shapesThatTilted_19 ?_
      rw [hR.shp (by first | assumption | omega) 6]
      refine x_iadd (pc := 22) dX2_shapesThatTilted_22 ?_
      refine x_istore_n (pc := 23) dX2_shapesThatTilted_23 (by decide) ?_
      refine x_iinc (pc := 24) (nI (k + 1)) dX2_shapesThatTilted_24 rfl (iinc_nI k) (by decide) ?_
      refine x_goto (pc := 27) 4 dX2_shapesThatTilted_27 (by decide) ?_
      have e := ih hkn
      simp only [tilN] at e
      exact x_back e ⟨rfl, rfl, rfl, trivial⟩
  refine x_iconst (pc := 0) (0) dX2_shapesThatTilted_0 (by decide) ?_
  refine x_istore_n (pc := 1) dX2_shapesThatTilted_1 (by decide) ?_
  refine x_iconst (pc := 2) (0) dX2_shapesThatTilted_2 (by decide) ?_
  refine x_istore_n (pc := 3) dX2_shapesThatTilted_3 (by decide) ?_
  exact x_back (lp 0 (by omega)) ⟨rfl, rfl, rfl, trivial⟩
set_option maxHeartbeats 4000000 in
set_option maxRecDepth 100000 in
theorem c_X2_outerOf (hj : j < 8) (hR : RC σ A) (hi : i < A.1) : Ct G yX2_outerOf YX2_outerOf 0 0 [.ref (gB G + sB j), .ref (gB G + shO j i)] (nN G) (cellOf G (updS S j σ) B M) (Rt G (some (.int (oV (outO A.2.2.2.2 (A.2.2.2.2 i) A.1)))) (updS S j σ) B M) := by
  refine ct_of (by decide +kernel) rfl rfl (Nat.le_of_ble_eq_true rfl) (by simp [Value.category]) ?_
  refine x_sub (l' := [(0, .ref (gB G + sB j)), (1, .ref (gB G + shO j i))]) ⟨rfl, rfl, trivial⟩ ?_
  have h12 := hR.le
  have lp : ∀ k, k ≤ A.1 → XJ G YX2_outerOf (fun _ => True) (Zx G (Rt G (some (.int (oV (outO A.2.2.2.2 (A.2.2.2.2 i) A.1)))) (updS S j σ) B M) 0 0) 5 [(0, .ref (gB G + sB j)), (1, .ref (gB G + shO j i)), (2, .int (oV (outO A.2.2.2.2 (A.2.2.2.2 i) k))), (3, .int (nI k))] [] (nN G) (cellOf G (updS S j σ) B M) 0 0 := by
    refine loopD (A.1) ?_
    intro k hk ih
    refine x_iload_n (pc := 5) dX2_outerOf_5 rfl ?_
    refine x_aload_n (pc := 6) dX2_outerOf_6 rfl ?_
    refine x_get (pc := 7) (ci := 2) (k := 3) (C := RX2) (T := TX2) (N := 10) (cell_sheet (by first | assumption | omega)) rfl (sB_255 (by first | assumption | omega)) rfl nX2 (by decide) mF_X2_25 rfl dX2_outerOf_7 ?_
    rw [hR.told]
    refine x_cmpge (pc := 10) 58 dX2_outerOf_10 (by decide) (fun c10 => ?_) (fun c10 => ?_)
    · obtain rfl : k = A.1 := by have := mt (tl_iff hR.le hk).mpr c10; omega
      refine x_iload_n (pc := 58) dX2_outerOf_58 rfl ?_
      exact x_iret rfl dX2_outerOf_59 ⟨by rfl, rfl, rfl⟩
    · have hkn : k < A.1 := (tl_iff hR.le hk).mp c10
      refine x_aload_n (pc := 13) dX2_outerOf_13 rfl ?_
      refine x_aload_n (pc := 14) dX2_outerOf_14 rfl ?_
      refine x_get (pc := 15) (ci := 2) (k := 0) (C := RX2) (T := TX2) (N := 10) (cell_sheet (by first | assumption | omega)) rfl (sB_255 (by first | assumption | omega)) rfl nX2 (by decide) mF_X2_13 rfl dX2_outerOf_15 ?_
      refine x_iload_n (pc := 18) dX2_outerOf_18 rfl ?_
      refine t_shapes (pc := 19) _ (by first | assumption | omega) rfl (by first | assumption | omega) dX2_outerOf_19 ?_
      refine t_Vi (pc := 20) (c_X1_isInside (by first | assumption | omega) (by first | assumption | omega) (by first | assumption | omega)) qV_X1_isInside mL_X2_63 dX2_outerOf_20 rfl (cell_shape (by first | assumption | omega) (by first | assumption | omega)) (shO_255 (by first | assumption | omega) (by first | assumption | omega)) rfl rfl rfl ⟨by decide, by decide⟩ (Nat.le_of_ble_eq_true rfl) (Nat.le_of_ble_eq_true rfl) (Nat.le_of_ble_eq_true rfl) ?_
      rw [hR.ins (by first | assumption | omega) (by first | assumption | omega)]
      refine x_ifeq (pc := 23) 52 dX2_outerOf_23 (by decide) (fun c23 => ?_) (fun c23 => ?_)
      · refine x_iinc (pc := 52) (nI (k + 1)) dX2_outerOf_52 rfl (iinc_nI k) (by decide) ?_
        refine x_goto (pc := 55) 5 dX2_outerOf_55 (by decide) ?_
        have hol : ∀ q, outO A.2.2.2.2 (A.2.2.2.2 i) k = some q → q < 2 ^ 31 := fun q hq => by have := outO_lt hq; omega
        have e := ih hkn
        first
        | (simp only [outO, b01_eq c23, Bool.false_and, Bool.false_eq_true, if_false] at e; exact x_back e ⟨rfl, rfl, rfl, rfl, trivial⟩)
        | (have hn := oV_none hol c29
           simp only [outO, b01_ne c23, hn, Bool.true_and, if_true] at e; exact x_back e ⟨rfl, rfl, rfl, rfl, trivial⟩)
        | (simp only [outO, b01_ne c23, hq, b01_ne c47, Bool.true_and, if_true] at e; exact x_back e ⟨rfl, rfl, rfl, rfl, trivial⟩)
        | (simp only [outO, b01_ne c23, hq, b01_eq c47, Bool.true_and, Bool.false_eq_true, if_false] at e; exact x_back e ⟨rfl, rfl, rfl, rfl, trivial⟩)
      · refine x_iload_n (pc := 26) dX2_outerOf_26 rfl ?_
        refine x_bipush (pc := 27) (-5) dX2_outerOf_27 (by decide) ?_
        refine x_cmpeq (pc := 29) 50 dX2_outerOf_29 (by decide) (fun c29 => ?_) (fun c29 => ?_)
        · refine x_iload_n (pc := 50) dX2_outerOf_50 rfl ?_
          refine x_istore_n (pc := 51) dX2_outerOf_51 (by decide) ?_
          refine x_iinc (pc := 52) (nI (k + 1)) dX2_outerOf_52 rfl (iinc_nI k) (by decide) ?_
          refine x_goto (pc := 55) 5 dX2_outerOf_55 (by decide) ?_
          have hol : ∀ q, outO A.2.2.2.2 (A.2.2.2.2 i) k = some q → q < 2 ^ 31 := fun q hq => by have := outO_lt hq; omega
          have e := ih hkn
          first
          | (simp only [outO, b01_eq c23, Bool.false_and, Bool.false_eq_true, if_false] at e; exact x_back e ⟨rfl, rfl, rfl, rfl, trivial⟩)
          | (have hn := oV_none hol c29
             simp only [outO, b01_ne c23, hn, Bool.true_and, if_true] at e; exact x_back e ⟨rfl, rfl, rfl, rfl, trivial⟩)
          | (simp only [outO, b01_ne c23, hq, b01_ne c47, Bool.true_and, if_true] at e; exact x_back e ⟨rfl, rfl, rfl, rfl, trivial⟩)
          | (simp only [outO, b01_ne c23, hq, b01_eq c47, Bool.true_and, Bool.false_eq_true, if_false] at e; exact x_back e ⟨rfl, rfl, rfl, rfl, trivial⟩)
        · obtain ⟨q, hq⟩ := oV_some c29
          have hqk := outO_lt hq
          simp only [hq, oV]
          refine x_aload_n (pc := 32) dX2_outerOf_32 rfl ?_
          refine x_get (pc := 33) (ci := 2) (k := 0) (C := RX2) (T := TX2) (N := 10) (cell_sheet (by first | assumption | omega)) rfl (sB_255 (by first | assumption | omega)) rfl nX2 (by decide) mF_X2_13 rfl dX2_outerOf_33 ?_
          refine x_iload_n (pc := 36) dX2_outerOf_36 rfl ?_
          refine t_shapes (pc := 37) _ (by first | assumption | omega) rfl (by first | assumption | omega) dX2_outerOf_37 ?_
          refine x_aload_n (pc := 38) dX2_outerOf_38 rfl ?_
          refine x_get (pc := 39) (ci := 2) (k := 0) (C := RX2) (T := TX2) (N := 10) (cell_sheet (by first | assumption | omega)) rfl (sB_255 (by first | assumption | omega)) rfl nX2 (by decide) mF_X2_13 rfl dX2_outerOf_39 ?_
          refine x_iload_n (pc := 42) dX2_outerOf_42 rfl ?_
          refine t_shapes (pc := 43) _ (by first | assumption | omega) rfl (by first | assumption | omega) dX2_outerOf_43 ?_
          refine t_Vi (pc := 44) (c_X1_isInside (by first | assumption | omega) (by first | assumption | omega) (by first | assumption | omega)) qV_X1_isInside mL_X2_63 dX2_outerOf_44 rfl (cell_shape (by first | assumption | omega) (by first | assumption | omega)) (shO_255 (by first | assumption | omega) (by first | assumption | omega)) rfl rfl rfl ⟨by decide, by decide⟩ (Nat.le_of_ble_eq_true rfl) (Nat.le_of_ble_eq_true rfl) (Nat.le_of_ble_eq_true rfl) ?_
          rw [hR.ins (by first | assumption | omega) (by first | assumption | omega)]
          refine x_ifeq (pc := 47) 52 dX2_outerOf_47 (by decide) (fun c47 => ?_) (fun c47 => ?_)
          · refine x_iinc (pc := 52) (nI (k + 1)) dX2_outerOf_52 rfl (iinc_nI k) (by decide) ?_
            refine x_goto (pc := 55) 5 dX2_outerOf_55 (by decide) ?_
            have hol : ∀ q, outO A.2.2.2.2 (A.2.2.2.2 i) k = some q → q < 2 ^ 31 := fun q hq => by have := outO_lt hq; omega
            have e := ih hkn
            first
            | (simp only [outO, b01_eq c23, Bool.false_and, Bool.false_eq_true, if_false] at e; exact x_back e ⟨rfl, rfl, rfl, rfl, trivial⟩)
            | (have hn := oV_none hol c29
               simp only [outO, b01_ne c23, hn, Bool.true_and, if_true] at e; exact x_back e ⟨rfl, rfl, rfl, rfl, trivial⟩)
            | (simp only [outO, b01_ne c23, hq, b01_ne c47, Bool.true_and, if_true] at e; exact x_back e ⟨rfl, rfl, rfl, rfl, trivial⟩)
            | (simp only [outO, b01_ne c23, hq, b01_eq c47, Bool.true_and, Bool.false_eq_true, if_false] at e; exact x_back e ⟨rfl, rfl, rfl, rfl, trivial⟩)
          · refine x_iload_n (pc := 50) dX2_outerOf_50 rfl ?_
            refine x_istore_n (pc := 51) dX2_outerOf_51 (by decide) ?_
            refine x_iinc (pc := 52) (nI (k + 1)) dX2_outerOf_52 rfl (iinc_nI k) (by decide) ?_
            refine x_goto (pc := 55) 5 dX2_outerOf_55 (by decide) ?_
            have hol : ∀ q, outO A.2.2.2.2 (A.2.2.2.2 i) k = some q → q < 2 ^ 31 := fun q hq => by have := outO_lt hq; omega
            have e := ih hkn
            first
            | (simp only [outO, b01_eq c23, Bool.false_and, Bool.false_eq_true, if_false] at e; exact x_back e ⟨rfl, rfl, rfl, rfl, trivial⟩)
            | (have hn := oV_none hol c29
               simp only [outO, b01_ne c23, hn, Bool.true_and, if_true] at e; exact x_back e ⟨rfl, rfl, rfl, rfl, trivial⟩)
            | (simp only [outO, b01_ne c23, hq, b01_ne c47, Bool.true_and, if_true] at e; exact x_back e ⟨rfl, rfl, rfl, rfl, trivial⟩)
            | (simp only [outO, b01_ne c23, hq, b01_eq c47, Bool.true_and, Bool.false_eq_true, if_false] at e; exact x_back e ⟨rfl, rfl, rfl, rfl, trivial⟩)
  refine x_bipush (pc := 0) (-5) dX2_outerOf_0 (by decide) ?_
  refine x_istore_n (pc := 2) dX2_outerOf_2 (by decide) ?_
  refine x_iconst (pc := 3) (0) dX2_outerOf_3 (by decide) ?_
  refine x_istore_n (pc := 4) dX2_outerOf_4 (by decide) ?_
  exact x_back (lp 0 (by omega)) ⟨rfl, rfl, rfl, rfl, trivial⟩
set_option maxHeartbeats 4000000 in
set_option maxRecDepth 100000 in
theorem c_X2_setInside (hj : j < 8) (hR : RC σ A) (hi : i < A.1) : Ct G yX2_setInside YX2_setInside 0 0 [.ref (gB G + sB j), .ref (gB G + shO j i)] (nN G) (cellOf G (updS S j σ) B M) (Rt G (some (.int (setN A.2.2.2.2 (A.2.2.2.2 i) A.1))) (updS S j σ) B M) := by
  refine ct_of (by decide +kernel) rfl rfl (Nat.le_of_ble_eq_true rfl) (by simp [Value.category]) ?_
  refine x_sub (l' := [(0, .ref (gB G + sB j)), (1, .ref (gB G + shO j i))]) ⟨rfl, rfl, trivial⟩ ?_
  have h12 := hR.le
  have lp : ∀ k, k ≤ A.1 → XJ G YX2_setInside (fun _ => True) (Zx G (Rt G (some (.int (setN A.2.2.2.2 (A.2.2.2.2 i) A.1))) (updS S j σ) B M) 0 0) 4 [(0, .ref (gB G + sB j)), (1, .ref (gB G + shO j i)), (2, .int (setN A.2.2.2.2 (A.2.2.2.2 i) k)), (3, .int (nI k))] [] (nN G) (cellOf G (updS S j σ) B M) 0 0 := by
    refine loopD (A.1) ?_
    intro k hk ih
    refine x_iload_n (pc := 4) dX2_setInside_4 rfl ?_
    refine x_aload_n (pc := 5) dX2_setInside_5 rfl ?_
    refine x_get (pc := 6) (ci := 2) (k := 3) (C := RX2) (T := TX2) (N := 10) (cell_sheet (by first | assumption | omega)) rfl (sB_255 (by first | assumption | omega)) rfl nX2 (by decide) mF_X2_25 rfl dX2_setInside_6 ?_
    rw [hR.told]
    refine x_cmpge (pc := 9) 37 dX2_setInside_9 (by decide) (fun c9 => ?_) (fun c9 => ?_)
    · obtain rfl : k = A.1 := by have := mt (tl_iff hR.le hk).mpr c9; omega
      refine x_iload_n (pc := 37) dX2_setInside_37 rfl ?_
      exact x_iret rfl dX2_setInside_38 ⟨by rfl, rfl, rfl⟩
    · have hkn : k < A.1 := (tl_iff hR.le hk).mp c9
      refine x_aload_n (pc := 12) dX2_setInside_12 rfl ?_
      refine x_get (pc := 13) (ci := 2) (k := 0) (C := RX2) (T := TX2) (N := 10) (cell_sheet (by first | assumption | omega)) rfl (sB_255 (by first | assumption | omega)) rfl nX2 (by decide) mF_X2_13 rfl dX2_setInside_13 ?_
      refine x_iload_n (pc := 16) dX2_setInside_16 rfl ?_
      refine t_shapes (pc := 17) _ (by first | assumption | omega) rfl (by first | assumption | omega) dX2_setInside_17 ?_
      refine x_aload_n (pc := 18) dX2_setInside_18 rfl ?_
      refine t_Vi (pc := 19) (c_X1_isInside (by first | assumption | omega) (by first | assumption | omega) (by first | assumption | omega)) qV_X1_isInside mL_X2_63 dX2_setInside_19 rfl (cell_shape (by first | assumption | omega) (by first | assumption | omega)) (shO_255 (by first | assumption | omega) (by first | assumption | omega)) rfl rfl rfl ⟨by decide, by decide⟩ (Nat.le_of_ble_eq_true rfl) (Nat.le_of_ble_eq_true rfl) (Nat.le_of_ble_eq_true rfl) ?_
      rw [hR.ins (by first | assumption | omega) (by first | assumption | omega)]
      refine x_ifeq (pc := 22) 31 dX2_setInside_22 (by decide) (fun c22 => ?_) (fun c22 => ?_)
      · refine x_iinc (pc := 31) (nI (k + 1)) dX2_setInside_31 rfl (iinc_nI k) (by decide) ?_
        refine x_goto (pc := 34) 4 dX2_setInside_34 (by decide) ?_
        have e := ih hkn
        first
        | (simp only [setN, b01_eq c22, Bool.false_eq_true, if_false] at e; exact x_back e ⟨rfl, rfl, rfl, rfl, trivial⟩)
        | (simp only [setN, b01_ne c22, if_true] at e; exact x_back e ⟨rfl, rfl, rfl, rfl, trivial⟩)
      · refine x_iload_n (pc := 25) dX2_setInside_25 rfl ?_
        refine x_iconst (pc := 26) (1) dX2_setInside_26 (by decide) ?_
        refine x_iload_n (pc := 27) dX2_setInside_27 rfl ?_
        refine x_ishl (pc := 28) dX2_setInside_28 ?_
        refine x_ior (pc := 29) dX2_setInside_29 ?_
        refine x_istore_n (pc := 30) dX2_setInside_30 (by decide) ?_
        refine x_iinc (pc := 31) (nI (k + 1)) dX2_setInside_31 rfl (iinc_nI k) (by decide) ?_
        refine x_goto (pc := 34) 4 dX2_setInside_34 (by decide) ?_
        have e := ih hkn
        first
        | (simp only [setN, b01_eq c22, Bool.false_eq_true, if_false] at e; exact x_back e ⟨rfl, rfl, rfl, rfl, trivial⟩)
        | (simp only [setN, b01_ne c22, if_true] at e; exact x_back e ⟨rfl, rfl, rfl, rfl, trivial⟩)
  refine x_iconst (pc := 0) (0) dX2_setInside_0 (by decide) ?_
  refine x_istore_n (pc := 1) dX2_setInside_1 (by decide) ?_
  refine x_iconst (pc := 2) (0) dX2_setInside_2 (by decide) ?_
  refine x_istore_n (pc := 3) dX2_setInside_3 (by decide) ?_
  exact x_back (lp 0 (by omega)) ⟨rfl, rfl, rfl, rfl, trivial⟩
set_option maxHeartbeats 4000000 in
set_option maxRecDepth 100000 in
theorem c_X2_fits (hj : j < 8) (hR : RC σ A) : Ct G yX2_fits YX2_fits 0 0 [.ref (gB G + sB j), .ref (gB G + shO j A.1)] (nN G) (cellOf G (updS S j σ) B M) (Rt G (some (.int (b01 (fitB A.2.2.2.2 (σ.2.2.2.1 A.1) A.1)))) (updS S j σ) B M) := by
  refine ct_of (by decide +kernel) rfl rfl (Nat.le_of_ble_eq_true rfl) (by simp [Value.category]) ?_
  refine x_sub (l' := [(0, .ref (gB G + sB j)), (1, .ref (gB G + shO j A.1))]) ⟨rfl, rfl, trivial⟩ ?_
  have h12 := hR.le
  have lp : ∀ k, k ≤ A.1 → fitB A.2.2.2.2 (σ.2.2.2.1 A.1) k = true → XJ G YX2_fits (fun _ => True) (Zx G (Rt G (some (.int (b01 (fitB A.2.2.2.2 (σ.2.2.2.1 A.1) A.1)))) (updS S j σ) B M) 0 0) 2 [(0, .ref (gB G + sB j)), (1, .ref (gB G + shO j A.1)), (2, .int (nI k))] [] (nN G) (cellOf G (updS S j σ) B M) 0 0 := by
    refine loopD (A.1) ?_
    intro k hk ih hf
    refine x_iload_n (pc := 2) dX2_fits_2 rfl ?_
    refine x_aload_n (pc := 3) dX2_fits_3 rfl ?_
    refine x_get (pc := 4) (ci := 2) (k := 3) (C := RX2) (T := TX2) (N := 10) (cell_sheet (by first | assumption | omega)) rfl (sB_255 (by first | assumption | omega)) rfl nX2 (by decide) mF_X2_25 rfl dX2_fits_4 ?_
    rw [hR.told]
    refine x_cmpge (pc := 7) 71 dX2_fits_7 (by decide) (fun c7 => ?_) (fun c7 => ?_)
    · obtain rfl : k = A.1 := by have := mt (tl_iff hR.le hk).mpr c7; omega
      refine x_iconst (pc := 71) (1) dX2_fits_71 (by decide) ?_
      exact x_zret rfl rfl dX2_fits_72 ⟨by rw [hf]; rfl, rfl, rfl⟩
    · have hkn : k < A.1 := (tl_iff hR.le hk).mp c7
      refine x_aload_n (pc := 10) dX2_fits_10 rfl ?_
      refine x_get (pc := 11) (ci := 2) (k := 0) (C := RX2) (T := TX2) (N := 10) (cell_sheet (by first | assumption | omega)) rfl (sB_255 (by first | assumption | omega)) rfl nX2 (by decide) mF_X2_13 rfl dX2_fits_11 ?_
      refine x_iload_n (pc := 14) dX2_fits_14 rfl ?_
      refine t_shapes (pc := 15) _ (by first | assumption | omega) rfl (by first | assumption | omega) dX2_fits_15 ?_
      refine x_astore_n (pc := 16) dX2_fits_16 (by decide) ?_
      refine x_aload_n (pc := 17) dX2_fits_17 rfl ?_
      refine x_aload_n (pc := 18) dX2_fits_18 rfl ?_
      refine t_Vi (pc := 19) (c_X1_isInside (by first | assumption | omega) (by first | assumption | omega) (by first | assumption | omega)) qV_X1_isInside mL_X2_63 dX2_fits_19 rfl (cell_shape (by first | assumption | omega) (by first | assumption | omega)) (shO_255 (by first | assumption | omega) (by first | assumption | omega)) rfl rfl rfl ⟨by decide, by decide⟩ (Nat.le_of_ble_eq_true rfl) (Nat.le_of_ble_eq_true rfl) (Nat.le_of_ble_eq_true rfl) ?_
      rw [hR.ins2 _ hkn]
      refine x_ifne (pc := 22) 33 dX2_fits_22 (by decide) (fun c22 => ?_) (fun c22 => ?_)
      · refine x_iconst (pc := 33) (1) dX2_fits_33 (by decide) ?_
        refine x_goto (pc := 34) 38 dX2_fits_34 (by decide) ?_
        refine x_istore (pc := 38) dX2_fits_38 (by decide) ?_
        refine x_iload (pc := 40) dX2_fits_40 rfl ?_
        refine x_ifeq (pc := 42) 55 dX2_fits_42 (by decide) (fun h => absurd h (by decide)) (fun _ => ?_)
        refine x_aload_n (pc := 45) dX2_fits_45 rfl ?_
        refine x_get (pc := 46) (ci := 1) (k := 5) (C := RX1) (T := TX1) (N := 9) (cell_shape (by first | assumption | omega) (by first | assumption | omega)) rfl (shO_255 (by first | assumption | omega) (by first | assumption | omega)) rfl nX1 (by decide) mF_X2_66 rfl dX2_fits_46 ?_
        rw [hR.shp (by first | assumption | omega) 5]
        refine x_ifeq (pc := 49) 65 dX2_fits_49 (by decide) (fun c49 => ?_) (fun c49 => ?_)
        · refine x_iinc (pc := 65) (nI (k + 1)) dX2_fits_65 rfl (iinc_nI k) (by decide) ?_
          refine x_goto (pc := 68) 2 dX2_fits_68 (by decide) ?_
          have hk1 : fitB A.2.2.2.2 (σ.2.2.2.1 A.1) (k + 1) = true := by
            simp only [fitB, hf, okB, Bool.true_and]
            first
            | simp only [b01_ne c22, Bool.true_or, if_true, c49, decide_true]
            | simp only [b01_eq c22, b01_ne c30, Bool.false_or, if_true, c49, decide_true]
            | simp only [b01_eq c22, b01_eq c30, Bool.or_self, Bool.false_eq_true, if_false, b01_ne c60]
          exact x_back (ih hkn hk1) ⟨rfl, rfl, rfl, trivial⟩
        · refine x_goto (pc := 52) 63 dX2_fits_52 (by decide) ?_
          refine x_iconst (pc := 63) (0) dX2_fits_63 (by decide) ?_
          have hk1 : fitB A.2.2.2.2 (σ.2.2.2.1 A.1) (k + 1) = false := by
            simp only [fitB, hf, okB, Bool.true_and]
            first
            | simp only [b01_ne c22, Bool.true_or, if_true, c49, decide_false]
            | simp only [b01_eq c22, b01_ne c30, Bool.false_or, if_true, c49, decide_false]
            | simp only [b01_eq c22, b01_eq c30, Bool.or_self, Bool.false_eq_true, if_false, b01_eq c60]
          exact x_zret rfl rfl dX2_fits_64 ⟨by rw [fitB_mono hk1 A.1 hkn]; rfl, rfl, rfl⟩
      · refine x_aload_n (pc := 25) dX2_fits_25 rfl ?_
        refine x_aload_n (pc := 26) dX2_fits_26 rfl ?_
        refine t_Vi (pc := 27) (c_X1_isInside (by first | assumption | omega) (by first | assumption | omega) (by first | assumption | omega)) qV_X1_isInside mL_X2_63 dX2_fits_27 rfl (cell_shape (by first | assumption | omega) (by first | assumption | omega)) (shO_255 (by first | assumption | omega) (by first | assumption | omega)) rfl rfl rfl ⟨by decide, by decide⟩ (Nat.le_of_ble_eq_true rfl) (Nat.le_of_ble_eq_true rfl) (Nat.le_of_ble_eq_true rfl) ?_
        rw [hR.ins1 _ hkn]
        refine x_ifeq (pc := 30) 37 dX2_fits_30 (by decide) (fun c30 => ?_) (fun c30 => ?_)
        · refine x_iconst (pc := 37) (0) dX2_fits_37 (by decide) ?_
          refine x_istore (pc := 38) dX2_fits_38 (by decide) ?_
          refine x_iload (pc := 40) dX2_fits_40 rfl ?_
          refine x_ifeq (pc := 42) 55 dX2_fits_42 (by decide) (fun _ => ?_) (fun h => absurd h (by decide))
          refine x_aload_n (pc := 55) dX2_fits_55 rfl ?_
          refine x_aload_n (pc := 56) dX2_fits_56 rfl ?_
          refine t_Vi (pc := 57) (c_X1_isApartFrom (by first | assumption | omega) (by first | assumption | omega) (by first | assumption | omega)) qV_X1_isApartFrom mL_X2_69 dX2_fits_57 rfl (cell_shape (by first | assumption | omega) (by first | assumption | omega)) (shO_255 (by first | assumption | omega) (by first | assumption | omega)) rfl rfl rfl ⟨by decide, by decide⟩ (Nat.le_of_ble_eq_true rfl) (Nat.le_of_ble_eq_true rfl) (Nat.le_of_ble_eq_true rfl) ?_
          rw [hR.apa2 _ hkn]
          refine x_ifne (pc := 60) 65 dX2_fits_60 (by decide) (fun c60 => ?_) (fun c60 => ?_)
          · refine x_iinc (pc := 65) (nI (k + 1)) dX2_fits_65 rfl (iinc_nI k) (by decide) ?_
            refine x_goto (pc := 68) 2 dX2_fits_68 (by decide) ?_
            have hk1 : fitB A.2.2.2.2 (σ.2.2.2.1 A.1) (k + 1) = true := by
              simp only [fitB, hf, okB, Bool.true_and]
              first
              | simp only [b01_ne c22, Bool.true_or, if_true, c49, decide_true]
              | simp only [b01_eq c22, b01_ne c30, Bool.false_or, if_true, c49, decide_true]
              | simp only [b01_eq c22, b01_eq c30, Bool.or_self, Bool.false_eq_true, if_false, b01_ne c60]
            exact x_back (ih hkn hk1) ⟨rfl, rfl, rfl, trivial⟩
          · refine x_iconst (pc := 63) (0) dX2_fits_63 (by decide) ?_
            have hk1 : fitB A.2.2.2.2 (σ.2.2.2.1 A.1) (k + 1) = false := by
              simp only [fitB, hf, okB, Bool.true_and]
              first
              | simp only [b01_ne c22, Bool.true_or, if_true, c49, decide_false]
              | simp only [b01_eq c22, b01_ne c30, Bool.false_or, if_true, c49, decide_false]
              | simp only [b01_eq c22, b01_eq c30, Bool.or_self, Bool.false_eq_true, if_false, b01_eq c60]
            exact x_zret rfl rfl dX2_fits_64 ⟨by rw [fitB_mono hk1 A.1 hkn]; rfl, rfl, rfl⟩
        · refine x_iconst (pc := 33) (1) dX2_fits_33 (by decide) ?_
          refine x_goto (pc := 34) 38 dX2_fits_34 (by decide) ?_
          refine x_istore (pc := 38) dX2_fits_38 (by decide) ?_
          refine x_iload (pc := 40) dX2_fits_40 rfl ?_
          refine x_ifeq (pc := 42) 55 dX2_fits_42 (by decide) (fun h => absurd h (by decide)) (fun _ => ?_)
          refine x_aload_n (pc := 45) dX2_fits_45 rfl ?_
          refine x_get (pc := 46) (ci := 1) (k := 5) (C := RX1) (T := TX1) (N := 9) (cell_shape (by first | assumption | omega) (by first | assumption | omega)) rfl (shO_255 (by first | assumption | omega) (by first | assumption | omega)) rfl nX1 (by decide) mF_X2_66 rfl dX2_fits_46 ?_
          rw [hR.shp (by first | assumption | omega) 5]
          refine x_ifeq (pc := 49) 65 dX2_fits_49 (by decide) (fun c49 => ?_) (fun c49 => ?_)
          · refine x_iinc (pc := 65) (nI (k + 1)) dX2_fits_65 rfl (iinc_nI k) (by decide) ?_
            refine x_goto (pc := 68) 2 dX2_fits_68 (by decide) ?_
            have hk1 : fitB A.2.2.2.2 (σ.2.2.2.1 A.1) (k + 1) = true := by
              simp only [fitB, hf, okB, Bool.true_and]
              first
              | simp only [b01_ne c22, Bool.true_or, if_true, c49, decide_true]
              | simp only [b01_eq c22, b01_ne c30, Bool.false_or, if_true, c49, decide_true]
              | simp only [b01_eq c22, b01_eq c30, Bool.or_self, Bool.false_eq_true, if_false, b01_ne c60]
            exact x_back (ih hkn hk1) ⟨rfl, rfl, rfl, trivial⟩
          · refine x_goto (pc := 52) 63 dX2_fits_52 (by decide) ?_
            refine x_iconst (pc := 63) (0) dX2_fits_63 (by decide) ?_
            have hk1 : fitB A.2.2.2.2 (σ.2.2.2.1 A.1) (k + 1) = false := by
              simp only [fitB, hf, okB, Bool.true_and]
              first
              | simp only [b01_ne c22, Bool.true_or, if_true, c49, decide_false]
              | simp only [b01_eq c22, b01_ne c30, Bool.false_or, if_true, c49, decide_false]
              | simp only [b01_eq c22, b01_eq c30, Bool.or_self, Bool.false_eq_true, if_false, b01_eq c60]
            exact x_zret rfl rfl dX2_fits_64 ⟨by rw [fitB_mono hk1 A.1 hkn]; rfl, rfl, rfl⟩
  refine x_iconst (pc := 0) (0) dX2_fits_0 (by decide) ?_
  refine x_istore_n (pc := 1) dX2_fits_1 (by decide) ?_
  exact x_back (lp 0 (by omega) rfl) ⟨rfl, rfl, rfl, trivial⟩
set_option maxHeartbeats 4000000 in
set_option maxRecDepth 100000 in
theorem c_X2_factOfShape (hj : j < 8) (hR : RC σ A) (v w : Int32) : Ct G yX2_factOfShape YX2_factOfShape 0 0 [.ref (gB G + sB j), .int v, .int w] (nN G) (cellOf G (updS S j σ) B M) (Rt G (some (.int (factX A v w))) (updS S j σ) B M) := by
  refine ct_of (by decide +kernel) rfl rfl (Nat.le_of_ble_eq_true rfl) (by simp [Value.category]) ?_
  refine x_sub (l' := [(0, .ref (gB G + sB j)), (1, .int v), (2, .int w)]) ⟨rfl, rfl, rfl, trivial⟩ ?_
  have h12 := hR.le
  refine x_aload_n (pc := 0) dX2_factOfShape_0 rfl ?_
  refine x_iload_n (pc := 1) dX2_factOfShape_1 rfl ?_
  refine t_Vi (pc := 2) (c_X2_knows (by first | assumption | omega) hR _) qV_X2_knows mL_X2_72 dX2_factOfShape_2 rfl (cell_sheet (by first | assumption | omega)) (sB_255 (by first | assumption | omega)) rfl rfl rfl ⟨by decide, by decide⟩ (Nat.le_of_ble_eq_true rfl) (Nat.le_of_ble_eq_true rfl) (Nat.le_of_ble_eq_true rfl) ?_
  refine x_ifne (pc := 5) 10 dX2_factOfShape_5 (by decide) (fun c5 => ?_) (fun c5 => ?_)
  · obtain ⟨i, hi, rfl, hcl⟩ := knB_some hR.le (b01_ne c5)
    refine x_aload_n (pc := 10) dX2_factOfShape_10 rfl ?_
    refine x_get (pc := 11) (ci := 2) (k := 0) (C := RX2) (T := TX2) (N := 10) (cell_sheet (by first | assumption | omega)) rfl (sB_255 (by first | assumption | omega)) rfl nX2 (by decide) mF_X2_13 rfl dX2_factOfShape_11 ?_
    refine x_iload_n (pc := 14) dX2_factOfShape_14 rfl ?_
    refine t_shapes (pc := 15) _ (by first | assumption | omega) rfl (by first | assumption | omega) dX2_factOfShape_15 ?_
    refine x_astore_n (pc := 16) dX2_factOfShape_16 (by decide) ?_
    refine x_iload_n (pc := 17) dX2_factOfShape_17 rfl ?_
    by_cases hw : betw w 0 (nI 10) = true
    · obtain ⟨q, hq, rfl, hcq⟩ := betw_some (n := 10) rfl (by decide) hw
      rcases (show q = 0 ∨ q = 1 ∨ q = 2 ∨ q = 3 ∨ q = 4 ∨ q = 5 ∨ q = 6 ∨ q = 7 ∨ q = 8 ∨ q = 9 ∨ q = 10 by omega) with rfl | rfl | rfl | rfl | rfl | rfl | rfl | rfl | rfl | rfl | rfl
      · refine x_tableIn (pc := 18) 76 dX2_factOfShape_18 (by decide) (by decide) rfl (by decide) ?_
        refine x_aload_n (pc := 76) dX2_factOfShape_76 rfl ?_
        refine x_get (pc := 77) (ci := 1) (k := 0) (C := RX1) (T := TX1) (N := 9) (cell_shape (by first | assumption | omega) (by first | assumption | omega)) rfl (shO_255 (by first | assumption | omega) (by first | assumption | omega)) rfl nX1 (by decide) mF_X2_167 rfl dX2_factOfShape_77 ?_
        rw [hR.shp (by first | assumption | omega) 0]
        exact x_iret rfl dX2_factOfShape_80 ⟨by simp only [factX, b01_ne c5, if_true, hcl]; rfl, rfl, rfl⟩
      · refine x_tableIn (pc := 18) 81 dX2_factOfShape_18 (by decide) (by decide) rfl (by decide) ?_
        refine x_aload_n (pc := 81) dX2_factOfShape_81 rfl ?_
        refine x_get (pc := 82) (ci := 1) (k := 1) (C := RX1) (T := TX1) (N := 9) (cell_shape (by first | assumption | omega) (by first | assumption | omega)) rfl (shO_255 (by first | assumption | omega) (by first | assumption | omega)) rfl nX1 (by decide) mF_X2_170 rfl dX2_factOfShape_82 ?_
        rw [hR.shp (by first | assumption | omega) 1]
        exact x_iret rfl dX2_factOfShape_85 ⟨by simp only [factX, b01_ne c5, if_true, hcl]; rfl, rfl, rfl⟩
      · refine x_tableIn (pc := 18) 86 dX2_factOfShape_18 (by decide) (by decide) rfl (by decide) ?_
        refine x_aload_n (pc := 86) dX2_factOfShape_86 rfl ?_
        refine x_get (pc := 87) (ci := 1) (k := 2) (C := RX1) (T := TX1) (N := 9) (cell_shape (by first | assumption | omega) (by first | assumption | omega)) rfl (shO_255 (by first | assumption | omega) (by first | assumption | omega)) rfl nX1 (by decide) mF_X2_173 rfl dX2_factOfShape_87 ?_
        rw [hR.shp (by first | assumption | omega) 2]
        exact x_iret rfl dX2_factOfShape_90 ⟨by simp only [factX, b01_ne c5, if_true, hcl]; rfl, rfl, rfl⟩
      · refine x_tableIn (pc := 18) 91 dX2_factOfShape_18 (by decide) (by decide) rfl (by decide) ?_
        refine x_aload_n (pc := 91) dX2_factOfShape_91 rfl ?_
        refine x_get (pc := 92) (ci := 1) (k := 3) (C := RX1) (T := TX1) (N := 9) (cell_shape (by first | assumption | omega) (by first | assumption | omega)) rfl (shO_255 (by first | assumption | omega) (by first | assumption | omega)) rfl nX1 (by decide) mF_X2_176 rfl dX2_factOfShape_92 ?_
        rw [hR.shp (by first | assumption | omega) 3]
        exact x_iret rfl dX2_factOfShape_95 ⟨by simp only [factX, b01_ne c5, if_true, hcl]; rfl, rfl, rfl⟩
      · refine x_tableIn (pc := 18) 96 dX2_factOfShape_18 (by decide) (by decide) rfl (by decide) ?_
        refine x_aload_n (pc := 96) dX2_factOfShape_96 rfl ?_
        refine x_get (pc := 97) (ci := 1) (k := 4) (C := RX1) (T := TX1) (N := 9) (cell_shape (by first | assumption | omega) (by first | assumption | omega)) rfl (shO_255 (by first | assumption | omega) (by first | assumption | omega)) rfl nX1 (by decide) mF_X2_76 rfl dX2_factOfShape_97 ?_
        rw [hR.shp (by first | assumption | omega) 4]
        exact x_iret rfl dX2_factOfShape_100 ⟨by simp only [factX, b01_ne c5, if_true, hcl]; rfl, rfl, rfl⟩
      · refine x_tableIn (pc := 18) 101 dX2_factOfShape_18 (by decide) (by decide) rfl (by decide) ?_
        refine x_aload_n (pc := 101) dX2_factOfShape_101 rfl ?_
        refine x_get (pc := 102) (ci := 1) (k := 5) (C := RX1) (T := TX1) (N := 9) (cell_shape (by first | assumption | omega) (by first | assumption | omega)) rfl (shO_255 (by first | assumption | omega) (by first | assumption | omega)) rfl nX1 (by decide) mF_X2_66 rfl dX2_factOfShape_102 ?_
        rw [hR.shp (by first | assumption | omega) 5]
        exact x_iret rfl dX2_factOfShape_105 ⟨by simp only [factX, b01_ne c5, if_true, hcl]; rfl, rfl, rfl⟩
      · refine x_tableIn (pc := 18) 106 dX2_factOfShape_18 (by decide) (by decide) rfl (by decide) ?_
        refine x_aload_n (pc := 106) dX2_factOfShape_106 rfl ?_
        refine x_aload_n (pc := 107) dX2_factOfShape_107 rfl ?_
        refine t_Vi (pc := 108) (c_X2_outerOf (by first | assumption | omega) hR (by first | assumption | omega)) qV_X2_outerOf mL_X2_179 dX2_factOfShape_108 rfl (cell_sheet (by first | assumption | omega)) (sB_255 (by first | assumption | omega)) rfl rfl rfl ⟨by decide, by decide⟩ (Nat.le_of_ble_eq_true rfl) (Nat.le_of_ble_eq_true rfl) (Nat.le_of_ble_eq_true rfl) ?_
        exact x_iret rfl dX2_factOfShape_111 ⟨by simp only [factX, b01_ne c5, if_true, hcl]; rfl, rfl, rfl⟩
      · refine x_tableIn (pc := 18) 112 dX2_factOfShape_18 (by decide) (by decide) rfl (by decide) ?_
        refine x_aload_n (pc := 112) dX2_factOfShape_112 rfl ?_
        refine x_aload_n (pc := 113) dX2_factOfShape_113 rfl ?_
        refine t_Vi (pc := 114) (c_X2_setInside (by first | assumption | omega) hR (by first | assumption | omega)) qV_X2_setInside mL_X2_182 dX2_factOfShape_114 rfl (cell_sheet (by first | assumption | omega)) (sB_255 (by first | assumption | omega)) rfl rfl rfl ⟨by decide, by decide⟩ (Nat.le_of_ble_eq_true rfl) (Nat.le_of_ble_eq_true rfl) (Nat.le_of_ble_eq_true rfl) ?_
        exact x_iret rfl dX2_factOfShape_117 ⟨by simp only [factX, b01_ne c5, if_true, hcl]; rfl, rfl, rfl⟩
      · refine x_tableIn (pc := 18) 118 dX2_factOfShape_18 (by decide) (by decide) rfl (by decide) ?_
        refine x_aload_n (pc := 118) dX2_factOfShape_118 rfl ?_
        refine t_Vi (pc := 119) (c_X1_edge (by first | assumption | omega) (by first | assumption | omega)) qV_X1_edge mL_X2_140 dX2_factOfShape_119 rfl (cell_shape (by first | assumption | omega) (by first | assumption | omega)) (shO_255 (by first | assumption | omega) (by first | assumption | omega)) rfl rfl rfl ⟨by decide, by decide⟩ (Nat.le_of_ble_eq_true rfl) (Nat.le_of_ble_eq_true rfl) (Nat.le_of_ble_eq_true rfl) ?_
        rw [hR.ed (by first | assumption | omega)]
        exact x_iret rfl dX2_factOfShape_122 ⟨by simp only [factX, b01_ne c5, if_true, hcl]; rfl, rfl, rfl⟩
      · refine x_tableIn (pc := 18) 123 dX2_factOfShape_18 (by decide) (by decide) rfl (by decide) ?_
        refine x_aload_n (pc := 123) dX2_factOfShape_123 rfl ?_
        refine x_get (pc := 124) (ci := 1) (k := 6) (C := RX1) (T := TX1) (N := 9) (cell_shape (by first | assumption | omega) (by first | assumption | omega)) rfl (shO_255 (by first | assumption | omega) (by first | assumption | omega)) rfl nX1 (by decide) mF_X2_119 rfl dX2_factOfShape_124 ?_
        rw [hR.shp (by first | assumption | omega) 6]
        exact x_iret rfl dX2_factOfShape_127 ⟨by simp only [factX, b01_ne c5, if_true, hcl]; rfl, rfl, rfl⟩
      · refine x_tableIn (pc := 18) 128 dX2_factOfShape_18 (by decide) (by decide) rfl (by decide) ?_
        refine x_aload_n (pc := 128) dX2_factOfShape_128 rfl ?_
        refine x_get (pc := 129) (ci := 1) (k := 7) (C := RX1) (T := TX1) (N := 9) (cell_shape (by first | assumption | omega) (by first | assumption | omega)) rfl (shO_255 (by first | assumption | omega) (by first | assumption | omega)) rfl nX1 (by decide) mF_X2_107 rfl dX2_factOfShape_129 ?_
        rw [hR.shp (by first | assumption | omega) 7]
        exact x_iret rfl dX2_factOfShape_132 ⟨by simp only [factX, b01_ne c5, if_true, hcl]; rfl, rfl, rfl⟩
    · have ho := betw_out rfl (by decide) hw
      refine x_tableOut (pc := 18) 133 dX2_factOfShape_18 ho (by decide) ?_
      refine x_bipush (pc := 133) (-2) dX2_factOfShape_133 (by decide) ?_
      exact x_iret rfl dX2_factOfShape_135 ⟨by (have n6 : ¬ w = 6 := ne_out (m := 6) (n := 10) (by decide) (by decide) ho; have n7 : ¬ w = 7 := ne_out (m := 7) (n := 10) (by decide) (by decide) ho; have n8 : ¬ w = 8 := ne_out (m := 8) (n := 10) (by decide) (by decide) ho; have n9 : ¬ w = 9 := ne_out (m := 9) (n := 10) (by decide) (by decide) ho; have n10 : ¬ w = 10 := ne_out (m := 10) (n := 10) (by decide) (by decide) ho; have h5 : betw w 0 5 = false := betw_ge (m := 5) (n := 10) (by decide) (by decide) ho; simp only [factX, b01_ne c5, if_true, h5, Bool.false_eq_true, if_false, n6, n7, n8, n9, n10]), rfl, rfl⟩
  · refine x_iconst (pc := 8) (-1) dX2_factOfShape_8 (by decide) ?_
    exact x_iret rfl dX2_factOfShape_9 ⟨by simp only [factX, b01_eq c5, Bool.false_eq_true, if_false], rfl, rfl⟩
set_option maxHeartbeats 4000000 in
set_option maxRecDepth 100000 in
theorem c_X2_factOfSheet (hj : j < 8) (hR : RC σ A) (w : Int32) : Ct G yX2_factOfSheet YX2_factOfSheet 0 0 [.ref (gB G + sB j), .int w] (nN G) (cellOf G (updS S j σ) B M) (Rt G (some (.int (sheetX A w))) (updS S j σ) B M) := by
  refine ct_of (by decide +kernel) rfl rfl (Nat.le_of_ble_eq_true rfl) (by simp [Value.category]) ?_
  refine x_sub (l' := [(0, .ref (gB G + sB j)), (1, .int w)]) ⟨rfl, rfl, trivial⟩ ?_
  have h12 := hR.le
  refine x_iload_n (pc := 0) dX2_factOfSheet_0 rfl ?_
  by_cases hw : betw w 0 (nI 16) = true
  · obtain ⟨q, hq, rfl, hcq⟩ := betw_some (n := 16) rfl (by decide) hw
    rcases (show q = 0 ∨ q = 1 ∨ q = 2 ∨ q = 3 ∨ q = 4 ∨ q = 5 ∨ q = 6 ∨ q = 7 ∨ q = 8 ∨ q = 9 ∨ q = 10 ∨ q = 11 ∨ q = 12 ∨ q = 13 ∨ q = 14 ∨ q = 15 ∨ q = 16 by omega) with rfl | rfl | rfl | rfl | rfl | rfl | rfl | rfl | rfl | rfl | rfl | rfl | rfl | rfl | rfl | rfl | rfl
    · refine x_tableIn (pc := 1) 84 dX2_factOfSheet_1 (by decide) (by decide) rfl (by decide) ?_
      refine x_aload_n (pc := 84) dX2_factOfSheet_84 rfl ?_
      refine x_get (pc := 85) (ci := 2) (k := 3) (C := RX2) (T := TX2) (N := 10) (cell_sheet (by first | assumption | omega)) rfl (sB_255 (by first | assumption | omega)) rfl nX2 (by decide) mF_X2_25 rfl dX2_factOfSheet_85 ?_
      rw [hR.told]
      exact x_iret rfl dX2_factOfSheet_88 ⟨rfl, rfl, rfl⟩
    · refine x_tableIn (pc := 1) 89 dX2_factOfSheet_1 (by decide) (by decide) rfl (by decide) ?_
      refine x_aload_n (pc := 89) dX2_factOfSheet_89 rfl ?_
      refine x_iconst (pc := 90) (0) dX2_factOfSheet_90 (by decide) ?_
      refine t_Vi (pc := 91) (c_X2_shapesThatAre (by first | assumption | omega) hR _) qV_X2_shapesThatAre mL_X2_185 dX2_factOfSheet_91 rfl (cell_sheet (by first | assumption | omega)) (sB_255 (by first | assumption | omega)) rfl rfl rfl ⟨by decide, by decide⟩ (Nat.le_of_ble_eq_true rfl) (Nat.le_of_ble_eq_true rfl) (Nat.le_of_ble_eq_true rfl) ?_
      exact x_iret rfl dX2_factOfSheet_94 ⟨rfl, rfl, rfl⟩
    · refine x_tableIn (pc := 1) 95 dX2_factOfSheet_1 (by decide) (by decide) rfl (by decide) ?_
      refine x_aload_n (pc := 95) dX2_factOfSheet_95 rfl ?_
      refine x_iconst (pc := 96) (1) dX2_factOfSheet_96 (by decide) ?_
      refine t_Vi (pc := 97) (c_X2_shapesThatAre (by first | assumption | omega) hR _) qV_X2_shapesThatAre mL_X2_185 dX2_factOfSheet_97 rfl (cell_sheet (by first | assumption | omega)) (sB_255 (by first | assumption | omega)) rfl rfl rfl ⟨by decide, by decide⟩ (Nat.le_of_ble_eq_true rfl) (Nat.le_of_ble_eq_true rfl) (Nat.le_of_ble_eq_true rfl) ?_
      exact x_iret rfl dX2_factOfSheet_100 ⟨rfl, rfl, rfl⟩
    · refine x_tableIn (pc := 1) 101 dX2_factOfSheet_1 (by decide) (by decide) rfl (by decide) ?_
      refine x_aload_n (pc := 101) dX2_factOfSheet_101 rfl ?_
      refine x_iconst (pc := 102) (2) dX2_factOfSheet_102 (by decide) ?_
      refine t_Vi (pc := 103) (c_X2_shapesThatAre (by first | assumption | omega) hR _) qV_X2_shapesThatAre mL_X2_185 dX2_factOfSheet_103 rfl (cell_sheet (by first | assumption | omega)) (sB_255 (by first | assumption | omega)) rfl rfl rfl ⟨by decide, by decide⟩ (Nat.le_of_ble_eq_true rfl) (Nat.le_of_ble_eq_true rfl) (Nat.le_of_ble_eq_true rfl) ?_
      exact x_iret rfl dX2_factOfSheet_106 ⟨rfl, rfl, rfl⟩
    · refine x_tableIn (pc := 1) 107 dX2_factOfSheet_1 (by decide) (by decide) rfl (by decide) ?_
      refine x_aload_n (pc := 107) dX2_factOfSheet_107 rfl ?_
      refine t_Vi (pc := 108) (c_X2_shapesThatTilted (by first | assumption | omega) hR) qV_X2_shapesThatTilted mL_X2_188 dX2_factOfSheet_108 rfl (cell_sheet (by first | assumption | omega)) (sB_255 (by first | assumption | omega)) rfl rfl rfl ⟨by decide, by decide⟩ (Nat.le_of_ble_eq_true rfl) (Nat.le_of_ble_eq_true rfl) (Nat.le_of_ble_eq_true rfl) ?_
      exact x_iret rfl dX2_factOfSheet_111 ⟨rfl, rfl, rfl⟩
    · refine x_tableIn (pc := 1) 112 dX2_factOfSheet_1 (by decide) (by decide) rfl (by decide) ?_
      refine x_aload_n (pc := 112) dX2_factOfSheet_112 rfl ?_
      refine x_get (pc := 113) (ci := 2) (k := 6) (C := RX2) (T := TX2) (N := 10) (cell_sheet (by first | assumption | omega)) rfl (sB_255 (by first | assumption | omega)) rfl nX2 (by decide) mF_X2_35 rfl dX2_factOfSheet_113 ?_
      rw [hR.int 3]
      exact x_iret rfl dX2_factOfSheet_116 ⟨rfl, rfl, rfl⟩
    · refine x_tableIn (pc := 1) 117 dX2_factOfSheet_1 (by decide) (by decide) rfl (by decide) ?_
      refine x_aload_n (pc := 117) dX2_factOfSheet_117 rfl ?_
      refine x_get (pc := 118) (ci := 2) (k := 4) (C := RX2) (T := TX2) (N := 10) (cell_sheet (by first | assumption | omega)) rfl (sB_255 (by first | assumption | omega)) rfl nX2 (by decide) mF_X2_29 rfl dX2_factOfSheet_118 ?_
      rw [hR.int 1]
      exact x_iret rfl dX2_factOfSheet_121 ⟨rfl, rfl, rfl⟩
    · refine x_tableIn (pc := 1) 122 dX2_factOfSheet_1 (by decide) (by decide) rfl (by decide) ?_
      refine x_aload_n (pc := 122) dX2_factOfSheet_122 rfl ?_
      refine x_get (pc := 123) (ci := 2) (k := 5) (C := RX2) (T := TX2) (N := 10) (cell_sheet (by first | assumption | omega)) rfl (sB_255 (by first | assumption | omega)) rfl nX2 (by decide) mF_X2_32 rfl dX2_factOfSheet_123 ?_
      rw [hR.int 2]
      exact x_iret rfl dX2_factOfSheet_126 ⟨rfl, rfl, rfl⟩
    · refine x_tableIn (pc := 1) 127 dX2_factOfSheet_1 (by decide) (by decide) rfl (by decide) ?_
      refine x_aload_n (pc := 127) dX2_factOfSheet_127 rfl ?_
      refine x_get (pc := 128) (ci := 2) (k := 7) (C := RX2) (T := TX2) (N := 10) (cell_sheet (by first | assumption | omega)) rfl (sB_255 (by first | assumption | omega)) rfl nX2 (by decide) mF_X2_38 rfl dX2_factOfSheet_128 ?_
      rw [hR.int 4]
      exact x_iret rfl dX2_factOfSheet_131 ⟨rfl, rfl, rfl⟩
    · refine x_tableIn (pc := 1) 132 dX2_factOfSheet_1 (by decide) (by decide) rfl (by decide) ?_
      refine x_aload_n (pc := 132) dX2_factOfSheet_132 rfl ?_
      refine x_get (pc := 133) (ci := 2) (k := 8) (C := RX2) (T := TX2) (N := 10) (cell_sheet (by first | assumption | omega)) rfl (sB_255 (by first | assumption | omega)) rfl nX2 (by decide) mF_X2_41 rfl dX2_factOfSheet_133 ?_
      rw [hR.int 5]
      exact x_iret rfl dX2_factOfSheet_136 ⟨rfl, rfl, rfl⟩
    · refine x_tableIn (pc := 1) 137 dX2_factOfSheet_1 (by decide) (by decide) rfl (by decide) ?_
      refine x_aload_n (pc := 137) dX2_factOfSheet_137 rfl ?_
      refine t_Vi (pc := 138) (c_X2_greatestHeat (by first | assumption | omega) hR) qV_X2_greatestHeat mL_X2_116 dX2_factOfSheet_138 rfl (cell_sheet (by first | assumption | omega)) (sB_255 (by first | assumption | omega)) rfl rfl rfl ⟨by decide, by decide⟩ (Nat.le_of_ble_eq_true rfl) (Nat.le_of_ble_eq_true rfl) (Nat.le_of_ble_eq_true rfl) ?_
      exact x_iret rfl dX2_factOfSheet_141 ⟨rfl, rfl, rfl⟩
    · refine x_tableIn (pc := 1) 142 dX2_factOfSheet_1 (by decide) (by decide) rfl (by decide) ?_
      refine x_aload_n (pc := 142) dX2_factOfSheet_142 rfl ?_
      refine t_Vi (pc := 143) (c_X2_hottestSquare (by first | assumption | omega) hR) qV_X2_hottestSquare mL_X2_164 dX2_factOfSheet_143 rfl (cell_sheet (by first | assumption | omega)) (sB_255 (by first | assumption | omega)) rfl rfl rfl ⟨by decide, by decide⟩ (Nat.le_of_ble_eq_true rfl) (Nat.le_of_ble_eq_true rfl) (Nat.le_of_ble_eq_true rfl) ?_
      exact x_iret rfl dX2_factOfSheet_146 ⟨rfl, rfl, rfl⟩
    · refine x_tableIn (pc := 1) 147 dX2_factOfSheet_1 (by decide) (by decide) rfl (by decide) ?_
      refine x_aload_n (pc := 147) dX2_factOfSheet_147 rfl ?_
      refine t_Vi (pc := 148) (c_X2_allHeat (by first | assumption | omega) hR) qV_X2_allHeat mL_X2_191 dX2_factOfSheet_148 rfl (cell_sheet (by first | assumption | omega)) (sB_255 (by first | assumption | omega)) rfl rfl rfl ⟨by decide, by decide⟩ (Nat.le_of_ble_eq_true rfl) (Nat.le_of_ble_eq_true rfl) (Nat.le_of_ble_eq_true rfl) ?_
      exact x_iret rfl dX2_factOfSheet_151 ⟨rfl, rfl, rfl⟩
    · refine x_tableIn (pc := 1) 152 dX2_factOfSheet_1 (by decide) (by decide) rfl (by decide) ?_
      refine x_aload_n (pc := 152) dX2_factOfSheet_152 rfl ?_
      refine x_get (pc := 153) (ci := 2) (k := 2) (C := RX2) (T := TX2) (N := 10) (cell_sheet (by first | assumption | omega)) rfl (sB_255 (by first | assumption | omega)) rfl nX2 (by decide) mF_X2_22 rfl dX2_factOfSheet_153 ?_
      refine x_iconst (pc := 156) (0) dX2_factOfSheet_156 (by decide) ?_
      refine t_ild (pc := 157) 0 (cell_sets (by first | assumption | omega)) (stO_255 (by first | assumption | omega)) rfl (by decide) (by decide) dX2_factOfSheet_157 ?_
      rw [hR.sett _ (by decide)]
      exact x_iret rfl dX2_factOfSheet_158 ⟨rfl, rfl, rfl⟩
    · refine x_tableIn (pc := 1) 159 dX2_factOfSheet_1 (by decide) (by decide) rfl (by decide) ?_
      refine x_aload_n (pc := 159) dX2_factOfSheet_159 rfl ?_
      refine x_get (pc := 160) (ci := 2) (k := 2) (C := RX2) (T := TX2) (N := 10) (cell_sheet (by first | assumption | omega)) rfl (sB_255 (by first | assumption | omega)) rfl nX2 (by decide) mF_X2_22 rfl dX2_factOfSheet_160 ?_
      refine x_iconst (pc := 163) (1) dX2_factOfSheet_163 (by decide) ?_
      refine t_ild (pc := 164) 1 (cell_sets (by first | assumption | omega)) (stO_255 (by first | assumption | omega)) rfl (by decide) (by decide) dX2_factOfSheet_164 ?_
      rw [hR.sett _ (by decide)]
      exact x_iret rfl dX2_factOfSheet_165 ⟨rfl, rfl, rfl⟩
    · refine x_tableIn (pc := 1) 166 dX2_factOfSheet_1 (by decide) (by decide) rfl (by decide) ?_
      refine x_aload_n (pc := 166) dX2_factOfSheet_166 rfl ?_
      refine x_get (pc := 167) (ci := 2) (k := 2) (C := RX2) (T := TX2) (N := 10) (cell_sheet (by first | assumption | omega)) rfl (sB_255 (by first | assumption | omega)) rfl nX2 (by decide) mF_X2_22 rfl dX2_factOfSheet_167 ?_
      refine x_iconst (pc := 170) (2) dX2_factOfSheet_170 (by decide) ?_
      refine t_ild (pc := 171) 2 (cell_sets (by first | assumption | omega)) (stO_255 (by first | assumption | omega)) rfl (by decide) (by decide) dX2_factOfSheet_171 ?_
      rw [hR.sett _ (by decide)]
      exact x_iret rfl dX2_factOfSheet_172 ⟨rfl, rfl, rfl⟩
    · refine x_tableIn (pc := 1) 173 dX2_factOfSheet_1 (by decide) (by decide) rfl (by decide) ?_
      refine x_aload_n (pc := 173) dX2_factOfSheet_173 rfl ?_
      refine x_get (pc := 174) (ci := 2) (k := 2) (C := RX2) (T := TX2) (N := 10) (cell_sheet (by first | assumption | omega)) rfl (sB_255 (by first | assumption | omega)) rfl nX2 (by decide) mF_X2_22 rfl dX2_factOfSheet_174 ?_
      refine x_iconst (pc := 177) (3) dX2_factOfSheet_177 (by decide) ?_
      refine t_ild (pc := 178) 3 (cell_sets (by first | assumption | omega)) (stO_255 (by first | assumption | omega)) rfl (by decide) (by decide) dX2_factOfSheet_178 ?_
      rw [hR.sett _ (by decide)]
      exact x_iret rfl dX2_factOfSheet_179 ⟨rfl, rfl, rfl⟩
  · have ho := betw_out rfl (by decide) hw
    refine x_tableOut (pc := 1) 180 dX2_factOfSheet_1 ho (by decide) ?_
    refine x_bipush (pc := 180) (-2) dX2_factOfSheet_180 (by decide) ?_
    exact x_iret rfl dX2_factOfSheet_182 ⟨by (have n0 : ¬ w = 0 := ne_out (m := 0) (n := 16) (by decide) (by decide) ho; have n1 : ¬ w = 1 := ne_out (m := 1) (n := 16) (by decide) (by decide) ho; have n2 : ¬ w = 2 := ne_out (m := 2) (n := 16) (by decide) (by decide) ho; have n3 : ¬ w = 3 := ne_out (m := 3) (n := 16) (by decide) (by decide) ho; have n4 : ¬ w = 4 := ne_out (m := 4) (n := 16) (by decide) (by decide) ho; have n5 : ¬ w = 5 := ne_out (m := 5) (n := 16) (by decide) (by decide) ho; have n6 : ¬ w = 6 := ne_out (m := 6) (n := 16) (by decide) (by decide) ho; have n7 : ¬ w = 7 := ne_out (m := 7) (n := 16) (by decide) (by decide) ho; have n8 : ¬ w = 8 := ne_out (m := 8) (n := 16) (by decide) (by decide) ho; have n9 : ¬ w = 9 := ne_out (m := 9) (n := 16) (by decide) (by decide) ho; have n10 : ¬ w = 10 := ne_out (m := 10) (n := 16) (by decide) (by decide) ho; have n11 : ¬ w = 11 := ne_out (m := 11) (n := 16) (by decide) (by decide) ho; have n12 : ¬ w = 12 := ne_out (m := 12) (n := 16) (by decide) (by decide) ho; have n13 : ¬ w = 13 := ne_out (m := 13) (n := 16) (by decide) (by decide) ho; have n14 : ¬ w = 14 := ne_out (m := 14) (n := 16) (by decide) (by decide) ho; have n15 : ¬ w = 15 := ne_out (m := 15) (n := 16) (by decide) (by decide) ho; have n16 : ¬ w = 16 := ne_out (m := 16) (n := 16) (by decide) (by decide) ho; simp only [sheetX, if_false, n0, n1, n2, n3, n4, n5, n6, n7, n8, n9, n10, n11, n12, n13, n14, n15, n16]), rfl, rfl⟩
end SHEET3
