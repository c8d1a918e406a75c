/-! the class: ordered, allTakes, perform (rows laid by wip/whole/p22.py) -/
theorem GC_2 {S : Nat → Sh} {B : Bc} {w : Wt} {σ : Sh} (hG : GC S B w) : GC (updS S 2 σ) B w := by
  obtain ⟨g1, g2, g3, g4, g5⟩ := hG
  refine ⟨?_, HR_S g2 (fun q hq => updS_ne S σ (by omega)), snR_k g3 (updS_ne S σ (show 3 ≠ 2 by decide)) rfl, g4, g5⟩
  rw [updS_ne S σ (show 0 ≠ 2 by decide)]
  exact g1
section BEAM2
variable {G : GX} {S : Nat → Sh} {B : Bc} {M : Md} {j i : Nat} {σ : Sh}
variable {w : Wt} {A : Ab}
theorem nextX_lt {A : Ab} (h12 : A.1 ≤ 12) : ∀ q, (nextX A).1 = some q → q < 12 := by
  intro q h
  rcases hb : besO A A.1 with _ | r
  · by_cases h2 : fewV A A.1 = -5
    · rw [nextX_2 hb h2] at h; cases h
    · rcases hb3 : besO (coolA A (fewV A A.1)) A.1 with _ | r
      · rw [nextX_4 hb h2 hb3] at h; cases h
      · rw [nextX_3 hb h2 hb3] at h
        cases h
        have := besO_lt hb3
        omega
  · rw [nextX_1 hb] at h
    cases h
    have := besO_lt hb
    omega
theorem nextX_none {A : Ab} (h12 : A.1 ≤ 12) (h : oV (nextX A).1 = -5) : (nextX A).1 = none := oV_none (fun q hq => by have := nextX_lt h12 q hq; omega) h
theorem ordV_n {A : Ab} {k : Nat} (h : (nextX A).1 = none) : ordV A k = -5 := by
  cases k with
  | zero => simp only [ordV, h, oV]
  | succ k => simp only [ordV, h]
theorem ordV_s {A : Ab} {k q : Nat} (h : (nextX A).1 = some q) : ordV A (k + 1) = ordV (nextX A).2 k := by simp only [ordV, h]
theorem finA_n {A : Ab} {k : Nat} (h : (nextX A).1 = none) : finA A (k + 1) = (nextX A).2 := by simp only [finA, h]
theorem finA_s {A : Ab} {k q : Nat} (h : (nextX A).1 = some q) : finA A (k + 1) = finA (nextX A).2 k := by simp only [finA, h]
set_option maxHeartbeats 4000000 in
set_option maxRecDepth 100000 in
theorem lp_X3_ordered (hG : GC S B w) {m : Nat} (hm : m < 12) : ∀ d k (σ : Sh) (A : Ab) (x : Int32), k + d = m → RC σ A → XJ G YX3_ordered (fun _ => True) (Zx G (Re G (some (.int (ordV A d))) (fun a : (Nat → Sh) × Bc => a.1) (fun a => a.2) (fun _ => M) (fun a => GC a.1 a.2 w)) 0 0) 32 [(0, .ref (gB G + 0)), (1, .int (nI m)), (2, .int x), (3, .int (nI k))] [] (nN G) (cellOf G (updS S 2 σ) B M) 0 0 := by
  intro d
  induction d with
  | zero =>
    intro k σ A x hk hR
    have hk : k = m := hk
    subst hk
    refine x_iload_n (pc := 32) dX3_ordered_32 rfl ?_
    refine x_iload_n (pc := 33) dX3_ordered_33 rfl ?_
    refine x_cmpgt (pc := 34) 60 dX3_ordered_34 (by decide) (fun c34 => absurd c34 (Int32.lt_irrefl)) (fun c34 => ?_)
    refine x_aload_n (pc := 37) dX3_ordered_37 rfl ?_
    refine x_get (pc := 38) (ci := 3) (k := 2) (C := RX3) (T := TX3) (N := 10) cell_bc rfl (nN_lt (by decide)) rfl nX3 (by decide) mF_X3_19 rfl dX3_ordered_38 ?_
    refine e_Vi (pc := 41) (c_X2_cutNext (j := 2) (by decide) hR) qV_X2_cutNext mL_X3_121 dX3_ordered_41 rfl (cell_sheet' (by first | assumption | omega)) (sB_255 (by first | assumption | omega)) rfl rfl rfl ⟨by decide, by decide⟩ (Nat.le_of_ble_eq_true rfl) (Nat.le_of_ble_eq_true rfl) (Nat.le_of_ble_eq_true rfl) ?_
    intro σ2 R2
    refine x_istore_n (pc := 44) dX3_ordered_44 (by decide) ?_
    refine x_iload_n (pc := 45) dX3_ordered_45 rfl ?_
    refine x_bipush (pc := 46) (-5) dX3_ordered_46 (by decide) ?_
    refine x_cmpne (pc := 48) 54 dX3_ordered_48 (by decide) (fun c48 => ?_) (fun c48 => ?_)
    · refine x_iinc (pc := 54) (nI (k + 1)) dX3_ordered_54 rfl (iinc_nI k) (by decide) ?_
      refine x_goto (pc := 57) 32 dX3_ordered_57 (by decide) ?_
      refine x_iload_n (pc := 32) dX3_ordered_32 rfl ?_
      refine x_iload_n (pc := 33) dX3_ordered_33 rfl ?_
      refine x_cmpgt (pc := 34) 60 dX3_ordered_34 (by decide) (fun c34 => ?_) (fun c34 => absurd ((nI_ltI (by omega) (by omega)).mpr (Nat.lt_succ_self k)) c34)
      refine x_iload_n (pc := 60) dX3_ordered_60 rfl ?_
      exact x_iret rfl dX3_ordered_61 ⟨(updS S 2 σ2, B), rfl, rfl, rfl, GC_2 hG⟩
    · refine x_bipush (pc := 51) (-5) dX3_ordered_51 (by decide) ?_
      have hn := nextX_none hR.le c48
      rw [ordV_n hn]
      exact x_iret rfl dX3_ordered_53 ⟨(updS S 2 σ2, B), rfl, rfl, rfl, GC_2 hG⟩
  | succ d ih =>
    intro k σ A x hk hR
    refine x_iload_n (pc := 32) dX3_ordered_32 rfl ?_
    refine x_iload_n (pc := 33) dX3_ordered_33 rfl ?_
    refine x_cmpgt (pc := 34) 60 dX3_ordered_34 (by decide) (fun c34 => absurd ((nI_ltI (by omega) (by omega)).mp c34) (by omega)) (fun c34 => ?_)
    refine x_aload_n (pc := 37) dX3_ordered_37 rfl ?_
    refine x_get (pc := 38) (ci := 3) (k := 2) (C := RX3) (T := TX3) (N := 10) cell_bc rfl (nN_lt (by decide)) rfl nX3 (by decide) mF_X3_19 rfl dX3_ordered_38 ?_
    refine e_Vi (pc := 41) (c_X2_cutNext (j := 2) (by decide) hR) qV_X2_cutNext mL_X3_121 dX3_ordered_41 rfl (cell_sheet' (by first | assumption | omega)) (sB_255 (by first | assumption | omega)) rfl rfl rfl ⟨by decide, by decide⟩ (Nat.le_of_ble_eq_true rfl) (Nat.le_of_ble_eq_true rfl) (Nat.le_of_ble_eq_true rfl) ?_
    intro σ2 R2
    refine x_istore_n (pc := 44) dX3_ordered_44 (by decide) ?_
    refine x_iload_n (pc := 45) dX3_ordered_45 rfl ?_
    refine x_bipush (pc := 46) (-5) dX3_ordered_46 (by decide) ?_
    refine x_cmpne (pc := 48) 54 dX3_ordered_48 (by decide) (fun c48 => ?_) (fun c48 => ?_)
    · refine x_iinc (pc := 54) (nI (k + 1)) dX3_ordered_54 rfl (iinc_nI k) (by decide) ?_
      refine x_goto (pc := 57) 32 dX3_ordered_57 (by decide) ?_
      obtain ⟨q, hq⟩ := oV_some c48
      rw [ordV_s hq]
      exact x_back (ih (k + 1) σ2 _ _ (by omega) R2) ⟨rfl, rfl, rfl, rfl, trivial⟩
    · refine x_bipush (pc := 51) (-5) dX3_ordered_51 (by decide) ?_
      have hn := nextX_none hR.le c48
      rw [ordV_n hn]
      exact x_iret rfl dX3_ordered_53 ⟨(updS S 2 σ2, B), rfl, rfl, rfl, GC_2 hG⟩
set_option maxHeartbeats 4000000 in
set_option maxRecDepth 100000 in
theorem c_X3_ordered (hG : GC S B w) (v : Int32) : Ct G yX3_ordered YX3_ordered 0 0 [.ref (gB G + 0), .int v] (nN G) (cellOf G S B M) (Re G (some (.int (ordX w.1 v))) (fun a : (Nat → Sh) × Bc => a.1) (fun a => a.2) (fun _ => M) (fun a => GC a.1 a.2 w)) := by
  refine ct_of (by decide +kernel) rfl rfl (Nat.le_of_ble_eq_true rfl) (by simp [Value.category]) ?_
  refine x_sub (l' := [(0, .ref (gB G + 0)), (1, .int v)]) ⟨rfl, rfl, trivial⟩ ?_
  refine x_iload_n (pc := 0) dX3_ordered_0 rfl ?_
  refine x_ifge (pc := 1) 7 dX3_ordered_1 (by decide) (fun c1 => ?_) (fun c1 => ?_)
  · refine x_iload_n (pc := 7) dX3_ordered_7 rfl ?_
    refine x_bipush (pc := 8) (12) dX3_ordered_8 (by decide) ?_
    refine x_cmplt (pc := 10) 16 dX3_ordered_10 (by decide) (fun c10 => ?_) (fun c10 => ?_)
    · refine x_aload_n (pc := 16) dX3_ordered_16 rfl ?_
      refine x_get (pc := 17) (ci := 3) (k := 2) (C := RX3) (T := TX3) (N := 10) cell_bc rfl (nN_lt (by decide)) rfl nX3 (by decide) mF_X3_19 rfl dX3_ordered_17 ?_
      refine x_aload_n (pc := 20) dX3_ordered_20 rfl ?_
      refine x_get (pc := 21) (ci := 3) (k := 0) (C := RX3) (T := TX3) (N := 10) cell_bc rfl (nN_lt (by decide)) rfl nX3 (by decide) mF_X3_10 rfl dX3_ordered_21 ?_
      refine e_Vv (pc := 24) (g_copyFrom (j := 2) (j2 := 0) (by decide) (by decide) (by decide) hG.1) qV_X2_copyFrom mL_X3_50 dX3_ordered_24 rfl (cell_sheet' (by first | assumption | omega)) (sB_255 (by first | assumption | omega)) rfl rfl rfl ⟨by decide, by decide⟩ (Nat.le_of_ble_eq_true rfl) (Nat.le_of_ble_eq_true rfl) (Nat.le_of_ble_eq_true rfl) ?_
      intro σ1 R1
      refine x_bipush (pc := 27) (-5) dX3_ordered_27 (by decide) ?_
      refine x_istore_n (pc := 29) dX3_ordered_29 (by decide) ?_
      refine x_iconst (pc := 30) (0) dX3_ordered_30 (by decide) ?_
      refine x_istore_n (pc := 31) dX3_ordered_31 (by decide) ?_
      obtain ⟨m, hm, rfl⟩ := nI_of c1
      have h12 : m < 12 := (lt_lit (n := 12) rfl (by decide) hm).mp c10
      have e : ordX w.1 (nI m) = ordV w.1 m := by simp only [ordX, if_neg c1, if_pos c10, nI_clamp hm]
      rw [e]
      exact x_back (lp_X3_ordered hG h12 m 0 σ1 w.1 (-5) (Nat.zero_add m) R1) ⟨rfl, rfl, rfl, rfl, trivial⟩
    · refine x_bipush (pc := 13) (-5) dX3_ordered_13 (by decide) ?_
      have t := id (α := ¬ v < 12) c10
      exact x_iret rfl dX3_ordered_15 ⟨(S, B), by simp only [ordX, if_neg c1, if_neg t], rfl, rfl, hG⟩
  · refine x_bipush (pc := 4) (-2) dX3_ordered_4 (by decide) ?_
    have t := id (α := v < 0) c1
    exact x_iret rfl dX3_ordered_6 ⟨(S, B), by simp only [ordX, if_pos t], rfl, rfl, hG⟩
set_option maxHeartbeats 4000000 in
set_option maxRecDepth 100000 in
theorem tl_X3_allTakes (hG : GC S B w) (hR : RC σ (finA w.1 12)) (x : Int32) : XJ G YX3_allTakes (fun _ => True) (Zx G (Re G (some (.int (allX w.1))) (fun a : (Nat → Sh) × Bc => a.1) (fun a => a.2) (fun _ => M) (fun a => GC a.1 a.2 w)) 0 0) 40 [(0, .ref (gB G + 0)), (1, .int x)] [] (nN G) (cellOf G (updS S 2 σ) B M) 0 0 := by
  refine x_aload_n (pc := 40) dX3_allTakes_40 rfl ?_
  refine x_get (pc := 41) (ci := 3) (k := 2) (C := RX3) (T := TX3) (N := 10) cell_bc rfl (nN_lt (by decide)) rfl nX3 (by decide) mF_X3_19 rfl dX3_allTakes_41 ?_
  refine x_iconst (pc := 44) (0) dX3_allTakes_44 (by decide) ?_
  refine t_Vi (pc := 45) (c_X2_shapesThatAre (j := 2) (by decide) hR _) qV_X2_shapesThatAre mL_X3_126 dX3_allTakes_45 rfl (cell_sheet' (by first | assumption | omega)) (sB_255 (by first | assumption | omega)) rfl rfl rfl ⟨by decide, by decide⟩ (Nat.le_of_ble_eq_true rfl) (Nat.le_of_ble_eq_true rfl) (Nat.le_of_ble_eq_true rfl) ?_
  refine x_ifne (pc := 48) 69 dX3_allTakes_48 (by decide) (fun c48 => ?_) (fun c48 => ?_)
  · refine x_bipush (pc := 69) (-5) dX3_allTakes_69 (by decide) ?_
    first
    | (have t := id (α := cntN (finA w.1 12).2.2.2.2 0 (finA w.1 12).1 = 0) c48; exact x_iret rfl dX3_allTakes_71 ⟨(updS S 2 σ, B), by simp only [allX, if_pos t], rfl, rfl, GC_2 hG⟩)
    | (have t := id (α := ¬ cntN (finA w.1 12).2.2.2.2 0 (finA w.1 12).1 = 0) c48; exact x_iret rfl dX3_allTakes_71 ⟨(updS S 2 σ, B), by simp only [allX, if_neg t], rfl, rfl, GC_2 hG⟩)
  · refine x_aload_n (pc := 51) dX3_allTakes_51 rfl ?_
    refine x_get (pc := 52) (ci := 3) (k := 2) (C := RX3) (T := TX3) (N := 10) cell_bc rfl (nN_lt (by decide)) rfl nX3 (by decide) mF_X3_19 rfl dX3_allTakes_52 ?_
    refine x_get (pc := 55) (ci := 2) (k := 7) (C := RX2) (T := TX2) (N := 10) (cell_sheet' (by first | assumption | omega)) rfl (sB_255 (by first | assumption | omega)) rfl nX2 (by decide) mF_X3_129 rfl dX3_allTakes_55 ?_
    try dsimp only
    rw [updS_same, hR.int 4]
    refine x_aload_n (pc := 58) dX3_allTakes_58 rfl ?_
    refine x_get (pc := 59) (ci := 3) (k := 0) (C := RX3) (T := TX3) (N := 10) cell_bc rfl (nN_lt (by decide)) rfl nX3 (by decide) mF_X3_10 rfl dX3_allTakes_59 ?_
    refine x_get (pc := 62) (ci := 2) (k := 7) (C := RX2) (T := TX2) (N := 10) (cell_sheet' (by first | assumption | omega)) rfl (sB_255 (by first | assumption | omega)) rfl nX2 (by decide) mF_X3_129 rfl dX3_allTakes_62 ?_
    try dsimp only
    rw [updS_ne _ _ (show 0 ≠ 2 by decide), hG.1.int 4]
    refine x_isub (pc := 65) dX3_allTakes_65 ?_
    refine x_goto (pc := 66) 71 dX3_allTakes_66 (by decide) ?_
    first
    | (have t := id (α := cntN (finA w.1 12).2.2.2.2 0 (finA w.1 12).1 = 0) c48; exact x_iret rfl dX3_allTakes_71 ⟨(updS S 2 σ, B), by simp only [allX, if_pos t], rfl, rfl, GC_2 hG⟩)
    | (have t := id (α := ¬ cntN (finA w.1 12).2.2.2.2 0 (finA w.1 12).1 = 0) c48; exact x_iret rfl dX3_allTakes_71 ⟨(updS S 2 σ, B), by simp only [allX, if_neg t], rfl, rfl, GC_2 hG⟩)
set_option maxHeartbeats 4000000 in
set_option maxRecDepth 100000 in
theorem lp_X3_allTakes (hG : GC S B w) : ∀ d k (σ : Sh) (A : Ab), k + d = 12 → RC σ A → finA A d = finA w.1 12 → XJ G YX3_allTakes (fun _ => True) (Zx G (Re G (some (.int (allX w.1))) (fun a : (Nat → Sh) × Bc => a.1) (fun a => a.2) (fun _ => M) (fun a => GC a.1 a.2 w)) 0 0) 13 [(0, .ref (gB G + 0)), (1, .int (nI k))] [] (nN G) (cellOf G (updS S 2 σ) B M) 0 0 := by
  intro d
  induction d with
  | zero =>
    intro k σ A hk hR hf
    have hf : A = finA w.1 12 := hf
    subst hf
    refine x_iload_n (pc := 13) dX3_allTakes_13 rfl ?_
    refine x_bipush (pc := 14) (12) dX3_allTakes_14 (by decide) ?_
    refine x_cmpge (pc := 16) 40 dX3_allTakes_16 (by decide) (fun c16 => ?_) (fun c16 => absurd ((lt_lit (n := 12) rfl (by decide) (by omega)).mp c16) (by omega))
    exact tl_X3_allTakes hG hR _
  | succ d ih =>
    intro k σ A hk hR hf
    refine x_iload_n (pc := 13) dX3_allTakes_13 rfl ?_
    refine x_bipush (pc := 14) (12) dX3_allTakes_14 (by decide) ?_
    refine x_cmpge (pc := 16) 40 dX3_allTakes_16 (by decide) (fun c16 => absurd ((lt_lit (n := 12) rfl (by decide) (by omega)).mpr (show k < 12 by omega)) c16) (fun c16 => ?_)
    refine x_aload_n (pc := 19) dX3_allTakes_19 rfl ?_
    refine x_get (pc := 20) (ci := 3) (k := 2) (C := RX3) (T := TX3) (N := 10) cell_bc rfl (nN_lt (by decide)) rfl nX3 (by decide) mF_X3_19 rfl dX3_allTakes_20 ?_
    refine e_Vi (pc := 23) (c_X2_cutNext (j := 2) (by decide) hR) qV_X2_cutNext mL_X3_121 dX3_allTakes_23 rfl (cell_sheet' (by first | assumption | omega)) (sB_255 (by first | assumption | omega)) rfl rfl rfl ⟨by decide, by decide⟩ (Nat.le_of_ble_eq_true rfl) (Nat.le_of_ble_eq_true rfl) (Nat.le_of_ble_eq_true rfl) ?_
    intro σ2 R2
    refine x_bipush (pc := 26) (-5) dX3_allTakes_26 (by decide) ?_
    refine x_cmpne (pc := 28) 34 dX3_allTakes_28 (by decide) (fun c28 => ?_) (fun c28 => ?_)
    · refine x_iinc (pc := 34) (nI (k + 1)) dX3_allTakes_34 rfl (iinc_nI k) (by decide) ?_
      refine x_goto (pc := 37) 13 dX3_allTakes_37 (by decide) ?_
      obtain ⟨q, hq⟩ := oV_some c28
      rw [finA_s hq] at hf
      exact x_back (ih (k + 1) σ2 _ (by omega) R2 hf) ⟨rfl, rfl, trivial⟩
    · refine x_goto (pc := 31) 40 dX3_allTakes_31 (by decide) ?_
      have hn := nextX_none hR.le c28
      rw [finA_n hn] at hf
      rw [hf] at R2
      exact tl_X3_allTakes hG R2 _
set_option maxHeartbeats 4000000 in
set_option maxRecDepth 100000 in
theorem c_X3_allTakes (hG : GC S B w) : Ct G yX3_allTakes YX3_allTakes 0 0 [.ref (gB G + 0)] (nN G) (cellOf G S B M) (Re G (some (.int (allX w.1))) (fun a : (Nat → Sh) × Bc => a.1) (fun a => a.2) (fun _ => M) (fun a => GC a.1 a.2 w)) := by
  refine ct_of (by decide +kernel) rfl rfl (Nat.le_of_ble_eq_true rfl) (by simp [Value.category]) ?_
  refine x_sub (l' := [(0, .ref (gB G + 0))]) ⟨rfl, trivial⟩ ?_
  refine x_aload_n (pc := 0) dX3_allTakes_0 rfl ?_
  refine x_get (pc := 1) (ci := 3) (k := 2) (C := RX3) (T := TX3) (N := 10) cell_bc rfl (nN_lt (by decide)) rfl nX3 (by decide) mF_X3_19 rfl dX3_allTakes_1 ?_
  refine x_aload_n (pc := 4) dX3_allTakes_4 rfl ?_
  refine x_get (pc := 5) (ci := 3) (k := 0) (C := RX3) (T := TX3) (N := 10) cell_bc rfl (nN_lt (by decide)) rfl nX3 (by decide) mF_X3_10 rfl dX3_allTakes_5 ?_
  refine e_Vv (pc := 8) (g_copyFrom (j := 2) (j2 := 0) (by decide) (by decide) (by decide) hG.1) qV_X2_copyFrom mL_X3_50 dX3_allTakes_8 rfl (cell_sheet' (by first | assumption | omega)) (sB_255 (by first | assumption | omega)) rfl rfl rfl ⟨by decide, by decide⟩ (Nat.le_of_ble_eq_true rfl) (Nat.le_of_ble_eq_true rfl) (Nat.le_of_ble_eq_true rfl) ?_
  intro σ1 R1
  refine x_iconst (pc := 11) (0) dX3_allTakes_11 (by decide) ?_
  refine x_istore_n (pc := 12) dX3_allTakes_12 (by decide) ?_
  exact x_back (lp_X3_allTakes hG 12 0 σ1 w.1 rfl R1 rfl) ⟨rfl, rfl, trivial⟩
end BEAM2
