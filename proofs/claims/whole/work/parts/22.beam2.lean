/-! the class: ordered, allTakes, perform (rows laid by wip/whole/p22.py) -/
theorem dgV_c {L L' : Fs} {n : Nat} (h : ∀ p, p < n → L p = L' p) (p : Nat) : dgV L n p = dgV L' n p := by
  unfold dgV
  by_cases hp : p < n
  · rw [if_pos hp, if_pos hp, h p hp]
  · rw [if_neg hp, if_neg hp]
theorem rlB_c {L L' : Fs} {n : Nat} (h : ∀ p, p < n → L p = L' p) (p : Nat) (c : Int32) : rlB L n p c = rlB L' n p c := by
  unfold rlB
  by_cases hp : p < n
  · rw [h p hp]
  · rw [decide_eq_false hp, Bool.false_and, Bool.false_and]
theorem rnL_c {L L' : Fs} {n : Nat} (h : ∀ p, p < n → L p = L' p) (g : Int32) : ∀ f p v, rnL L n g f p v = rnL L' n g f p v
  | 0, _, _ => rfl
  | f + 1, p, v => by
    simp only [rnL, dgV_c h p, rnL_c h g f]
theorem rN_c {L L' : Fs} {n : Nat} (h : ∀ p, p < n → L p = L' p) (p : Nat) (lo g : Int32) : rN L n p lo g = rN L' n p lo g := by
  simp only [rN, rnX, dgV_c h, rnL_c h]
theorem rT_c {L L' : Fs} {n : Nat} (h : ∀ p, p < n → L p = L' p) (p : Nat) : rT L n p = rT L' n p := by
  simp only [rT, rlB_c h, rN_c h]
theorem plL_c {L L' : Fs} {n : Nat} (h : ∀ p, p < n → L p = L' p) : ∀ f p, plL L n f p = plL L' n f p
  | 0, _ => rfl
  | f + 1, p => by
    simp only [plL, rT_c h, plL_c h f]
    by_cases hp : n ≤ (rT L' n p).2.1
    · simp only [if_pos hp]
    · simp only [if_neg hp, h _ (Nat.not_le.mp hp)]
def exL : List Th → Ab → Nat → Option (Nat × Int32) × Ab
  | [], A, _ => (none, A)
  | t :: ts, A, i => if (thX A t).1 < 0 ∧ ¬ (thX A t).1 = -5 then (some (i, (thX A t).1), (thX A t).2) else exL ts (thX A t).2 (i + 1)
def plW (w : Wt) : Int32 × List Th := plL w.2.2.2.1.2 w.2.2.2.1.1 30 0
def perX (w : Wt) : Int32 × Wt := if (plW w).1 = -1 then (match (exL (plW w).2 w.1 0).1 with
    | none => recX w (nI (plW w).2.length, (exL (plW w).2 w.1 0).2)
    | some z => (-4, (w.1, w.2.1, w.2.2.1, w.2.2.2.1, some z))) else (-100 - (plW w).1, w)
theorem GC_2 {S : Nat → Sh} {B : Bc} {w : Wt} {σ : Sh} (hG : GC S B w) : GC (updS S 2 σ) B w := by
  obtain ⟨g1, g2, g3, g4, g5⟩ := hG
  refine ⟨?_, HR_S g2 (fun q hq => updS_ne S σ (by omega)), snR_k g3 (updS_ne S σ (show 3 ≠ 2 by decide)) rfl, g4, g5⟩
  rw [updS_ne S σ (show 0 ≠ 2 by decide)]
  exact g1
theorem GC_stp {S : Nat → Sh} {B : Bc} {w : Wt} {σ1 σ2 σ3 : Sh} (hG : GC S B w) (R3 : RC σ3 w.1) {i : Nat} {x : Int32} (hx : x < 0) : GC (updS (updS (updS S 1 σ1) 0 σ2) 0 σ3) (upd (upd B.1 2 (nI i)) 3 x, B.2) (w.1, w.2.1, w.2.2.1, w.2.2.2.1, some (i, x)) := by
  obtain ⟨g1, g2, g3, g4, g5⟩ := hG
  have hB : ∀ k, k < 2 → upd (upd B.1 2 (nI i)) 3 x k = B.1 k := fun k hk => (upd_ne _ x (by omega)).trans (upd_ne _ (nI i) (by omega))
  refine ⟨?_, HR_B (HR_S g2 (fun q hq => ?_)) (hB 0 (by decide)) rfl, snR_k g3 ?_ (hB 1 (by decide)), g4, ?_, ?_, hx⟩
  · rw [updS_same]; exact R3
  · rw [updS_ne _ σ3 (show q ≠ 0 by omega), updS_ne _ σ2 (show q ≠ 0 by omega), updS_ne _ σ1 (show q ≠ 1 by omega)]
  · rw [updS_ne _ σ3 (show 3 ≠ 0 by decide), updS_ne _ σ2 (show 3 ≠ 0 by decide), updS_ne _ σ1 (show 3 ≠ 1 by decide)]
  · exact (upd_ne (upd B.1 2 (nI i)) x (show 2 ≠ 3 by decide)).trans (upd_same B.1 2 (nI i))
  · exact upd_same (upd B.1 2 (nI i)) 3 x
theorem GC_pl {S : Nat → Sh} {B : Bc} {w : Wt} {PI K F Q : Fs} (hG : GC S B w) (h : PI 0 = nI w.2.2.2.1.1) : GC S (B.1, B.2.1, PI, B.2.2.2.1, K, F, Q) w := by
  obtain ⟨g1, g2, g3, g4, g5⟩ := hG
  exact ⟨g1, HR_B g2 rfl rfl, snR_k g3 rfl rfl, ⟨h, g4.2⟩, stR_k g5 rfl rfl⟩
section BEAM2
variable {G : GX} {S : Nat → Sh} {B : Bc} {M : Md} {j i : Nat} {σ : Sh}
variable {w : Wt} {A : Ab}
theorem nextX_lt {A : Ab} (h12 : A.1 ≤ 12) : ∀ q, (nextX A).1 = some q → q < 12 := by
  intro q h
  rcases hb : besO A A.1 with _ | r
  · by_cases h2 : fewV A A.1 = -5
    · rw [nextX_2 hb h2] at h; cases h
    · rcases hb3 : besO (coolA A (fewV A A.1)) A.1 with _ | r
      · rw [nextX_4 hb h2 hb3] at h; cases h
      · rw [nextX_3 hb h2 hb3] at h
        cases h
        have := besO_lt hb3
        omega
  · rw [nextX_1 hb] at h
    cases h
    have := besO_lt hb
    omega
theorem nextX_none {A : Ab} (h12 : A.1 ≤ 12) (h : oV (nextX A).1 = -5) : (nextX A).1 = none := oV_none (fun q hq => by have := nextX_lt h12 q hq; omega) h
theorem ordV_n {A : Ab} {k : Nat} (h : (nextX A).1 = none) : ordV A k = -5 := by
  cases k with
  | zero => simp only [ordV, h, oV]
  | succ k => simp only [ordV, h]
theorem ordV_s {A : Ab} {k q : Nat} (h : (nextX A).1 = some q) : ordV A (k + 1) = ordV (nextX A).2 k := by simp only [ordV, h]
theorem finA_n {A : Ab} {k : Nat} (h : (nextX A).1 = none) : finA A (k + 1) = (nextX A).2 := by simp only [finA, h]
theorem finA_s {A : Ab} {k q : Nat} (h : (nextX A).1 = some q) : finA A (k + 1) = finA (nextX A).2 k := by simp only [finA, h]
set_option maxHeartbeats 4000000 in
set_option maxRecDepth 100000 in
theorem lp_X3_ordered (hG : GC S B w) {m : Nat} (hm : m < 12) : ∀ d k (σ : Sh) (A : Ab) (x : Int32), k + d = m → RC σ A → XJ G YX3_ordered (fun _ => True) (Zx G (Re G (some (.int (ordV A d))) (fun a : (Nat → Sh) × Bc => a.1) (fun a => a.2) (fun _ => M) (fun a => GC a.1 a.2 w)) 0 0) 32 [(0, .ref (gB G + 0)), (1, .int (nI m)), (2, .int x), (3, .int (nI k))] [] 255 (cellOf G (updS S 2 σ) B M) 0 0 := by
  intro d
  induction d with
  | zero =>
    intro k σ A x hk hR
    have hk : k = m := hk
    subst hk
    refine x_iload_n (pc := 32) dX3_ordered_32 rfl ?_
    refine x_iload_n (pc := 33) dX3_ordered_33 rfl ?_
    refine x_cmpgt (pc := 34) 60 dX3_ordered_34 (by decide) (fun c34 => absurd c34 (Int32.lt_irrefl)) (fun c34 => ?_)
    refine x_aload_n (pc := 37) dX3_ordered_37 rfl ?_
    refine x_get (pc := 38) (ci := 3) (k := 2) (C := RX3) (T := TX3) (N := 10) cell_bc rfl (by decide) rfl nX3 (by decide) mF_X3_19 rfl dX3_ordered_38 ?_
    refine e_Vi (pc := 41) (c_X2_cutNext (j := 2) (by decide) hR) qV_X2_cutNext mL_X3_121 dX3_ordered_41 rfl (cell_sheet' (by first | assumption | omega)) (sB_255 (by first | assumption | omega)) rfl rfl rfl ⟨by decide, by decide⟩ (Nat.le_of_ble_eq_true rfl) (Nat.le_of_ble_eq_true rfl) (Nat.le_of_ble_eq_true rfl) ?_
    intro σ2 R2
    refine x_istore_n (pc := 44) dX3_ordered_44 (by decide) ?_
    refine x_iload_n (pc := 45) dX3_ordered_45 rfl ?_
    refine x_bipush (pc := 46) (-5) dX3_ordered_46 (by decide) ?_
    refine x_cmpne (pc := 48) 54 dX3_ordered_48 (by decide) (fun c48 => ?_) (fun c48 => ?_)
    · refine x_iinc (pc := 54) (nI (k + 1)) dX3_ordered_54 rfl (iinc_nI k) (by decide) ?_
      refine x_goto (pc := 57) 32 dX3_ordered_57 (by decide) ?_
      refine x_iload_n (pc := 32) dX3_ordered_32 rfl ?_
      refine x_iload_n (pc := 33) dX3_ordered_33 rfl ?_
      refine x_cmpgt (pc := 34) 60 dX3_ordered_34 (by decide) (fun c34 => ?_) (fun c34 => absurd ((nI_ltI (by omega) (by omega)).mpr (Nat.lt_succ_self k)) c34)
      refine x_iload_n (pc := 60) dX3_ordered_60 rfl ?_
      exact x_iret rfl dX3_ordered_61 ⟨(updS S 2 σ2, B), rfl, rfl, rfl, GC_2 hG⟩
    · refine x_bipush (pc := 51) (-5) dX3_ordered_51 (by decide) ?_
      have hn := nextX_none hR.le c48
      rw [ordV_n hn]
      exact x_iret rfl dX3_ordered_53 ⟨(updS S 2 σ2, B), rfl, rfl, rfl, GC_2 hG⟩
  | succ d ih =>
    intro k σ A x hk hR
    refine x_iload_n (pc := 32) dX3_ordered_32 rfl ?_
    refine x_iload_n (pc := 33) dX3_ordered_33 rfl ?_
    refine x_cmpgt (pc := 34) 60 dX3_ordered_34 (by decide) (fun c34 => absurd ((nI_ltI (by omega) (by omega)).mp c34) (by omega)) (fun c34 => ?_)
    refine x_aload_n (pc := 37) dX3_ordered_37 rfl ?_
    refine x_get (pc := 38) (ci := 3) (k := 2) (C := RX3) (T := TX3) (N := 10) cell_bc rfl (by decide) rfl nX3 (by decide) mF_X3_19 rfl dX3_ordered_38 ?_
    refine e_Vi (pc := 41) (c_X2_cutNext (j := 2) (by decide) hR) qV_X2_cutNext mL_X3_121 dX3_ordered_41 rfl (cell_sheet' (by first | assumption | omega)) (sB_255 (by first | assumption | omega)) rfl rfl rfl ⟨by decide, by decide⟩ (Nat.le_of_ble_eq_true rfl) (Nat.le_of_ble_eq_true rfl) (Nat.le_of_ble_eq_true rfl) ?_
    intro σ2 R2
    refine x_istore_n (pc := 44) dX3_ordered_44 (by decide) ?_
    refine x_iload_n (pc := 45) dX3_ordered_45 rfl ?_
    refine x_bipush (pc := 46) (-5) dX3_ordered_46 (by decide) ?_
    refine x_cmpne (pc := 48) 54 dX3_ordered_48 (by decide) (fun c48 => ?_) (fun c48 => ?_)
    · refine x_iinc (pc := 54) (nI (k + 1)) dX3_ordered_54 rfl (iinc_nI k) (by decide) ?_
      refine x_goto (pc := 57) 32 dX3_ordered_57 (by decide) ?_
      obtain ⟨q, hq⟩ := oV_some c48
      rw [ordV_s hq]
      exact x_back (ih (k + 1) σ2 _ _ (by omega) R2) ⟨rfl, rfl, rfl, rfl, trivial⟩
    · refine x_bipush (pc := 51) (-5) dX3_ordered_51 (by decide) ?_
      have hn := nextX_none hR.le c48
      rw [ordV_n hn]
      exact x_iret rfl dX3_ordered_53 ⟨(updS S 2 σ2, B), rfl, rfl, rfl, GC_2 hG⟩
set_option maxHeartbeats 4000000 in
set_option maxRecDepth 100000 in
theorem c_X3_ordered (hG : GC S B w) (v : Int32) : Ct G yX3_ordered YX3_ordered 0 0 [.ref (gB G + 0), .int v] 255 (cellOf G S B M) (Re G (some (.int (ordX w.1 v))) (fun a : (Nat → Sh) × Bc => a.1) (fun a => a.2) (fun _ => M) (fun a => GC a.1 a.2 w)) := by
  refine ct_of (by decide +kernel) rfl rfl (Nat.le_of_ble_eq_true rfl) (by simp [Value.category]) ?_
  refine x_sub (l' := [(0, .ref (gB G + 0)), (1, .int v)]) ⟨rfl, rfl, trivial⟩ ?_
  refine x_iload_n (pc := 0) dX3_ordered_0 rfl ?_
  refine x_ifge (pc := 1) 7 dX3_ordered_1 (by decide) (fun c1 => ?_) (fun c1 => ?_)
  · refine x_iload_n (pc := 7) dX3_ordered_7 rfl ?_
    refine x_bipush (pc := 8) (12) dX3_ordered_8 (by decide) ?_
    refine x_cmplt (pc := 10) 16 dX3_ordered_10 (by decide) (fun c10 => ?_) (fun c10 => ?_)
    · refine x_aload_n (pc := 16) dX3_ordered_16 rfl ?_
      refine x_get (pc := 17) (ci := 3) (k := 2) (C := RX3) (T := TX3) (N := 10) cell_bc rfl (by decide) rfl nX3 (by decide) mF_X3_19 rfl dX3_ordered_17 ?_
      refine x_aload_n (pc := 20) dX3_ordered_20 rfl ?_
      refine x_get (pc := 21) (ci := 3) (k := 0) (C := RX3) (T := TX3) (N := 10) cell_bc rfl (by decide) rfl nX3 (by decide) mF_X3_10 rfl dX3_ordered_21 ?_
      refine e_Vv (pc := 24) (g_copyFrom (j := 2) (j2 := 0) (by decide) (by decide) (by decide) hG.1) qV_X2_copyFrom mL_X3_50 dX3_ordered_24 rfl (cell_sheet' (by first | assumption | omega)) (sB_255 (by first | assumption | omega)) rfl rfl rfl ⟨by decide, by decide⟩ (Nat.le_of_ble_eq_true rfl) (Nat.le_of_ble_eq_true rfl) (Nat.le_of_ble_eq_true rfl) ?_
      intro σ1 R1
      refine x_bipush (pc := 27) (-5) dX3_ordered_27 (by decide) ?_
      refine x_istore_n (pc := 29) dX3_ordered_29 (by decide) ?_
      refine x_iconst (pc := 30) (0) dX3_ordered_30 (by decide) ?_
      refine x_istore_n (pc := 31) dX3_ordered_31 (by decide) ?_
      obtain ⟨m, hm, rfl⟩ := nI_of c1
      have h12 : m < 12 := (lt_lit (n := 12) rfl (by decide) hm).mp c10
      have e : ordX w.1 (nI m) = ordV w.1 m := by simp only [ordX, if_neg c1, if_pos c10, nI_clamp hm]
      rw [e]
      exact x_back (lp_X3_ordered hG h12 m 0 σ1 w.1 (-5) (Nat.zero_add m) R1) ⟨rfl, rfl, rfl, rfl, trivial⟩
    · refine x_bipush (pc := 13) (-5) dX3_ordered_13 (by decide) ?_
      have t := id (α := ¬ v < 12) c10
      exact x_iret rfl dX3_ordered_15 ⟨(S, B), by simp only [ordX, if_neg c1, if_neg t], rfl, rfl, hG⟩
  · refine x_bipush (pc := 4) (-2) dX3_ordered_4 (by decide) ?_
    have t := id (α := v < 0) c1
    exact x_iret rfl dX3_ordered_6 ⟨(S, B), by simp only [ordX, if_pos t], rfl, rfl, hG⟩
set_option maxHeartbeats 4000000 in
set_option maxRecDepth 100000 in
theorem tl_X3_allTakes (hG : GC S B w) (hR : RC σ (finA w.1 12)) (x : Int32) : XJ G YX3_allTakes (fun _ => True) (Zx G (Re G (some (.int (allX w.1))) (fun a : (Nat → Sh) × Bc => a.1) (fun a => a.2) (fun _ => M) (fun a => GC a.1 a.2 w)) 0 0) 40 [(0, .ref (gB G + 0)), (1, .int x)] [] 255 (cellOf G (updS S 2 σ) B M) 0 0 := by
  refine x_aload_n (pc := 40) dX3_allTakes_40 rfl ?_
  refine x_get (pc := 41) (ci := 3) (k := 2) (C := RX3) (T := TX3) (N := 10) cell_bc rfl (by decide) rfl nX3 (by decide) mF_X3_19 rfl dX3_allTakes_41 ?_
  refine x_iconst (pc := 44) (0) dX3_allTakes_44 (by decide) ?_
  refine t_Vi (pc := 45) (c_X2_shapesThatAre (j := 2) (by decide) hR _) qV_X2_shapesThatAre mL_X3_126 dX3_allTakes_45 rfl (cell_sheet' (by first | assumption | omega)) (sB_255 (by first | assumption | omega)) rfl rfl rfl ⟨by decide, by decide⟩ (Nat.le_of_ble_eq_true rfl) (Nat.le_of_ble_eq_true rfl) (Nat.le_of_ble_eq_true rfl) ?_
  refine x_ifne (pc := 48) 69 dX3_allTakes_48 (by decide) (fun c48 => ?_) (fun c48 => ?_)
  · refine x_bipush (pc := 69) (-5) dX3_allTakes_69 (by decide) ?_
    first
    | (have t := id (α := cntN (finA w.1 12).2.2.2.2 0 (finA w.1 12).1 = 0) c48; exact x_iret rfl dX3_allTakes_71 ⟨(updS S 2 σ, B), by simp only [allX, if_pos t], rfl, rfl, GC_2 hG⟩)
    | (have t := id (α := ¬ cntN (finA w.1 12).2.2.2.2 0 (finA w.1 12).1 = 0) c48; exact x_iret rfl dX3_allTakes_71 ⟨(updS S 2 σ, B), by simp only [allX, if_neg t], rfl, rfl, GC_2 hG⟩)
  · refine x_aload_n (pc := 51) dX3_allTakes_51 rfl ?_
    refine x_get (pc := 52) (ci := 3) (k := 2) (C := RX3) (T := TX3) (N := 10) cell_bc rfl (by decide) rfl nX3 (by decide) mF_X3_19 rfl dX3_allTakes_52 ?_
    refine x_get (pc := 55) (ci := 2) (k := 7) (C := RX2) (T := TX2) (N := 10) (cell_sheet' (by first | assumption | omega)) rfl (sB_255 (by first | assumption | omega)) rfl nX2 (by decide) mF_X3_129 rfl dX3_allTakes_55 ?_
    try dsimp only
    rw [updS_same, hR.int 4]
    refine x_aload_n (pc := 58) dX3_allTakes_58 rfl ?_
    refine x_get (pc := 59) (ci := 3) (k := 0) (C := RX3) (T := TX3) (N := 10) cell_bc rfl (by decide) rfl nX3 (by decide) mF_X3_10 rfl dX3_allTakes_59 ?_
    refine x_get (pc := 62) (ci := 2) (k := 7) (C := RX2) (T := TX2) (N := 10) (cell_sheet' (by first | assumption | omega)) rfl (sB_255 (by first | assumption | omega)) rfl nX2 (by decide) mF_X3_129 rfl dX3_allTakes_62 ?_
    try dsimp only
    rw [updS_ne _ _ (show 0 ≠ 2 by decide), hG.1.int 4]
    refine x_isub (pc := 65) dX3_allTakes_65 ?_
    refine x_goto (pc := 66) 71 dX3_allTakes_66 (by decide) ?_
    first
    | (have t := id (α := cntN (finA w.1 12).2.2.2.2 0 (finA w.1 12).1 = 0) c48; exact x_iret rfl dX3_allTakes_71 ⟨(updS S 2 σ, B), by simp only [allX, if_pos t], rfl, rfl, GC_2 hG⟩)
    | (have t := id (α := ¬ cntN (finA w.1 12).2.2.2.2 0 (finA w.1 12).1 = 0) c48; exact x_iret rfl dX3_allTakes_71 ⟨(updS S 2 σ, B), by simp only [allX, if_neg t], rfl, rfl, GC_2 hG⟩)
set_option maxHeartbeats 4000000 in
set_option maxRecDepth 100000 in
theorem lp_X3_allTakes (hG : GC S B w) : ∀ d k (σ : Sh) (A : Ab), k + d = 12 → RC σ A → finA A d = finA w.1 12 → XJ G YX3_allTakes (fun _ => True) (Zx G (Re G (some (.int (allX w.1))) (fun a : (Nat → Sh) × Bc => a.1) (fun a => a.2) (fun _ => M) (fun a => GC a.1 a.2 w)) 0 0) 13 [(0, .ref (gB G + 0)), (1, .int (nI k))] [] 255 (cellOf G (updS S 2 σ) B M) 0 0 := by
  intro d
  induction d with
  | zero =>
    intro k σ A hk hR hf
    have hf : A = finA w.1 12 := hf
    subst hf
    refine x_iload_n (pc := 13) dX3_allTakes_13 rfl ?_
    refine x_bipush (pc := 14) (12) dX3_allTakes_14 (by decide) ?_
    refine x_cmpge (pc := 16) 40 dX3_allTakes_16 (by decide) (fun c16 => ?_) (fun c16 => absurd ((lt_lit (n := 12) rfl (by decide) (by omega)).mp c16) (by omega))
    exact tl_X3_allTakes hG hR _
  | succ d ih =>
    intro k σ A hk hR hf
    refine x_iload_n (pc := 13) dX3_allTakes_13 rfl ?_
    refine x_bipush (pc := 14) (12) dX3_allTakes_14 (by decide) ?_
    refine x_cmpge (pc := 16) 40 dX3_allTakes_16 (by decide) (fun c16 => absurd ((lt_lit (n := 12) rfl (by decide) (by omega)).mpr (show k < 12 by omega)) c16) (fun c16 => ?_)
    refine x_aload_n (pc := 19) dX3_allTakes_19 rfl ?_
    refine x_get (pc := 20) (ci := 3) (k := 2) (C := RX3) (T := TX3) (N := 10) cell_bc rfl (by decide) rfl nX3 (by decide) mF_X3_19 rfl dX3_allTakes_20 ?_
    refine e_Vi (pc := 23) (c_X2_cutNext (j := 2) (by decide) hR) qV_X2_cutNext mL_X3_121 dX3_allTakes_23 rfl (cell_sheet' (by first | assumption | omega)) (sB_255 (by first | assumption | omega)) rfl rfl rfl ⟨by decide, by decide⟩ (Nat.le_of_ble_eq_true rfl) (Nat.le_of_ble_eq_true rfl) (Nat.le_of_ble_eq_true rfl) ?_
    intro σ2 R2
    refine x_bipush (pc := 26) (-5) dX3_allTakes_26 (by decide) ?_
    refine x_cmpne (pc := 28) 34 dX3_allTakes_28 (by decide) (fun c28 => ?_) (fun c28 => ?_)
    · refine x_iinc (pc := 34) (nI (k + 1)) dX3_allTakes_34 rfl (iinc_nI k) (by decide) ?_
      refine x_goto (pc := 37) 13 dX3_allTakes_37 (by decide) ?_
      obtain ⟨q, hq⟩ := oV_some c28
      rw [finA_s hq] at hf
      exact x_back (ih (k + 1) σ2 _ (by omega) R2 hf) ⟨rfl, rfl, trivial⟩
    · refine x_goto (pc := 31) 40 dX3_allTakes_31 (by decide) ?_
      have hn := nextX_none hR.le c28
      rw [finA_n hn] at hf
      rw [hf] at R2
      exact tl_X3_allTakes hG R2 _
set_option maxHeartbeats 4000000 in
set_option maxRecDepth 100000 in
theorem c_X3_allTakes (hG : GC S B w) : Ct G yX3_allTakes YX3_allTakes 0 0 [.ref (gB G + 0)] 255 (cellOf G S B M) (Re G (some (.int (allX w.1))) (fun a : (Nat → Sh) × Bc => a.1) (fun a => a.2) (fun _ => M) (fun a => GC a.1 a.2 w)) := by
  refine ct_of (by decide +kernel) rfl rfl (Nat.le_of_ble_eq_true rfl) (by simp [Value.category]) ?_
  refine x_sub (l' := [(0, .ref (gB G + 0))]) ⟨rfl, trivial⟩ ?_
  refine x_aload_n (pc := 0) dX3_allTakes_0 rfl ?_
  refine x_get (pc := 1) (ci := 3) (k := 2) (C := RX3) (T := TX3) (N := 10) cell_bc rfl (by decide) rfl nX3 (by decide) mF_X3_19 rfl dX3_allTakes_1 ?_
  refine x_aload_n (pc := 4) dX3_allTakes_4 rfl ?_
  refine x_get (pc := 5) (ci := 3) (k := 0) (C := RX3) (T := TX3) (N := 10) cell_bc rfl (by decide) rfl nX3 (by decide) mF_X3_10 rfl dX3_allTakes_5 ?_
  refine e_Vv (pc := 8) (g_copyFrom (j := 2) (j2 := 0) (by decide) (by decide) (by decide) hG.1) qV_X2_copyFrom mL_X3_50 dX3_allTakes_8 rfl (cell_sheet' (by first | assumption | omega)) (sB_255 (by first | assumption | omega)) rfl rfl rfl ⟨by decide, by decide⟩ (Nat.le_of_ble_eq_true rfl) (Nat.le_of_ble_eq_true rfl) (Nat.le_of_ble_eq_true rfl) ?_
  intro σ1 R1
  refine x_iconst (pc := 11) (0) dX3_allTakes_11 (by decide) ?_
  refine x_istore_n (pc := 12) dX3_allTakes_12 (by decide) ?_
  exact x_back (lp_X3_allTakes hG 12 0 σ1 w.1 rfl R1 rfl) ⟨rfl, rfl, trivial⟩
theorem perX_1 {w : Wt} {A : Ab} (h : (plW w).1 = -1) (he : exL (plW w).2 w.1 0 = (none, A)) : perX w = recX w (nI (plW w).2.length, A) := by simp only [perX, if_pos h, he]
theorem perX_2 {w : Wt} {A : Ab} {z : Nat × Int32} (h : (plW w).1 = -1) (he : exL (plW w).2 w.1 0 = (some z, A)) : perX w = (-4, (w.1, w.2.1, w.2.2.1, w.2.2.2.1, some z)) := by simp only [perX, if_pos h, he]
theorem perX_3 {w : Wt} (h : ¬ (plW w).1 = -1) : perX w = (-100 - (plW w).1, w) := by simp only [perX, if_neg h]
theorem exL_go {t : Th} {ts : List Th} {A : Ab} {i : Nat} (h : ¬ (thX A t).1 < 0 ∨ (thX A t).1 = -5) : exL (t :: ts) A i = exL ts (thX A t).2 (i + 1) := by
  rw [exL, if_neg]
  rintro ⟨h1, h2⟩
  rcases h with h | h
  · exact h h1
  · exact h2 h
theorem exL_st {t : Th} {ts : List Th} {A : Ab} {i : Nat} (h1 : (thX A t).1 < 0) (h2 : ¬ (thX A t).1 = -5) : exL (t :: ts) A i = (some (i, (thX A t).1), (thX A t).2) := by rw [exL, if_pos ⟨h1, h2⟩]
set_option maxHeartbeats 4000000 in
set_option maxRecDepth 100000 in
theorem lp_X3_perform {PI L K F Q : Fs} {σ1 : Sh} (hG : GC S (B.1, B.2.1, PI, L, K, F, Q) w) (R1 : RC σ1 w.1) (hp : (plW w).1 = -1) (hd : rdP PI K F Q (plW w).2) (hk : ∀ t, t ∈ (plW w).2 → kOK t) : ∀ (ts : List Th) i (σ : Sh) (A : Ab) (l : List (Nat × Value)) (x y : Int32), (∀ q, ts[q]? = (plW w).2[i + q]?) → i ≤ 30 → RC σ A → exL ts A i = exL (plW w).2 w.1 0 → XJ G YX3_perform (fun _ => True) (Zx G (Re G (some (.int (perX w).1)) (fun a : (Nat → Sh) × Bc => a.1) (fun a => a.2) (fun _ => M) (fun a => GC a.1 a.2 (perX w).2)) 0 0) 31 [(0, .ref (gB G + 0)), (1, .int x), (2, .int (nI i))] [] 255 (cellOf G (updS (updS S 1 σ1) 0 σ) (B.1, B.2.1, PI, L, K, F, Q) M) 0 0 := by
  obtain ⟨d1, d2, d3⟩ := hd
  intro ts
  induction ts with
  | nil =>
    intro i σ A l x y hi h30 hR he
    have hle : (plW w).2.length ≤ i := by
      have h0 := hi 0
      simp only [List.getElem?_nil, Nat.add_zero] at h0
      exact List.getElem?_eq_none_iff.mp h0.symm
    have hX := perX_1 hp (he.symm.trans rfl)
    rw [hX]
    have hH2 : HR (updS (updS S 1 σ1) 0 σ) (B.1, B.2.1, PI, L, K, F, Q) w.2.1 := HR_S hG.2.1 (fun q hq => by rw [updS_ne _ _ (by omega), updS_ne _ _ (by omega)])
    have hR1 : RC (updS (updS S 1 σ1) 0 σ 1) w.1 := by rw [updS_ne _ _ (by decide), updS_same]; exact R1
    refine x_iload_n (pc := 31) dX3_perform_31 rfl ?_
    refine x_aload_n (pc := 32) dX3_perform_32 rfl ?_
    refine x_get (pc := 33) (ci := 3) (k := 5) (C := RX3) (T := TX3) (N := 10) cell_bc rfl (by decide) rfl nX3 (by decide) mF_X3_32 rfl dX3_perform_33 ?_
    refine x_get (pc := 36) (ci := 0) (k := 5) (C := RX0) (T := TX0) (N := 7) cell_plan rfl (by decide) rfl nX0 (by decide) mF_X3_89 rfl dX3_perform_36 ?_
    try dsimp only
    rw [d1]
    refine x_cmpge (pc := 39) 95 dX3_perform_39 (by decide) (fun c39 => ?_) (fun c39 => absurd ((nI_ltI (by omega) (by omega)).mp c39) (by omega))
    refine x_aload_n (pc := 95) dX3_perform_95 rfl ?_
    refine x_aload_n (pc := 96) dX3_perform_96 rfl ?_
    refine x_get (pc := 97) (ci := 3) (k := 5) (C := RX3) (T := TX3) (N := 10) cell_bc rfl (by decide) rfl nX3 (by decide) mF_X3_32 rfl dX3_perform_97 ?_
    refine x_get (pc := 100) (ci := 0) (k := 5) (C := RX0) (T := TX0) (N := 7) cell_plan rfl (by decide) rfl nX0 (by decide) mF_X3_89 rfl dX3_perform_100 ?_
    try dsimp only
    rw [d1]
    refine e_Vi (pc := 103) (c_X3_recorded hH2 hR1 _) qV_X3_recorded mL_X3_58 dX3_perform_103 rfl cell_bc (by decide) rfl rfl rfl ⟨by decide, by decide⟩ (Nat.le_of_ble_eq_true rfl) (Nat.le_of_ble_eq_true rfl) (Nat.le_of_ble_eq_true rfl) ?_
    intro a ha
    exact x_iret rfl dX3_perform_106 ⟨a, rfl, rfl, rfl, GC_rec (σ1 := σ1) (r := (nI (plW w).2.length, A)) hG hR ha⟩
  | cons t ts ih =>
    intro i σ A l x y hi h30 hR he
    have ht : (plW w).2[i]? = some t := (hi 0).symm.trans rfl
    have hil := (List.getElem?_eq_some_iff.mp ht).1
    have htm : t ∈ (plW w).2 := List.mem_of_getElem? ht
    refine x_iload_n (pc := 31) dX3_perform_31 rfl ?_
    refine x_aload_n (pc := 32) dX3_perform_32 rfl ?_
    refine x_get (pc := 33) (ci := 3) (k := 5) (C := RX3) (T := TX3) (N := 10) cell_bc rfl (by decide) rfl nX3 (by decide) mF_X3_32 rfl dX3_perform_33 ?_
    refine x_get (pc := 36) (ci := 0) (k := 5) (C := RX0) (T := TX0) (N := 7) cell_plan rfl (by decide) rfl nX0 (by decide) mF_X3_89 rfl dX3_perform_36 ?_
    try dsimp only
    rw [d1]
    refine x_cmpge (pc := 39) 95 dX3_perform_39 (by decide) (fun c39 => absurd ((nI_ltI (by omega) (by omega)).mpr hil) c39) (fun c39 => ?_)
    refine x_aload_n (pc := 42) dX3_perform_42 rfl ?_
    refine x_get (pc := 43) (ci := 3) (k := 5) (C := RX3) (T := TX3) (N := 10) cell_bc rfl (by decide) rfl nX3 (by decide) mF_X3_32 rfl dX3_perform_43 ?_
    refine x_iload_n (pc := 46) dX3_perform_46 rfl ?_
    refine x_aload_n (pc := 47) dX3_perform_47 rfl ?_
    refine x_get (pc := 48) (ci := 3) (k := 0) (C := RX3) (T := TX3) (N := 10) cell_bc rfl (by decide) rfl nX3 (by decide) mF_X3_10 rfl dX3_perform_48 ?_
    refine e_Vi (pc := 51) (c_X0_doThing (S := updS S 1 σ1) (j := 0) (by decide) hR i (by omega) t (hk t htm) (d3 i t ht)) qV_X0_doThing mL_X3_92 dX3_perform_51 rfl cell_plan (by decide) rfl rfl rfl ⟨by decide, by decide⟩ (Nat.le_of_ble_eq_true rfl) (Nat.le_of_ble_eq_true rfl) (Nat.le_of_ble_eq_true rfl) ?_
    intro σ2 R2
    refine x_istore_n (pc := 54) dX3_perform_54 (by decide) ?_
    refine x_iload_n (pc := 55) dX3_perform_55 rfl ?_
    refine x_ifge (pc := 56) 89 dX3_perform_56 (by decide) (fun c56 => ?_) (fun c56 => ?_)
    · refine x_iinc (pc := 89) (nI (i + 1)) dX3_perform_89 rfl (iinc_nI i) (by decide) ?_
      refine x_goto (pc := 92) 31 dX3_perform_92 (by decide) ?_
      first
      | (have g := id (α := ¬ (thX A t).1 < 0) c56
         rw [exL_go (Or.inl g)] at he
         exact x_back (ih (i + 1) σ2 _ l x y (fun q => by have e := hi (q + 1); rw [show i + 1 + q = i + (q + 1) by omega]; exact e) (by omega) R2 he) ⟨rfl, rfl, rfl, trivial⟩)
      | (have g := id (α := (thX A t).1 = -5) c62
         rw [exL_go (Or.inr g)] at he
         exact x_back (ih (i + 1) σ2 _ l x y (fun q => by have e := hi (q + 1); rw [show i + 1 + q = i + (q + 1) by omega]; exact e) (by omega) R2 he) ⟨rfl, rfl, rfl, trivial⟩)
    · refine x_iload_n (pc := 59) dX3_perform_59 rfl ?_
      refine x_bipush (pc := 60) (-5) dX3_perform_60 (by decide) ?_
      refine x_cmpeq (pc := 62) 89 dX3_perform_62 (by decide) (fun c62 => ?_) (fun c62 => ?_)
      · refine x_iinc (pc := 89) (nI (i + 1)) dX3_perform_89 rfl (iinc_nI i) (by decide) ?_
        refine x_goto (pc := 92) 31 dX3_perform_92 (by decide) ?_
        first
        | (have g := id (α := ¬ (thX A t).1 < 0) c56
           rw [exL_go (Or.inl g)] at he
           exact x_back (ih (i + 1) σ2 _ l x y (fun q => by have e := hi (q + 1); rw [show i + 1 + q = i + (q + 1) by omega]; exact e) (by omega) R2 he) ⟨rfl, rfl, rfl, trivial⟩)
        | (have g := id (α := (thX A t).1 = -5) c62
           rw [exL_go (Or.inr g)] at he
           exact x_back (ih (i + 1) σ2 _ l x y (fun q => by have e := hi (q + 1); rw [show i + 1 + q = i + (q + 1) by omega]; exact e) (by omega) R2 he) ⟨rfl, rfl, rfl, trivial⟩)
      · refine x_aload_n (pc := 65) dX3_perform_65 rfl ?_
        refine x_iload_n (pc := 66) dX3_perform_66 rfl ?_
        refine t_putBc (pc := 67) 2 (by decide) rfl rfl mF_X3_44 dX3_perform_67 ?_
        try dsimp only
        refine x_aload_n (pc := 70) dX3_perform_70 rfl ?_
        refine x_iload_n (pc := 71) dX3_perform_71 rfl ?_
        refine t_putBc (pc := 72) 3 (by decide) rfl rfl mF_X3_47 dX3_perform_72 ?_
        try dsimp only
        refine x_aload_n (pc := 75) dX3_perform_75 rfl ?_
        refine x_get (pc := 76) (ci := 3) (k := 0) (C := RX3) (T := TX3) (N := 10) cell_bc rfl (by decide) rfl nX3 (by decide) mF_X3_10 rfl dX3_perform_76 ?_
        refine x_aload_n (pc := 79) dX3_perform_79 rfl ?_
        refine x_get (pc := 80) (ci := 3) (k := 1) (C := RX3) (T := TX3) (N := 10) cell_bc rfl (by decide) rfl nX3 (by decide) mF_X3_16 rfl dX3_perform_80 ?_
        refine e_Vv (pc := 83) (g_copyFrom (j := 0) (j2 := 1) (A := w.1) (by decide) (by decide) (by decide) (by rw [updS_ne _ _ (show 1 ≠ 0 by decide), updS_same]; exact R1)) qV_X2_copyFrom mL_X3_50 dX3_perform_83 rfl (cell_sheet' (by first | assumption | omega)) (sB_255 (by first | assumption | omega)) rfl rfl rfl ⟨by decide, by decide⟩ (Nat.le_of_ble_eq_true rfl) (Nat.le_of_ble_eq_true rfl) (Nat.le_of_ble_eq_true rfl) ?_
        intro σ3 R3
        refine x_bipush (pc := 86) (-4) dX3_perform_86 (by decide) ?_
        rw [exL_st c56 c62] at he
        rw [perX_2 hp he.symm]
        exact x_iret rfl dX3_perform_88 ⟨(_, _), rfl, rfl, rfl, GC_stp (σ1 := σ1) (σ2 := σ2) hG R3 c56⟩
set_option maxHeartbeats 4000000 in
set_option maxRecDepth 100000 in
theorem c_X3_perform (hG : GC S B w) : Ct G yX3_perform YX3_perform 0 0 [.ref (gB G + 0)] 255 (cellOf G S B M) (Re G (some (.int (perX w).1)) (fun a : (Nat → Sh) × Bc => a.1) (fun a => a.2) (fun _ => M) (fun a => GC a.1 a.2 (perX w).2)) := by
  refine ct_of (by decide +kernel) rfl rfl (Nat.le_of_ble_eq_true rfl) (by simp [Value.category]) ?_
  refine x_sub (l' := [(0, .ref (gB G + 0))]) ⟨rfl, trivial⟩ ?_
  have hX : plL B.2.2.2.1 w.2.2.2.1.1 30 0 = plW w := plL_c hG.2.2.2.1.2.2 30 0
  refine x_aload_n (pc := 0) dX3_perform_0 rfl ?_
  refine x_get (pc := 1) (ci := 3) (k := 5) (C := RX3) (T := TX3) (N := 10) cell_bc rfl (by decide) rfl nX3 (by decide) mF_X3_32 rfl dX3_perform_1 ?_
  refine e_Vi (pc := 4) (c_X0_read (B := B) (PI := B.2.2.1) (L := B.2.2.2.1) (K := B.2.2.2.2.1) (F := B.2.2.2.2.2.1) (Q := B.2.2.2.2.2.2) hG.2.2.2.1.1 hG.2.2.2.1.2.1) qV_X0_read mL_X3_86 dX3_perform_4 rfl cell_plan (by decide) rfl rfl rfl ⟨by decide, by decide⟩ (Nat.le_of_ble_eq_true rfl) (Nat.le_of_ble_eq_true rfl) (Nat.le_of_ble_eq_true rfl) ?_
  intro a ha
  obtain ⟨PI, K, F, Q⟩ := a
  dsimp only at ha ⊢
  rw [hX] at ha ⊢
  obtain ⟨ha0, ha1⟩ := ha
  have hG2 := GC_pl (K := K) (F := F) (Q := Q) hG ha0
  refine x_istore_n (pc := 7) dX3_perform_7 (by decide) ?_
  refine x_iload_n (pc := 8) dX3_perform_8 rfl ?_
  refine x_iconst (pc := 9) (-1) dX3_perform_9 (by decide) ?_
  refine x_cmpeq (pc := 10) 18 dX3_perform_10 (by decide) (fun c10 => ?_) (fun c10 => ?_)
  · refine x_aload_n (pc := 18) dX3_perform_18 rfl ?_
    refine x_get (pc := 19) (ci := 3) (k := 1) (C := RX3) (T := TX3) (N := 10) cell_bc rfl (by decide) rfl nX3 (by decide) mF_X3_16 rfl dX3_perform_19 ?_
    refine x_aload_n (pc := 22) dX3_perform_22 rfl ?_
    refine x_get (pc := 23) (ci := 3) (k := 0) (C := RX3) (T := TX3) (N := 10) cell_bc rfl (by decide) rfl nX3 (by decide) mF_X3_10 rfl dX3_perform_23 ?_
    refine e_Vv (pc := 26) (g_copyFrom (j := 1) (j2 := 0) (by decide) (by decide) (by decide) hG.1) qV_X2_copyFrom mL_X3_50 dX3_perform_26 rfl (cell_sheet' (by first | assumption | omega)) (sB_255 (by first | assumption | omega)) rfl rfl rfl ⟨by decide, by decide⟩ (Nat.le_of_ble_eq_true rfl) (Nat.le_of_ble_eq_true rfl) (Nat.le_of_ble_eq_true rfl) ?_
    intro σ1 R1
    refine x_iconst (pc := 29) (0) dX3_perform_29 (by decide) ?_
    refine x_istore_n (pc := 30) dX3_perform_30 (by decide) ?_
    have hk : ∀ t, t ∈ (plW w).2 → kOK t := fun t ht => plL_kind ht
    have hs : updS (updS S 1 σ1) 0 (S 0) = updS S 1 σ1 := by
      have := updS_self (updS S 1 σ1) 0
      rwa [updS_ne S σ1 (show 0 ≠ 1 by decide)] at this
    have e := lp_X3_perform (G := G) (M := M) hG2 R1 c10 (ha1 c10) hk (plW w).2 0 (S 0) w.1 [] (plW w).1 0 (fun q => by rw [Nat.zero_add]) (by decide) hG.1 rfl
    rw [hs] at e
    exact x_back e ⟨rfl, rfl, rfl, trivial⟩
  · refine x_bipush (pc := 13) (-100) dX3_perform_13 (by decide) ?_
    refine x_iload_n (pc := 15) dX3_perform_15 rfl ?_
    refine x_isub (pc := 16) dX3_perform_16 ?_
    rw [perX_3 c10]
    exact x_iret rfl dX3_perform_17 ⟨(S, (B.1, B.2.1, PI, B.2.2.2.1, K, F, Q)), rfl, rfl, rfl, hG2⟩
end BEAM2
