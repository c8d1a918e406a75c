/-! the reference: the order, perform (rows laid by wip/whole/p35.py) -/
section ORD
variable {A K : Ab} {k : Nat}
theorem fin_none (hV : VA K) (hk : k ≤ 12) (hc : k ≤ ncN K.2.2.2.2 K.1) (hn : (nextX K).1 = none) : finA K (12 - k) = (nextX K).2 := by
  rcases (show k = 12 ∨ k < 12 by omega) with rfl | h
  · have hle := ncN_le K.2.2.2.2 K.1
    have h12 := hV.le
    obtain ⟨e1, e2⟩ := bes_none hV (fun q hq => ncN_all K.1 (by omega) q hq)
    rw [nextX_2 e1 e2]
    rfl
  · rw [show 12 - k = (12 - k - 1) + 1 by omega, finA_n hn]
theorem fin_some (hV : VA K) (hc : k ≤ ncN K.2.2.2.2 K.1) {q : Nat} (hn : (nextX K).1 = some q) : k < 12 ∧ k + 1 ≤ ncN (nextX K).2.2.2.2.2 (nextX K).2.1 ∧ finA K (12 - k) = finA (nextX K).2 (12 - (k + 1)) := by
  have h1 := next_nc hV hn
  have h2 := ncN_le (nextX K).2.2.2.2.2 (nextX K).2.1
  have h3 := (VA_nextX hV).le
  have hk : k < 12 := by omega
  refine ⟨hk, by omega, ?_⟩
  rw [show 12 - k = (12 - (k + 1)) + 1 by omega, finA_s hn]
theorem ord_none (h : ∀ r, ordV A (k + r) = ordV K r) (hn : (nextX K).1 = none) : ∀ r, k ≤ r → ordV A r = -5 := by
  intro r hr
  have := h (r - k)
  rw [show k + (r - k) = r by omega, ordV_n hn] at this
  exact this
theorem ord_some (h : ∀ r, ordV A (k + r) = ordV K r) {q : Nat} (hn : (nextX K).1 = some q) : ordV A k = nI q ∧ ∀ r, ordV A (k + 1 + r) = ordV (nextX K).2 r := by
  refine ⟨?_, fun r => ?_⟩
  · have := h 0
    rw [Nat.add_zero] at this
    rw [this]
    simp only [ordV, hn, oV]
  · have := h (r + 1)
    rw [ordV_s hn] at this
    rw [← this]
    congr 1
    omega
theorem RM_c0 {s : Fs} (h : RM s (coolA K 0)) (hV : VA K) : RM s K :=
  RM_v h rfl (fun q h1 h2 => by
    by_cases e : q = 4
    · subst e
      show K.2.1 4 = upd K.2.1 4 (K.2.1 4 + 0) 4
      rw [upd_same, Int32.add_zero]
    · show K.2.1 q = upd K.2.1 4 (K.2.1 4 + 0) q
      rw [upd_ne _ _ e]) (fun q hq => (cool_0 hV hq).symm) (fun _ _ => rfl) (fun _ _ _ _ => rfl)
end ORD
def odR (N N' od' : Fs) (A : Ab) (s' : Fs) : Prop := (∀ k, k < 18 → N' k = N k) ∧ RM s' A ∧ (∃ m, m ≤ 12 ∧ N' 18 = nI m ∧ (∀ k, k < m → od' k = ordV A k) ∧ ∀ k, m ≤ k → ordV A k = -5) ∧ N' 20 = b01 (decide (cntN (finA A 12).2.2.2.2 0 (finA A 12).1 = 0)) ∧ N' 19 = (finA A 12).2.1 4 - A.2.1 4
theorem plL_len (L : Fs) (n : Nat) : ∀ f p, (plL L n f p).2.length ≤ f
  | 0, _ => Nat.le_refl 0
  | f + 1, p => by
    have ih := plL_len L n f ((rT L n p).2.1 + 1)
    rw [plL]
    split
    · split
      · exact Nat.succ_le_succ (Nat.zero_le f)
      · split
        · exact Nat.succ_le_succ ih
        · exact Nat.succ_le_succ (Nat.zero_le f)
    · exact Nat.zero_le _
section MORD
variable {G : GX} {S : Nat → Sh} {B : Bc} {N s sd ah sn be tx od : Fs} {w : Wt}
variable {A K : Ab} {k : Nat}
set_option maxHeartbeats 4000000 in
set_option maxRecDepth 100000 in
theorem tlE_X4_layOrder {Nc u oc : Fs} (hMA : RM s A) (hR : RM u (finA A 12)) (hf : ∀ k, k < 18 → Nc k = N k) (hm : ∃ m, m ≤ 12 ∧ Nc 18 = nI m ∧ (∀ k, k < m → oc k = ordV A k) ∧ ∀ k, m ≤ k → ordV A k = -5) : XJ G YX4_layOrder (fun _ => True) (Zx G (Re G none (fun _ : Fs × Fs × Fs × Fs => S) (fun _ => B) (fun a => (a.1, a.2.1, a.2.2.1, ah, sn, be, tx, a.2.2.2)) (fun a => odR N a.1 a.2.2.2 A a.2.1)) 0 0) 111 [(0, .ref (gB G + 247)), (1, .int (A.2.1 4))] [] 255 (cellOf G S B (Nc, u, cpF sd s 119, ah, sn, be, tx, oc)) 0 0 := by
  have hM := hR
  refine x_aload_n (pc := 111) dX4_layOrder_111 rfl ?_
  refine x_aload_n (pc := 112) dX4_layOrder_112 rfl ?_
  refine x_get (pc := 113) (ci := 4) (k := 0) (C := RX4) (T := TX4) (N := 21) cell_model rfl (by decide) rfl nX4 (by decide) mF_X4_7 rfl dX4_layOrder_113 ?_
  refine x_iconst (pc := 116) (4) dX4_layOrder_116 (by decide) ?_
  refine t_ild (pc := 117) 4 cell_s (by decide) rfl (by decide) (by decide) dX4_layOrder_117 ?_
  try dsimp only
  rw [hM.int 4]
  refine x_iload_n (pc := 118) dX4_layOrder_118 rfl ?_
  refine x_isub (pc := 119) dX4_layOrder_119 ?_
  refine t_putM (pc := 120) 19 (by unfold isMF; decide) rfl rfl mF_X4_214 dX4_layOrder_120 ?_
  try dsimp only
  refine x_aload_n (pc := 123) dX4_layOrder_123 rfl ?_
  refine x_aload_n (pc := 124) dX4_layOrder_124 rfl ?_
  refine x_iconst (pc := 125) (0) dX4_layOrder_125 (by decide) ?_
  refine t_Vi (pc := 126) (c_X4_many hM _) qV_X4_many mL_X4_217 dX4_layOrder_126 rfl cell_model (by decide) rfl rfl rfl ⟨by decide, by decide⟩ (Nat.le_of_ble_eq_true rfl) (Nat.le_of_ble_eq_true rfl) (Nat.le_of_ble_eq_true rfl) ?_
  refine x_ifne (pc := 129) 136 dX4_layOrder_129 (by decide) (fun c129 => ?_) (fun c129 => ?_)
  · refine x_iconst (pc := 136) (0) dX4_layOrder_136 (by decide) ?_
    refine t_putM (pc := 137) 20 (by unfold isMF; decide) rfl rfl mF_X4_220 dX4_layOrder_137 ?_
    try dsimp only
    refine x_aload_n (pc := 140) dX4_layOrder_140 rfl ?_
    refine t_Vv (pc := 141) (c_X4_putBack) qV_X4_putBack mL_X4_223 dX4_layOrder_141 rfl cell_model (by decide) rfl rfl rfl ⟨by decide, by decide⟩ (Nat.le_of_ble_eq_true rfl) (Nat.le_of_ble_eq_true rfl) (Nat.le_of_ble_eq_true rfl) ?_
    have ed : decide (cntN (finA A 12).2.2.2.2 0 (finA A 12).1 = 0) = false := decide_eq_false c129
    exact x_vret rfl dX4_layOrder_144 ⟨(upd (upd Nc 19 ((finA A 12).2.1 4 - A.2.1 4)) 20 0, cpF u (cpF sd s 119) 119, cpF sd s 119, oc), rfl, rfl, rfl, fun q hq => by show (upd (upd Nc 19 ((finA A 12).2.1 4 - A.2.1 4)) 20 0) q = N q; rw [upd_ne _ _ (by omega), upd_ne _ _ (by omega)]; exact hf q hq, RM_c hMA (fun q hq => (cpF_in u _ hq).trans (cpF_in sd s hq)), hm, by rw [ed]; rfl, rfl⟩
  · refine x_iconst (pc := 132) (1) dX4_layOrder_132 (by decide) ?_
    refine x_goto (pc := 133) 137 dX4_layOrder_133 (by decide) ?_
    refine t_putM (pc := 137) 20 (by unfold isMF; decide) rfl rfl mF_X4_220 dX4_layOrder_137 ?_
    try dsimp only
    refine x_aload_n (pc := 140) dX4_layOrder_140 rfl ?_
    refine t_Vv (pc := 141) (c_X4_putBack) qV_X4_putBack mL_X4_223 dX4_layOrder_141 rfl cell_model (by decide) rfl rfl rfl ⟨by decide, by decide⟩ (Nat.le_of_ble_eq_true rfl) (Nat.le_of_ble_eq_true rfl) (Nat.le_of_ble_eq_true rfl) ?_
    have ed : decide (cntN (finA A 12).2.2.2.2 0 (finA A 12).1 = 0) = true := decide_eq_true c129
    exact x_vret rfl dX4_layOrder_144 ⟨(upd (upd Nc 19 ((finA A 12).2.1 4 - A.2.1 4)) 20 1, cpF u (cpF sd s 119) 119, cpF sd s 119, oc), rfl, rfl, rfl, fun q hq => by show (upd (upd Nc 19 ((finA A 12).2.1 4 - A.2.1 4)) 20 1) q = N q; rw [upd_ne _ _ (by omega), upd_ne _ _ (by omega)]; exact hf q hq, RM_c hMA (fun q hq => (cpF_in u _ hq).trans (cpF_in sd s hq)), hm, by rw [ed]; rfl, rfl⟩
set_option maxHeartbeats 4000000 in
set_option maxRecDepth 100000 in
theorem tlS_X4_layOrder {Nc u oc : Fs} {A1 : Ab} {q : Nat} (hf : ∀ k, k < 18 → Nc k = N k) (hV : VA K) (hc : k ≤ ncN K.2.2.2.2 K.1) (h18 : Nc 18 = nI k) (ho : ∀ q, q < k → oc q = ordV A q) (hr : ∀ r, ordV A (k + r) = ordV K r) (he : finA K (12 - k) = finA A 12) (ih : (∀ (Nc u oc : Fs) (K : Ab), (∀ k, k < 18 → Nc k = N k) → RM u K → VA K → k + 1 ≤ ncN K.2.2.2.2 K.1 → Nc 18 = nI (k + 1) → (∀ q, q < k + 1 → oc q = ordV A q) → (∀ r, ordV A (k + 1 + r) = ordV K r) → finA K (12 - (k + 1)) = finA A 12 → XJ G YX4_layOrder (fun _ => True) (Zx G (Re G none (fun _ : Fs × Fs × Fs × Fs => S) (fun _ => B) (fun a => (a.1, a.2.1, a.2.2.1, ah, sn, be, tx, a.2.2.2)) (fun a => odR N a.1 a.2.2.2 A a.2.1)) 0 0) 18 [(0, .ref (gB G + 247)), (1, .int (A.2.1 4)), (2, .int 1)] [] 255 (cellOf G S B (Nc, u, cpF sd s 119, ah, sn, be, tx, oc)) 0 0)) (hR : RM u A1) (hV1 : VA A1) (hq : q < A1.1) (hw : whyV A1 q = 0) (hn : nextX K = (some q, cutA A1 q)) : XJ G YX4_layOrder (fun _ => True) (Zx G (Re G none (fun _ : Fs × Fs × Fs × Fs => S) (fun _ => B) (fun a => (a.1, a.2.1, a.2.2.1, ah, sn, be, tx, a.2.2.2)) (fun a => odR N a.1 a.2.2.2 A a.2.1)) 0 0) 65 [(0, .ref (gB G + 247)), (1, .int (A.2.1 4)), (3, .int (nI q))] [] 255 (cellOf G S B (Nc, u, cpF sd s 119, ah, sn, be, tx, oc)) 0 0 := by
  have hn1 : (nextX K).1 = some q := by rw [hn]
  have hn2 : (nextX K).2 = cutA A1 q := by rw [hn]
  obtain ⟨hk, hc2, he2⟩ := fin_some hV hc hn1
  obtain ⟨o1, o2⟩ := ord_some hr hn1
  have h12 := hV1.le
  have hcx := cutX_nI h12 hq hw
  refine x_iload_n (pc := 65) dX4_layOrder_65 rfl ?_
  refine x_bipush (pc := 66) (-5) dX4_layOrder_66 (by decide) ?_
  refine x_cmpeq (pc := 68) 75 dX4_layOrder_68 (by decide) (fun c68 => absurd c68 (nI_ne5 (by omega))) (fun c68 => ?_)
  refine x_iconst (pc := 71) (1) dX4_layOrder_71 (by decide) ?_
  refine x_goto (pc := 72) 76 dX4_layOrder_72 (by decide) ?_
  refine x_istore_n (pc := 76) dX4_layOrder_76 (by decide) ?_
  refine x_iload_n (pc := 77) dX4_layOrder_77 rfl ?_
  refine x_ifeq (pc := 78) 108 dX4_layOrder_78 (by decide) (fun h => absurd h (by decide)) (fun _ => ?_)
  refine x_aload_n (pc := 81) dX4_layOrder_81 rfl ?_
  refine x_iload_n (pc := 82) dX4_layOrder_82 rfl ?_
  refine e_Vi (pc := 83) (c_X4_cuts hR hV1 (nI q)) qV_X4_cuts mL_X4_137 dX4_layOrder_83 rfl cell_model (by decide) rfl rfl rfl ⟨by decide, by decide⟩ (Nat.le_of_ble_eq_true rfl) (Nat.le_of_ble_eq_true rfl) (Nat.le_of_ble_eq_true rfl) ?_
  intro s2 R2
  rw [hcx] at R2
  rw [hcx]
  refine x_istore (pc := 86) dX4_layOrder_86 (by decide) ?_
  refine x_aload_n (pc := 88) dX4_layOrder_88 rfl ?_
  refine x_get (pc := 89) (ci := 4) (k := 17) (C := RX4) (T := TX4) (N := 21) cell_model rfl (by decide) rfl nX4 (by decide) mF_X4_35 rfl dX4_layOrder_89 ?_
  refine x_aload_n (pc := 92) dX4_layOrder_92 rfl ?_
  refine x_get (pc := 93) (ci := 4) (k := 18) (C := RX4) (T := TX4) (N := 21) cell_model rfl (by decide) rfl nX4 (by decide) mF_X4_208 rfl dX4_layOrder_93 ?_
  try dsimp only
  try dsimp only
  rw [h18]
  refine x_iload_n (pc := 96) dX4_layOrder_96 rfl ?_
  refine t_stOrder (pc := 97) k hk rfl dX4_layOrder_97 ?_
  try dsimp only
  refine x_aload_n (pc := 98) dX4_layOrder_98 rfl ?_
  refine x_dup (pc := 99) dX4_layOrder_99 rfl ?_
  refine x_get (pc := 100) (ci := 4) (k := 18) (C := RX4) (T := TX4) (N := 21) cell_model rfl (by decide) rfl nX4 (by decide) mF_X4_208 rfl dX4_layOrder_100 ?_
  try dsimp only
  try dsimp only
  rw [h18]
  refine x_iconst (pc := 103) (1) dX4_layOrder_103 (by decide) ?_
  refine x_iadd (pc := 104) dX4_layOrder_104 ?_
  try dsimp only
  rw [nI_1]
  refine t_putM (pc := 105) 18 (by unfold isMF; decide) rfl rfl mF_X4_208 dX4_layOrder_105 ?_
  try dsimp only
  refine x_goto (pc := 108) 18 dX4_layOrder_108 (by decide) ?_
  have hV2 : VA (nextX K).2 := VA_nextX hV
  refine x_back (ih (upd Nc 18 (nI (k + 1))) s2 (upd oc k (nI q)) (nextX K).2 (fun z hz => (upd_ne Nc _ (by omega)).trans (hf z hz)) (by rw [hn2]; exact R2) hV2 hc2 (upd_same Nc 18 _) (fun z hz => ?_) o2 (by rw [← he2]; exact he)) ⟨rfl, rfl, rfl, trivial⟩
  by_cases ez : z = k
  · subst ez; rw [upd_same]; exact o1.symm
  · rw [upd_ne _ _ ez]; exact ho z (by omega)
set_option maxHeartbeats 4000000 in
set_option maxRecDepth 100000 in
theorem tlN_X4_layOrder {Nc u oc : Fs} (hf : ∀ k, k < 18 → Nc k = N k) (hV : VA K) (hc : k ≤ ncN K.2.2.2.2 K.1) (h18 : Nc 18 = nI k) (ho : ∀ q, q < k → oc q = ordV A q) (hr : ∀ r, ordV A (k + r) = ordV K r) (he : finA K (12 - k) = finA A 12) (hMA : RM s A) (hk : k ≤ 12) (hR : RM u (nextX K).2) (hn : (nextX K).1 = none) : XJ G YX4_layOrder (fun _ => True) (Zx G (Re G none (fun _ : Fs × Fs × Fs × Fs => S) (fun _ => B) (fun a => (a.1, a.2.1, a.2.2.1, ah, sn, be, tx, a.2.2.2)) (fun a => odR N a.1 a.2.2.2 A a.2.1)) 0 0) 65 [(0, .ref (gB G + 247)), (1, .int (A.2.1 4)), (3, .int (-5))] [] 255 (cellOf G S B (Nc, u, cpF sd s 119, ah, sn, be, tx, oc)) 0 0 := by
  have e := fin_none hV hk hc hn
  rw [he] at e
  rw [← e] at hR
  refine x_iload_n (pc := 65) dX4_layOrder_65 rfl ?_
  refine x_bipush (pc := 66) (-5) dX4_layOrder_66 (by decide) ?_
  refine x_cmpeq (pc := 68) 75 dX4_layOrder_68 (by decide) (fun _ => ?_) (fun h => absurd h (by decide))
  refine x_iconst (pc := 75) (0) dX4_layOrder_75 (by decide) ?_
  refine x_istore_n (pc := 76) dX4_layOrder_76 (by decide) ?_
  refine x_iload_n (pc := 77) dX4_layOrder_77 rfl ?_
  refine x_ifeq (pc := 78) 108 dX4_layOrder_78 (by decide) (fun _ => ?_) (fun h => absurd h (by decide))
  refine x_goto (pc := 108) 18 dX4_layOrder_108 (by decide) ?_
  refine x_iload_n (pc := 18) dX4_layOrder_18 rfl ?_
  refine x_ifeq (pc := 19) 111 dX4_layOrder_19 (by decide) (fun _ => ?_) (fun h => absurd h (by decide))
  exact x_back (tlE_X4_layOrder hMA hR hf ⟨k, hk, h18, ho, ord_none hr hn⟩) ⟨rfl, rfl, trivial⟩
set_option maxHeartbeats 4000000 in
set_option maxRecDepth 100000 in
theorem lp_X4_layOrder (hMA : RM s A) : ∀ d k (Nc u oc : Fs) (K : Ab), k + d = 12 → (∀ k, k < 18 → Nc k = N k) → RM u K → VA K → k ≤ ncN K.2.2.2.2 K.1 → Nc 18 = nI k → (∀ q, q < k → oc q = ordV A q) → (∀ r, ordV A (k + r) = ordV K r) → finA K (12 - k) = finA A 12 → XJ G YX4_layOrder (fun _ => True) (Zx G (Re G none (fun _ : Fs × Fs × Fs × Fs => S) (fun _ => B) (fun a => (a.1, a.2.1, a.2.2.1, ah, sn, be, tx, a.2.2.2)) (fun a => odR N a.1 a.2.2.2 A a.2.1)) 0 0) 18 [(0, .ref (gB G + 247)), (1, .int (A.2.1 4)), (2, .int 1)] [] 255 (cellOf G S B (Nc, u, cpF sd s 119, ah, sn, be, tx, oc)) 0 0 := by
  intro d
  induction d with
  | zero =>
    intro k Nc u oc K hkd hf hM hV hc h18 ho hr he
    have hk : k = 12 := hkd
    have hno : ∀ q, (nextX K).1 = some q → False := fun q hq => by have := (fin_some hV hc hq).1; omega
    have hk : k ≤ 12 := by omega
    have ih : (∀ (Nc u oc : Fs) (K : Ab), (∀ k, k < 18 → Nc k = N k) → RM u K → VA K → k + 1 ≤ ncN K.2.2.2.2 K.1 → Nc 18 = nI (k + 1) → (∀ q, q < k + 1 → oc q = ordV A q) → (∀ r, ordV A (k + 1 + r) = ordV K r) → finA K (12 - (k + 1)) = finA A 12 → XJ G YX4_layOrder (fun _ => True) (Zx G (Re G none (fun _ : Fs × Fs × Fs × Fs => S) (fun _ => B) (fun a => (a.1, a.2.1, a.2.2.1, ah, sn, be, tx, a.2.2.2)) (fun a => odR N a.1 a.2.2.2 A a.2.1)) 0 0) 18 [(0, .ref (gB G + 247)), (1, .int (A.2.1 4)), (2, .int 1)] [] 255 (cellOf G S B (Nc, u, cpF sd s 119, ah, sn, be, tx, oc)) 0 0) := fun _ _ _ K' _ _ hV' hc' _ _ _ _ => by
      have h1 := ncN_le K'.2.2.2.2 K'.1
      have h2 := hV'.le
      omega
    refine x_iload_n (pc := 18) dX4_layOrder_18 rfl ?_
    refine x_ifeq (pc := 19) 111 dX4_layOrder_19 (by decide) (fun h => absurd h (by decide)) (fun _ => ?_)
    refine x_aload_n (pc := 22) dX4_layOrder_22 rfl ?_
    refine t_Vi (pc := 23) (c_X4_bestOne hM hV) qV_X4_bestOne mL_X4_202 dX4_layOrder_23 rfl cell_model (by decide) rfl rfl rfl ⟨by decide, by decide⟩ (Nat.le_of_ble_eq_true rfl) (Nat.le_of_ble_eq_true rfl) (Nat.le_of_ble_eq_true rfl) ?_
    refine x_istore_n (pc := 26) dX4_layOrder_26 (by decide) ?_
    refine x_iload_n (pc := 27) dX4_layOrder_27 rfl ?_
    refine x_bipush (pc := 28) (-5) dX4_layOrder_28 (by decide) ?_
    refine x_cmpne (pc := 30) 65 dX4_layOrder_30 (by decide) (fun c30 => ?_) (fun c30 => ?_)
    · obtain ⟨q, hb⟩ := oV_some c30
      have hqt := besO_lt hb
      have hqw := besO_why hb
      simp only [hb, oV]
      exact x_back (tlS_X4_layOrder hf hV hc h18 ho hr he ih hM hV hqt hqw (nextX_1 hb)) ⟨rfl, rfl, rfl, trivial⟩
    · have hb : besO K K.1 = none := oV_none (fun q hq => by have := besO_lt hq; have := hV.le; omega) c30
      have hsf := soo_few hV hb
      refine x_aload_n (pc := 33) dX4_layOrder_33 rfl ?_
      refine t_Vi (pc := 34) (c_X4_soonest hM hV) qV_X4_soonest mL_X4_211 dX4_layOrder_34 rfl cell_model (by decide) rfl rfl rfl ⟨by decide, by decide⟩ (Nat.le_of_ble_eq_true rfl) (Nat.le_of_ble_eq_true rfl) (Nat.le_of_ble_eq_true rfl) ?_
      refine x_istore (pc := 37) dX4_layOrder_37 (by decide) ?_
      refine x_aload_n (pc := 39) dX4_layOrder_39 rfl ?_
      refine x_iload (pc := 40) dX4_layOrder_40 rfl ?_
      refine x_bipush (pc := 42) (-5) dX4_layOrder_42 (by decide) ?_
      refine x_cmpne (pc := 44) 51 dX4_layOrder_44 (by decide) (fun c44 => ?_) (fun c44 => ?_)
      · obtain ⟨q, hq⟩ := oV_some c44
        obtain ⟨q1, q2, q3⟩ := hsf.2 q hq
        have hfew : fewV K K.1 = kcV K q := by rw [hsf.1, hq]
        have hne : ¬ fewV K K.1 = -5 := by rw [hfew]; exact q3
        have h9 := few_9 hV hne
        have hC := VA_cool hV h9
        simp only [hq, oV]
        refine x_aload_n (pc := 51) dX4_layOrder_51 rfl ?_
        refine x_iload (pc := 52) dX4_layOrder_52 rfl ?_
        refine t_Vi (pc := 54) (c_X4_waitFor (i := q) hM hV q1) qV_X4_waitFor mL_X4_199 dX4_layOrder_54 rfl cell_model (by decide) rfl rfl rfl ⟨by decide, by decide⟩ (Nat.le_of_ble_eq_true rfl) (Nat.le_of_ble_eq_true rfl) (Nat.le_of_ble_eq_true rfl) ?_
        try dsimp only
        rw [wfR_eq hV q1 (Or.inr q2), ← hfew]
        refine e_Vv (pc := 57) (c_X4_cools hM hV _ h9) qV_X4_cools mL_X4_103 dX4_layOrder_57 rfl cell_model (by decide) rfl rfl rfl ⟨by decide, by decide⟩ (Nat.le_of_ble_eq_true rfl) (Nat.le_of_ble_eq_true rfl) (Nat.le_of_ble_eq_true rfl) ?_
        intro s1 R1
        refine x_aload_n (pc := 60) dX4_layOrder_60 rfl ?_
        refine t_Vi (pc := 61) (c_X4_bestOne R1 hC) qV_X4_bestOne mL_X4_202 dX4_layOrder_61 rfl cell_model (by decide) rfl rfl rfl ⟨by decide, by decide⟩ (Nat.le_of_ble_eq_true rfl) (Nat.le_of_ble_eq_true rfl) (Nat.le_of_ble_eq_true rfl) ?_
        refine x_istore_n (pc := 64) dX4_layOrder_64 (by decide) ?_
        show XJ _ _ _ _ _ ((_, .int (oV (besO (coolA K (fewV K K.1)) K.1))) :: _) _ _ _ _ _
        rcases hb3 : besO (coolA K (fewV K K.1)) K.1 with _ | q
        · have hx := nextX_4 hb hne hb3
          exact x_back (tlN_X4_layOrder hf hV hc h18 ho hr he hMA hk (by rw [hx]; exact R1) (by rw [hx])) ⟨rfl, rfl, rfl, trivial⟩
        · have hx := nextX_3 hb hne hb3
          exact x_back (tlS_X4_layOrder hf hV hc h18 ho hr he ih R1 hC (besO_lt hb3) (besO_why hb3) hx) ⟨rfl, rfl, rfl, trivial⟩
      · have hq : sooD K K.1 none = none := oV_none (fun q hq => by have := (hsf.2 q hq).1; have := hV.le; omega) c44
        have hfew : fewV K K.1 = -5 := by rw [hsf.1, hq]
        refine x_iconst (pc := 47) (0) dX4_layOrder_47 (by decide) ?_
        refine x_goto (pc := 48) 57 dX4_layOrder_48 (by decide) ?_
        refine e_Vv (pc := 57) (c_X4_cools hM hV 0 ⟨by decide, by decide⟩) qV_X4_cools mL_X4_103 dX4_layOrder_57 rfl cell_model (by decide) rfl rfl rfl ⟨by decide, by decide⟩ (Nat.le_of_ble_eq_true rfl) (Nat.le_of_ble_eq_true rfl) (Nat.le_of_ble_eq_true rfl) ?_
        intro s1 R1
        have R1 := RM_c0 R1 hV
        refine x_aload_n (pc := 60) dX4_layOrder_60 rfl ?_
        refine t_Vi (pc := 61) (c_X4_bestOne R1 hV) qV_X4_bestOne mL_X4_202 dX4_layOrder_61 rfl cell_model (by decide) rfl rfl rfl ⟨by decide, by decide⟩ (Nat.le_of_ble_eq_true rfl) (Nat.le_of_ble_eq_true rfl) (Nat.le_of_ble_eq_true rfl) ?_
        refine x_istore_n (pc := 64) dX4_layOrder_64 (by decide) ?_
        have hx := nextX_2 hb hfew
        rw [hb]
        exact x_back (tlN_X4_layOrder hf hV hc h18 ho hr he hMA hk (by rw [hx]; exact R1) (by rw [hx])) ⟨rfl, rfl, rfl, trivial⟩
  | succ d ihd =>
    intro k Nc u oc K hkd hf hM hV hc h18 ho hr he
    have hk : k ≤ 12 := by omega
    have ih : (∀ (Nc u oc : Fs) (K : Ab), (∀ k, k < 18 → Nc k = N k) → RM u K → VA K → k + 1 ≤ ncN K.2.2.2.2 K.1 → Nc 18 = nI (k + 1) → (∀ q, q < k + 1 → oc q = ordV A q) → (∀ r, ordV A (k + 1 + r) = ordV K r) → finA K (12 - (k + 1)) = finA A 12 → XJ G YX4_layOrder (fun _ => True) (Zx G (Re G none (fun _ : Fs × Fs × Fs × Fs => S) (fun _ => B) (fun a => (a.1, a.2.1, a.2.2.1, ah, sn, be, tx, a.2.2.2)) (fun a => odR N a.1 a.2.2.2 A a.2.1)) 0 0) 18 [(0, .ref (gB G + 247)), (1, .int (A.2.1 4)), (2, .int 1)] [] 255 (cellOf G S B (Nc, u, cpF sd s 119, ah, sn, be, tx, oc)) 0 0) := fun Nc u oc K a1 a2 a3 a4 a5 a6 a7 a8 => ihd (k + 1) Nc u oc K (by omega) a1 a2 a3 a4 a5 a6 a7 a8
    refine x_iload_n (pc := 18) dX4_layOrder_18 rfl ?_
    refine x_ifeq (pc := 19) 111 dX4_layOrder_19 (by decide) (fun h => absurd h (by decide)) (fun _ => ?_)
    refine x_aload_n (pc := 22) dX4_layOrder_22 rfl ?_
    refine t_Vi (pc := 23) (c_X4_bestOne hM hV) qV_X4_bestOne mL_X4_202 dX4_layOrder_23 rfl cell_model (by decide) rfl rfl rfl ⟨by decide, by decide⟩ (Nat.le_of_ble_eq_true rfl) (Nat.le_of_ble_eq_true rfl) (Nat.le_of_ble_eq_true rfl) ?_
    refine x_istore_n (pc := 26) dX4_layOrder_26 (by decide) ?_
    refine x_iload_n (pc := 27) dX4_layOrder_27 rfl ?_
    refine x_bipush (pc := 28) (-5) dX4_layOrder_28 (by decide) ?_
    refine x_cmpne (pc := 30) 65 dX4_layOrder_30 (by decide) (fun c30 => ?_) (fun c30 => ?_)
    · obtain ⟨q, hb⟩ := oV_some c30
      have hqt := besO_lt hb
      have hqw := besO_why hb
      simp only [hb, oV]
      exact x_back (tlS_X4_layOrder hf hV hc h18 ho hr he ih hM hV hqt hqw (nextX_1 hb)) ⟨rfl, rfl, rfl, trivial⟩
    · have hb : besO K K.1 = none := oV_none (fun q hq => by have := besO_lt hq; have := hV.le; omega) c30
      have hsf := soo_few hV hb
      refine x_aload_n (pc := 33) dX4_layOrder_33 rfl ?_
      refine t_Vi (pc := 34) (c_X4_soonest hM hV) qV_X4_soonest mL_X4_211 dX4_layOrder_34 rfl cell_model (by decide) rfl rfl rfl ⟨by decide, by decide⟩ (Nat.le_of_ble_eq_true rfl) (Nat.le_of_ble_eq_true rfl) (Nat.le_of_ble_eq_true rfl) ?_
      refine x_istore (pc := 37) dX4_layOrder_37 (by decide) ?_
      refine x_aload_n (pc := 39) dX4_layOrder_39 rfl ?_
      refine x_iload (pc := 40) dX4_layOrder_40 rfl ?_
      refine x_bipush (pc := 42) (-5) dX4_layOrder_42 (by decide) ?_
      refine x_cmpne (pc := 44) 51 dX4_layOrder_44 (by decide) (fun c44 => ?_) (fun c44 => ?_)
      · obtain ⟨q, hq⟩ := oV_some c44
        obtain ⟨q1, q2, q3⟩ := hsf.2 q hq
        have hfew : fewV K K.1 = kcV K q := by rw [hsf.1, hq]
        have hne : ¬ fewV K K.1 = -5 := by rw [hfew]; exact q3
        have h9 := few_9 hV hne
        have hC := VA_cool hV h9
        simp only [hq, oV]
        refine x_aload_n (pc := 51) dX4_layOrder_51 rfl ?_
        refine x_iload (pc := 52) dX4_layOrder_52 rfl ?_
        refine t_Vi (pc := 54) (c_X4_waitFor (i := q) hM hV q1) qV_X4_waitFor mL_X4_199 dX4_layOrder_54 rfl cell_model (by decide) rfl rfl rfl ⟨by decide, by decide⟩ (Nat.le_of_ble_eq_true rfl) (Nat.le_of_ble_eq_true rfl) (Nat.le_of_ble_eq_true rfl) ?_
        try dsimp only
        rw [wfR_eq hV q1 (Or.inr q2), ← hfew]
        refine e_Vv (pc := 57) (c_X4_cools hM hV _ h9) qV_X4_cools mL_X4_103 dX4_layOrder_57 rfl cell_model (by decide) rfl rfl rfl ⟨by decide, by decide⟩ (Nat.le_of_ble_eq_true rfl) (Nat.le_of_ble_eq_true rfl) (Nat.le_of_ble_eq_true rfl) ?_
        intro s1 R1
        refine x_aload_n (pc := 60) dX4_layOrder_60 rfl ?_
        refine t_Vi (pc := 61) (c_X4_bestOne R1 hC) qV_X4_bestOne mL_X4_202 dX4_layOrder_61 rfl cell_model (by decide) rfl rfl rfl ⟨by decide, by decide⟩ (Nat.le_of_ble_eq_true rfl) (Nat.le_of_ble_eq_true rfl) (Nat.le_of_ble_eq_true rfl) ?_
        refine x_istore_n (pc := 64) dX4_layOrder_64 (by decide) ?_
        show XJ _ _ _ _ _ ((_, .int (oV (besO (coolA K (fewV K K.1)) K.1))) :: _) _ _ _ _ _
        rcases hb3 : besO (coolA K (fewV K K.1)) K.1 with _ | q
        · have hx := nextX_4 hb hne hb3
          exact x_back (tlN_X4_layOrder hf hV hc h18 ho hr he hMA hk (by rw [hx]; exact R1) (by rw [hx])) ⟨rfl, rfl, rfl, trivial⟩
        · have hx := nextX_3 hb hne hb3
          exact x_back (tlS_X4_layOrder hf hV hc h18 ho hr he ih R1 hC (besO_lt hb3) (besO_why hb3) hx) ⟨rfl, rfl, rfl, trivial⟩
      · have hq : sooD K K.1 none = none := oV_none (fun q hq => by have := (hsf.2 q hq).1; have := hV.le; omega) c44
        have hfew : fewV K K.1 = -5 := by rw [hsf.1, hq]
        refine x_iconst (pc := 47) (0) dX4_layOrder_47 (by decide) ?_
        refine x_goto (pc := 48) 57 dX4_layOrder_48 (by decide) ?_
        refine e_Vv (pc := 57) (c_X4_cools hM hV 0 ⟨by decide, by decide⟩) qV_X4_cools mL_X4_103 dX4_layOrder_57 rfl cell_model (by decide) rfl rfl rfl ⟨by decide, by decide⟩ (Nat.le_of_ble_eq_true rfl) (Nat.le_of_ble_eq_true rfl) (Nat.le_of_ble_eq_true rfl) ?_
        intro s1 R1
        have R1 := RM_c0 R1 hV
        refine x_aload_n (pc := 60) dX4_layOrder_60 rfl ?_
        refine t_Vi (pc := 61) (c_X4_bestOne R1 hV) qV_X4_bestOne mL_X4_202 dX4_layOrder_61 rfl cell_model (by decide) rfl rfl rfl ⟨by decide, by decide⟩ (Nat.le_of_ble_eq_true rfl) (Nat.le_of_ble_eq_true rfl) (Nat.le_of_ble_eq_true rfl) ?_
        refine x_istore_n (pc := 64) dX4_layOrder_64 (by decide) ?_
        have hx := nextX_2 hb hfew
        rw [hb]
        exact x_back (tlN_X4_layOrder hf hV hc h18 ho hr he hMA hk (by rw [hx]; exact R1) (by rw [hx])) ⟨rfl, rfl, rfl, trivial⟩
set_option maxHeartbeats 4000000 in
set_option maxRecDepth 100000 in
theorem c_X4_layOrder (hM : RM s A) (hV : VA A) : Ct G yX4_layOrder YX4_layOrder 0 0 [.ref (gB G + 247)] 255 (cellOf G S B (N, s, sd, ah, sn, be, tx, od)) (Re G none (fun _ : Fs × Fs × Fs × Fs => S) (fun _ => B) (fun a => (a.1, a.2.1, a.2.2.1, ah, sn, be, tx, a.2.2.2)) (fun a => odR N a.1 a.2.2.2 A a.2.1)) := by
  refine ct_of (by decide +kernel) rfl rfl (Nat.le_of_ble_eq_true rfl) (by simp [Value.category]) ?_
  refine x_sub (l' := [(0, .ref (gB G + 247))]) ⟨rfl, trivial⟩ ?_
  refine x_aload_n (pc := 0) dX4_layOrder_0 rfl ?_
  refine t_Vv (pc := 1) (c_X4_putAside) qV_X4_putAside mL_X4_205 dX4_layOrder_1 rfl cell_model (by decide) rfl rfl rfl ⟨by decide, by decide⟩ (Nat.le_of_ble_eq_true rfl) (Nat.le_of_ble_eq_true rfl) (Nat.le_of_ble_eq_true rfl) ?_
  refine x_aload_n (pc := 4) dX4_layOrder_4 rfl ?_
  refine x_get (pc := 5) (ci := 4) (k := 0) (C := RX4) (T := TX4) (N := 21) cell_model rfl (by decide) rfl nX4 (by decide) mF_X4_7 rfl dX4_layOrder_5 ?_
  refine x_iconst (pc := 8) (4) dX4_layOrder_8 (by decide) ?_
  refine t_ild (pc := 9) 4 cell_s (by decide) rfl (by decide) (by decide) dX4_layOrder_9 ?_
  try dsimp only
  rw [hM.int 4]
  refine x_istore_n (pc := 10) dX4_layOrder_10 (by decide) ?_
  refine x_aload_n (pc := 11) dX4_layOrder_11 rfl ?_
  refine x_iconst (pc := 12) (0) dX4_layOrder_12 (by decide) ?_
  refine t_putM (pc := 13) 18 (by unfold isMF; decide) rfl rfl mF_X4_208 dX4_layOrder_13 ?_
  try dsimp only
  refine x_iconst (pc := 16) (1) dX4_layOrder_16 (by decide) ?_
  refine x_istore_n (pc := 17) dX4_layOrder_17 (by decide) ?_
  exact x_back (lp_X4_layOrder hM 12 0 (upd N 18 0) s od A rfl (fun q hq => upd_ne N 0 (by omega)) hM hV (Nat.zero_le _) (upd_same N 18 0) (fun q hq => absurd hq (Nat.not_lt_zero q)) (fun r => by rw [Nat.zero_add]) rfl) ⟨rfl, rfl, rfl, trivial⟩
set_option maxHeartbeats 4000000 in
set_option maxRecDepth 100000 in
theorem c_X4_ordered (hG : GM (N, s, sd, ah, sn, be, tx, od) w) (hV : VW w) (v : Int32) : Ct G yX4_ordered YX4_ordered 0 0 [.ref (gB G + 247), .int v] 255 (cellOf G S B (N, s, sd, ah, sn, be, tx, od)) (Re G (some (.int (ordX w.1 v))) (fun _ : Md => S) (fun _ => B) (fun a => a) (fun a => GM a w)) := by
  refine ct_of (by decide +kernel) rfl rfl (Nat.le_of_ble_eq_true rfl) (by simp [Value.category]) ?_
  refine x_sub (l' := [(0, .ref (gB G + 247)), (1, .int v)]) ⟨rfl, rfl, trivial⟩ ?_
  have hM : RM s w.1 := hG.1
  have hVA := hV.1
  have hF := hVA.vS
  have h12 := hM.le
  refine x_iload_n (pc := 0) dX4_ordered_0 rfl ?_
  refine x_ifge (pc := 1) 7 dX4_ordered_1 (by decide) (fun c1 => ?_) (fun c1 => ?_)
  · obtain ⟨j, hj, rfl⟩ := nI_of c1
    refine x_aload_n (pc := 7) dX4_ordered_7 rfl ?_
    refine e_Vv (pc := 8) (c_X4_layOrder hM hVA) qV_X4_layOrder mL_X4_226 dX4_ordered_8 rfl cell_model (by decide) rfl rfl rfl ⟨by decide, by decide⟩ (Nat.le_of_ble_eq_true rfl) (Nat.le_of_ble_eq_true rfl) (Nat.le_of_ble_eq_true rfl) ?_
    intro a ha
    obtain ⟨N1, s1, sd1, od1⟩ := a
    dsimp only at ha ⊢
    obtain ⟨f1, R1, ⟨m, hm, e18, e1, e2⟩, e20, e19⟩ := ha
    have hG1 : GM (N1, s1, sd1, ah, sn, be, tx, od1) w := GM_N (sd := sd) (ah := ah) (od := od) hG (f1 4 (by decide)) (f1 6 (by decide)) (f1 8 (by decide)) (f1 9 (by decide)) (f1 10 (by decide)) R1
    refine x_iload_n (pc := 11) dX4_ordered_11 rfl ?_
    refine x_aload_n (pc := 12) dX4_ordered_12 rfl ?_
    refine x_get (pc := 13) (ci := 4) (k := 18) (C := RX4) (T := TX4) (N := 21) cell_model rfl (by decide) rfl nX4 (by decide) mF_X4_208 rfl dX4_ordered_13 ?_
    try dsimp only
    try dsimp only
    rw [e18]
    refine x_cmpge (pc := 16) 28 dX4_ordered_16 (by decide) (fun c16 => ?_) (fun c16 => ?_)
    · have hjm : ¬ j < m := fun z => c16 ((nI_ltI (by omega) (by omega)).mpr z)
      refine x_bipush (pc := 28) (-5) dX4_ordered_28 (by decide) ?_
      have eX : ordX w.1 (nI j) = -5 := by
        unfold ordX
        rw [if_neg c1]
        by_cases a : nI j < 12
        · rw [if_pos a, nI_clamp hj, e2 j (by omega)]
        · rw [if_neg a]
      exact x_iret rfl dX4_ordered_30 ⟨_, by rw [eX], rfl, rfl, hG1⟩
    · have hjm : j < m := (nI_ltI (by omega) (by omega)).mp c16
      refine x_aload_n (pc := 19) dX4_ordered_19 rfl ?_
      refine x_get (pc := 20) (ci := 4) (k := 17) (C := RX4) (T := TX4) (N := 21) cell_model rfl (by decide) rfl nX4 (by decide) mF_X4_35 rfl dX4_ordered_20 ?_
      refine x_iload_n (pc := 23) dX4_ordered_23 rfl ?_
      refine t_ild (pc := 24) j cell_order (by decide) rfl (by omega) (by decide) dX4_ordered_24 ?_
      try dsimp only
      try dsimp only
      rw [e1 j hjm]
      refine x_goto (pc := 25) 30 dX4_ordered_25 (by decide) ?_
      have eX : ordX w.1 (nI j) = ordV w.1 j := by
        unfold ordX
        rw [if_neg c1, if_pos (show nI j < 12 from (lt_lit (n := 12) rfl (by decide) hj).mpr (by omega)), nI_clamp hj]
      exact x_iret rfl dX4_ordered_30 ⟨_, by rw [eX], rfl, rfl, hG1⟩
  · refine x_bipush (pc := 4) (-2) dX4_ordered_4 (by decide) ?_
    exact x_iret rfl dX4_ordered_6 ⟨(N, s, sd, ah, sn, be, tx, od), by unfold ordX; rw [if_pos c1], rfl, rfl, hG⟩
set_option maxHeartbeats 4000000 in
set_option maxRecDepth 100000 in
theorem c_X4_allTakes (hG : GM (N, s, sd, ah, sn, be, tx, od) w) (hV : VW w) : Ct G yX4_allTakes YX4_allTakes 0 0 [.ref (gB G + 247)] 255 (cellOf G S B (N, s, sd, ah, sn, be, tx, od)) (Re G (some (.int (allX w.1))) (fun _ : Md => S) (fun _ => B) (fun a => a) (fun a => GM a w)) := by
  refine ct_of (by decide +kernel) rfl rfl (Nat.le_of_ble_eq_true rfl) (by simp [Value.category]) ?_
  refine x_sub (l' := [(0, .ref (gB G + 247))]) ⟨rfl, trivial⟩ ?_
  have hM : RM s w.1 := hG.1
  have hVA := hV.1
  have hF := hVA.vS
  have h12 := hM.le
  refine x_aload_n (pc := 0) dX4_allTakes_0 rfl ?_
  refine e_Vv (pc := 1) (c_X4_layOrder hM hVA) qV_X4_layOrder mL_X4_226 dX4_allTakes_1 rfl cell_model (by decide) rfl rfl rfl ⟨by decide, by decide⟩ (Nat.le_of_ble_eq_true rfl) (Nat.le_of_ble_eq_true rfl) (Nat.le_of_ble_eq_true rfl) ?_
  intro a ha
  obtain ⟨N1, s1, sd1, od1⟩ := a
  dsimp only at ha ⊢
  obtain ⟨f1, R1, ⟨m, hm, e18, e1, e2⟩, e20, e19⟩ := ha
  have hG1 : GM (N1, s1, sd1, ah, sn, be, tx, od1) w := GM_N (sd := sd) (ah := ah) (od := od) hG (f1 4 (by decide)) (f1 6 (by decide)) (f1 8 (by decide)) (f1 9 (by decide)) (f1 10 (by decide)) R1
  refine x_aload_n (pc := 4) dX4_allTakes_4 rfl ?_
  refine x_get (pc := 5) (ci := 4) (k := 20) (C := RX4) (T := TX4) (N := 21) cell_model rfl (by decide) rfl nX4 (by decide) mF_X4_220 rfl dX4_allTakes_5 ?_
  try dsimp only
  try dsimp only
  rw [e20]
  refine x_ifeq (pc := 8) 18 dX4_allTakes_8 (by decide) (fun c8 => ?_) (fun c8 => ?_)
  · refine x_bipush (pc := 18) (-5) dX4_allTakes_18 (by decide) ?_
    have t := of_decide_eq_false (b01_eq c8)
    exact x_iret rfl dX4_allTakes_20 ⟨_, by unfold allX; rw [if_neg t], rfl, rfl, hG1⟩
  · refine x_aload_n (pc := 11) dX4_allTakes_11 rfl ?_
    refine x_get (pc := 12) (ci := 4) (k := 19) (C := RX4) (T := TX4) (N := 21) cell_model rfl (by decide) rfl nX4 (by decide) mF_X4_214 rfl dX4_allTakes_12 ?_
    try dsimp only
    try dsimp only
    rw [e19]
    refine x_goto (pc := 15) 20 dX4_allTakes_15 (by decide) ?_
    have t := of_decide_eq_true (b01_ne c8)
    exact x_iret rfl dX4_allTakes_20 ⟨_, by unfold allX; rw [if_pos t], rfl, rfl, hG1⟩
set_option maxHeartbeats 4000000 in
set_option maxRecDepth 100000 in
theorem c_X4_perform (hG : GM (N, s, sd, ah, sn, be, tx, od) w) (hV : VW w) : Ct G yX4_perform YX4_perform 0 0 [.ref (gB G + 247)] 255 (cellOf G S B (N, s, sd, ah, sn, be, tx, od)) (Re G (some (.int (perX w).1)) (fun _ : Md => S) (fun _ => B) (fun a => a) (fun a => GM a (perX w).2)) := by
  refine ct_of (by decide +kernel) rfl rfl (Nat.le_of_ble_eq_true rfl) (by simp [Value.category]) ?_
  refine x_sub (l' := [(0, .ref (gB G + 247))]) ⟨rfl, trivial⟩ ?_
  have hM : RM s w.1 := hG.1
  have hVA := hV.1
  have hF := hVA.vS
  have h12 := hM.le
  obtain ⟨hn, h60, htx⟩ : N 8 = nI w.2.2.2.1.1 ∧ w.2.2.2.1.1 ≤ 60 ∧ ∀ p, p < w.2.2.2.1.1 → tx p = w.2.2.2.1.2 p := hG.2.2.2.1
  have hP : plL tx w.2.2.2.1.1 30 0 = plW w := plL_c htx 30 0
  have hlen : (plW w).2.length < 2 ^ 31 := Nat.lt_of_le_of_lt (plL_len _ _ 30 0) (by decide)
  have lp : ∀ (N3 u : Fs) (x y : Int32), GM (N3, cpF u (cpF ah s 119) 119, sd, cpF ah s 119, sn, be, tx, od) (perX w).2 → (perX w).1 = -4 → ∀ k, k ≤ 119 → XJ G YX4_perform (fun _ => True) (Zx G (Re G (some (.int (perX w).1)) (fun _ : Md => S) (fun _ => B) (fun a => a) (fun a => GM a (perX w).2)) 0 0) 53 [(0, .ref (gB G + 247)), (1, .int x), (2, .int y), (3, .int (nI k))] [] 255 (cellOf G S B (N3, cpF u (cpF ah s 119) k, sd, cpF ah s 119, sn, be, tx, od)) 0 0 := by
    intro N3 u x y hG3 hX
    refine loopD 119 ?_
    intro k hk ih
    refine x_iload_n (pc := 53) dX4_perform_53 rfl ?_
    refine x_bipush (pc := 54) (119) dX4_perform_54 (by decide) ?_
    refine x_cmpge (pc := 56) 77 dX4_perform_56 (by decide) (fun c56 => ?_) (fun c56 => ?_)
    · obtain rfl : k = 119 := by have := mt (lt_lit (n := 119) rfl (by decide) (by omega)).mpr c56; omega
      refine x_bipush (pc := 77) (-4) dX4_perform_77 (by decide) ?_
      exact x_iret rfl dX4_perform_79 ⟨_, by rw [hX], rfl, rfl, hG3⟩
    · have hkn : k < 119 := (lt_lit rfl (by decide) (by omega)).mp c56
      refine x_aload_n (pc := 59) dX4_perform_59 rfl ?_
      refine x_get (pc := 60) (ci := 4) (k := 0) (C := RX4) (T := TX4) (N := 21) cell_model rfl (by decide) rfl nX4 (by decide) mF_X4_7 rfl dX4_perform_60 ?_
      refine x_iload_n (pc := 63) dX4_perform_63 rfl ?_
      refine x_aload_n (pc := 64) dX4_perform_64 rfl ?_
      refine x_get (pc := 65) (ci := 4) (k := 2) (C := RX4) (T := TX4) (N := 21) cell_model rfl (by decide) rfl nX4 (by decide) mF_X4_16 rfl dX4_perform_65 ?_
      refine x_iload_n (pc := 68) dX4_perform_68 rfl ?_
      refine t_ild (pc := 69) _ cell_ahead (by decide) rfl (by first | assumption | omega) (by decide) dX4_perform_69 ?_
      try dsimp only
      refine t_stS (pc := 70) _ (by first | assumption | omega) rfl dX4_perform_70 ?_
      try dsimp only
      refine x_iinc (pc := 71) (nI (k + 1)) dX4_perform_71 rfl (iinc_nI k) (by decide) ?_
      refine x_goto (pc := 74) 53 dX4_perform_74 (by decide) ?_
      have e := ih hkn
      rw [← cpF_s u (cpF ah s 119) k] at e
      exact x_back e ⟨rfl, rfl, rfl, rfl, trivial⟩
  refine x_aload_n (pc := 0) dX4_perform_0 rfl ?_
  refine x_iconst (pc := 1) (0) dX4_perform_1 (by decide) ?_
  refine z_Vi (pc := 2) (c0_X4_runs hn h60) qV_X4_runs mL_X4_183 dX4_perform_2 rfl cell_model (by decide) rfl rfl rfl ⟨by decide, by decide⟩ (Nat.le_of_ble_eq_true rfl) (Nat.le_of_ble_eq_true rfl) (Nat.le_of_ble_eq_true rfl) ?_
  intro a ha
  obtain ⟨N1, m1⟩ := a
  dsimp only at ha ⊢
  rw [hP] at ha
  obtain ⟨f1, hor⟩ := ha
  have hG1 : GM (N1, s, sd, ah, sn, be, tx, od) w := GM_N (sd := sd) (ah := ah) (od := od) hG (f1 4 (by omega)) (f1 6 (by omega)) (f1 8 (by omega)) (f1 9 (by omega)) (f1 10 (by omega)) hM
  have hn1 : N1 8 = nI w.2.2.2.1.1 := (f1 8 (by omega)).trans hn
  refine x_istore_n (pc := 5) dX4_perform_5 (by decide) ?_
  refine x_aload_n (pc := 6) dX4_perform_6 rfl ?_
  refine x_get (pc := 7) (ci := 4) (k := 12) (C := RX4) (T := TX4) (N := 21) cell_model rfl (by decide) rfl nX4 (by decide) mF_X4_149 rfl dX4_perform_7 ?_
  try dsimp only
  refine x_ifeq (pc := 10) 21 dX4_perform_10 (by decide) (fun c10 => ?_) (fun c10 => ?_)
  · have hp1 : (plW w).1 = -1 := by
      rcases hor with ⟨h, -⟩ | ⟨-, h, -⟩
      · exact h
      · rw [h] at c10; exact absurd c10 (by decide)
    refine x_aload_n (pc := 21) dX4_perform_21 rfl ?_
    refine t_Vv (pc := 22) (c_X4_looks) qV_X4_looks mL_X4_121 dX4_perform_22 rfl cell_model (by decide) rfl rfl rfl ⟨by decide, by decide⟩ (Nat.le_of_ble_eq_true rfl) (Nat.le_of_ble_eq_true rfl) (Nat.le_of_ble_eq_true rfl) ?_
    refine x_aload_n (pc := 25) dX4_perform_25 rfl ?_
    refine x_iconst (pc := 26) (1) dX4_perform_26 (by decide) ?_
    refine z_Vi (pc := 27) (c1_X4_runs hn1 h60 hM hVA (by rw [hP]; exact hp1)) qV_X4_runs mL_X4_183 dX4_perform_27 rfl cell_model (by decide) rfl rfl rfl ⟨by decide, by decide⟩ (Nat.le_of_ble_eq_true rfl) (Nat.le_of_ble_eq_true rfl) (Nat.le_of_ble_eq_true rfl) ?_
    intro a ha
    obtain ⟨N2, s2, m2⟩ := a
    dsimp only at ha ⊢
    rw [hP] at ha
    obtain ⟨f2, hor2⟩ := ha
    have hG2 : GM (N2, s, sd, cpF ah s 119, sn, be, tx, od) w := GM_N (sd := sd) (ah := ah) (od := od) hG1 (f2 4 (by omega)) (f2 6 (by omega)) (f2 8 (by omega)) (f2 9 (by omega)) (f2 10 (by omega)) hM
    refine x_istore_n (pc := 30) dX4_perform_30 (by decide) ?_
    refine x_aload_n (pc := 31) dX4_perform_31 rfl ?_
    refine x_get (pc := 32) (ci := 4) (k := 16) (C := RX4) (T := TX4) (N := 21) cell_model rfl (by decide) rfl nX4 (by decide) mF_X4_174 rfl dX4_perform_32 ?_
    try dsimp only
    refine x_ifge (pc := 35) 80 dX4_perform_35 (by decide) (fun c35 => ?_) (fun c35 => ?_)
    · obtain ⟨hz, hm2, h16, R2⟩ : (exL (plW w).2 w.1 0).1 = none ∧ m2 = nI (0 + (plW w).2.length) ∧ N2 16 = 0 ∧ RM s2 (exL (plW w).2 w.1 0).2 := by
        rcases hor2 with h | ⟨z, hz, -, h16⟩
        · exact h
        · exact absurd (by rw [h16]; exact exL_neg _ _ hz) c35
      have hXX := perX_1 (A := (exL (plW w).2 w.1 0).2) hp1 (by rw [← hz])
      rw [Nat.zero_add] at hm2
      subst hm2
      rw [hXX]
      refine x_aload_n (pc := 80) dX4_perform_80 rfl ?_
      refine e_Vv (pc := 81) (c_X4_records hG2.2.1 (RM_cp hM)) qV_X4_records mL_X4_114 dX4_perform_81 rfl cell_model (by decide) rfl rfl rfl ⟨by decide, by decide⟩ (Nat.le_of_ble_eq_true rfl) (Nat.le_of_ble_eq_true rfl) (Nat.le_of_ble_eq_true rfl) ?_
      intro a ha
      obtain ⟨N3, be1⟩ := a
      dsimp only at ha ⊢
      refine x_iload_n (pc := 84) dX4_perform_84 rfl ?_
      exact x_iret rfl dX4_perform_85 ⟨_, rfl, rfl, rfl, GM_rec (r := (nI (plW w).2.length, _)) hG2 R2 (by rw [if_neg (nI_pos hlen)]; exact ha)⟩
    · obtain ⟨z, hz, hm2, h16⟩ : ∃ z, (exL (plW w).2 w.1 0).1 = some z ∧ m2 = nI z.1 ∧ N2 16 = z.2 := by
        rcases hor2 with ⟨-, -, h0, -⟩ | h
        · rw [h0] at c35; exact absurd c35 (by decide)
        · exact h
      have hXX := perX_2 (A := (exL (plW w).2 w.1 0).2) hp1 (by rw [← hz])
      refine x_aload_n (pc := 38) dX4_perform_38 rfl ?_
      refine x_iload_n (pc := 39) dX4_perform_39 rfl ?_
      refine t_putM (pc := 40) 9 (by unfold isMF; decide) rfl rfl mF_X4_28 dX4_perform_40 ?_
      try dsimp only
      refine x_aload_n (pc := 43) dX4_perform_43 rfl ?_
      refine x_aload_n (pc := 44) dX4_perform_44 rfl ?_
      refine x_get (pc := 45) (ci := 4) (k := 16) (C := RX4) (T := TX4) (N := 21) cell_model rfl (by decide) rfl nX4 (by decide) mF_X4_174 rfl dX4_perform_45 ?_
      try dsimp only
      refine t_putM (pc := 48) 10 (by unfold isMF; decide) rfl rfl mF_X4_32 dX4_perform_48 ?_
      try dsimp only
      refine x_iconst (pc := 51) (0) dX4_perform_51 (by decide) ?_
      refine x_istore_n (pc := 52) dX4_perform_52 (by decide) ?_
      have e := lp (upd (upd N2 9 m2) 10 (N2 16)) s2 m1 m2 (by
        rw [hXX]
        exact ⟨RM_c (RM_cp hM) (fun q hq => cpF_in s2 _ hq), HM_N hG2.2.1 rfl, snM_k hG2.2.2.1 rfl, txM_k hG2.2.2.2.1 rfl, ⟨hm2, h16⟩⟩) (by rw [hXX]) 0 (by omega)
      rw [cpF_0] at e
      exact x_back e ⟨rfl, rfl, rfl, rfl, trivial⟩
  · obtain ⟨hp1, hps⟩ : ¬ (plW w).1 = -1 ∧ N1 11 = (plW w).1 := by
      rcases hor with ⟨-, h⟩ | ⟨h1, -, h2⟩
      · exact absurd h c10
      · exact ⟨h1, h2⟩
    refine x_bipush (pc := 13) (-100) dX4_perform_13 (by decide) ?_
    refine x_aload_n (pc := 15) dX4_perform_15 rfl ?_
    refine x_get (pc := 16) (ci := 4) (k := 11) (C := RX4) (T := TX4) (N := 21) cell_model rfl (by decide) rfl nX4 (by decide) mF_X4_153 rfl dX4_perform_16 ?_
    try dsimp only
    try dsimp only
    rw [hps]
    refine x_isub (pc := 19) dX4_perform_19 ?_
    rw [perX_3 hp1]
    exact x_iret rfl dX4_perform_20 ⟨_, rfl, rfl, rfl, hG1⟩
end MORD
