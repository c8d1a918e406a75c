/-! the law: within, act (rows laid by wip/p25/p33.py) -/
section ACT
variable {G : GX} {S : Nat → Sh} {B : Bc} {M : Md} {w : Wt} {k : Nat} {t : Int}
theorem low_in (v : Int32) {n : Nat} (h0 : 0 < n) (hn : n < 2 ^ 31) : ∃ j, j < n ∧ lowV v (nI n) = nI j := by
  obtain ⟨m, hm, e⟩ := pk_andE v (m := 2147483647) 31 (by decide)
  refine ⟨m % n, Nat.mod_lt _ h0, ?_⟩
  unfold lowV
  rw [e]
  exact pk_rem hm h0 hn
theorem nz_1 {n : Nat} (h : n ≤ 12) : ¬ nI n + 1 = 0 := by
  rw [inc_nI]
  intro z
  have e1 : (nI (n + 1)).toInt = ((n + 1 : Nat) : Int) := nI_toInt (by omega)
  rw [z, t0] at e1
  omega
theorem nz_3 {x : Int32} (h : iR x 0 100) (h4 : ¬ x < 4) : ¬ x - 3 = 0 := by
  unfold iR at h
  rw [ti_lt, t4] at h4
  rw [ti_eq, t0, ti_sub (by rw [t3]; omega) (by rw [t3]; omega), t3]
  omega
theorem w_in {f : Fs} (h : vF f) : iR (f 2) 0 100 ∧ iR (f 3) 0 100 := by
  obtain ⟨h, -⟩ := h
  unfold iR
  omega
/-- what an act leaves behind it -/
def AcP (w : Wt) (t : Int) (x : Int32) (S : Nat → Sh) (B : Bc) : Prop := ∃ r : Int32 × Ab, x = r.1 ∧ GC S B (recX w r).2 ∧ VB (t + 999) r.2
theorem ct_post {ynm : MethodName} {yc : YX} {As : List Value} {r r' : Option Value → Nat → (Nat → va_E) → Prop} (h : Ct G ynm yc 0 0 As (nN G) (cellOf G S B M) r) (hr : ∀ v n cs, r v n cs → r' v n cs) : Ct G ynm yc 0 0 As (nN G) (cellOf G S B M) r' := by
  intro p e ha hc hk s m args below hf happ hP hK
  obtain ⟨kk, oo, h1, h2, h3, ⟨⟨v, n', cs', q1, q2, q3⟩, q4⟩, q5⟩ := h p e ha hc hk s m args below hf happ hP hK
  exact ⟨kk, oo, h1, h2, h3, ⟨⟨v, n', cs', q1, hr _ _ _ q2, q3⟩, q4⟩, q5⟩
/-- an act of the object itself -/
theorem ct_act {ynm : MethodName} {yc : YX} {As : List Value} {r : Int32 × Ab} (h : Ct G ynm yc 0 0 As (nN G) (cellOf G S B M) (Re G (some (.int (recX w r).1)) (fun a : (Nat → Sh) × Bc => a.1) (fun a => a.2) (fun _ => M) (fun a => GC a.1 a.2 (recX w r).2))) (hr : VB (t + 999) r.2) : Ct G ynm yc 0 0 As (nN G) (cellOf G S B M) (Rx G M (AcP w t)) :=
  ct_post h (fun v n cs q => by obtain ⟨a, rfl, rfl, rfl, q⟩ := q; exact ⟨_, _, _, rfl, rfl, rfl, r, rfl, q, hr⟩)
theorem a_tell (hG : GC S B w) (hB : VB t w.1) (c r x h : Int32) : Ct G yX3_tell YX3_tell 0 0 [.ref (gB G + 0), .int c, .int r, .int x, .int h] (nN G) (cellOf G S B M) (Rx G M (AcP w t)) := ct_act (c_X3_tell hG c r x h) (le_999 (VB_tellX hB c r x h))
theorem a_cut (hG : GC S B w) (hB : VB t w.1) (ht : t ≤ 1000000) (v : Int32) : Ct G yX3_cut YX3_cut 0 0 [.ref (gB G + 0), .int v] (nN G) (cellOf G S B M) (Rx G M (AcP w t)) := ct_act (c_X3_cut hG v) (VB_cutX hB ht v)
theorem a_setLead (hG : GC S B w) (hB : VB t w.1) (v c : Int32) : Ct G yX3_setLead YX3_setLead 0 0 [.ref (gB G + 0), .int v, .int c] (nN G) (cellOf G S B M) (Rx G M (AcP w t)) := ct_act (c_X3_setLead hG v c) (le_999 (VB_leadX hB v c))
theorem a_set (hG : GC S B w) (hB : VB t w.1) (v c : Int32) : Ct G yX3_set YX3_set 0 0 [.ref (gB G + 0), .int v, .int c] (nN G) (cellOf G S B M) (Rx G M (AcP w t)) := ct_act (c_X3_set hG v c) (le_999 (VB_setX hB v c))
theorem a_pause (hG : GC S B w) (hB : VB t w.1) (ht : t ≤ 1000000) (v : Int32) : Ct G yX3_pause YX3_pause 0 0 [.ref (gB G + 0), .int v] (nN G) (cellOf G S B M) (Rx G M (AcP w t)) := ct_act (c_X3_pause hG v) (VB_waitX hB ht v)
theorem a_clean (hG : GC S B w) (hB : VB t w.1) (ht : t ≤ 1000000) : Ct G yX3_clean YX3_clean 0 0 [.ref (gB G + 0)] (nN G) (cellOf G S B M) (Rx G M (AcP w t)) := ct_act (c_X3_clean hG) (VB_cleanX hB ht)
set_option maxHeartbeats 4000000 in
set_option maxRecDepth 100000 in
theorem w_within (hG : GC S B w) (hB : VB t w.1) (hk : k ≤ w.1.1) (b : Int32) : Ct G yL_within YL_within 0 0 [.ref (gB G + 0), .int (nI k), .int b] (nN G) (cellOf G S B M) (Rx G M (AcP w t)) := by
  refine ct_of (by decide +kernel) rfl rfl (Nat.le_of_ble_eq_true rfl) (by simp [Value.category]) ?_
  refine x_sub (l' := [(0, .ref (gB G + 0)), (1, .int (nI k)), (2, .int b)]) ⟨rfl, rfl, rfl, trivial⟩ ?_
  have h12 := hB.1.le
  refine x_iload_n (pc := 0) dL_within_0 rfl ?_
  refine x_aload_n (pc := 1) dL_within_1 rfl ?_
  refine x_iconst (pc := 2) (0) dL_within_2 (by decide) ?_
  refine t_Vi (pc := 3) (n_0 hG) qV_X3_count mL_L_9 dL_within_3 rfl cell_bc (nN_lt (by decide)) rfl rfl rfl ⟨by decide, by decide⟩ (Nat.le_of_ble_eq_true rfl) (Nat.le_of_ble_eq_true rfl) (Nat.le_of_ble_eq_true rfl) ?_
  refine x_cmpeq (pc := 6) 29 dL_within_6 (by decide) (fun c6 => ?_) (fun c6 => ?_)
  · refine x_aload_n (pc := 29) dL_within_29 rfl ?_
    refine x_iconst (pc := 30) (0) dL_within_30 (by decide) ?_
    refine x_iconst (pc := 31) (0) dL_within_31 (by decide) ?_
    refine x_bipush (pc := 32) (33) dL_within_32 (by decide) ?_
    refine x_iconst (pc := 34) (2) dL_within_34 (by decide) ?_
    refine r_Vi (pc := 35) (a_tell hG hB _ _ _ _) qV_X3_tell mL_L_21 dL_within_35 rfl cell_bc (nN_lt (by decide)) rfl rfl rfl ⟨by decide, by decide⟩ (Nat.le_of_ble_eq_true rfl) (Nat.le_of_ble_eq_true rfl) (Nat.le_of_ble_eq_true rfl) ?_
    intro x S2 B2 hx
    exact x_iret rfl dL_within_38 ⟨_, _, _, rfl, rfl, rfl, hx⟩
  · have hk2 : k < w.1.1 := by
      rcases Nat.lt_or_ge k w.1.1 with e | e
      · exact e
      · exact absurd (by rw [Nat.le_antisymm hk e]) c6
    refine x_aload_n (pc := 9) dL_within_9 rfl ?_
    refine x_iload_n (pc := 10) dL_within_10 rfl ?_
    refine x_iconst (pc := 11) (2) dL_within_11 (by decide) ?_
    refine t_Vi (pc := 12) (s_2 hG hk2) qV_X3_shape mL_L_45 dL_within_12 rfl cell_bc (nN_lt (by decide)) rfl rfl rfl ⟨by decide, by decide⟩ (Nat.le_of_ble_eq_true rfl) (Nat.le_of_ble_eq_true rfl) (Nat.le_of_ble_eq_true rfl) ?_
    refine x_iconst (pc := 15) (4) dL_within_15 (by decide) ?_
    refine x_cmplt (pc := 16) 29 dL_within_16 (by decide) (fun c16 => ?_) (fun c16 => ?_)
    · refine x_aload_n (pc := 29) dL_within_29 rfl ?_
      refine x_iconst (pc := 30) (0) dL_within_30 (by decide) ?_
      refine x_iconst (pc := 31) (0) dL_within_31 (by decide) ?_
      refine x_bipush (pc := 32) (33) dL_within_32 (by decide) ?_
      refine x_iconst (pc := 34) (2) dL_within_34 (by decide) ?_
      refine r_Vi (pc := 35) (a_tell hG hB _ _ _ _) qV_X3_tell mL_L_21 dL_within_35 rfl cell_bc (nN_lt (by decide)) rfl rfl rfl ⟨by decide, by decide⟩ (Nat.le_of_ble_eq_true rfl) (Nat.le_of_ble_eq_true rfl) (Nat.le_of_ble_eq_true rfl) ?_
      intro x S2 B2 hx
      exact x_iret rfl dL_within_38 ⟨_, _, _, rfl, rfl, rfl, hx⟩
    · refine x_aload_n (pc := 19) dL_within_19 rfl ?_
      refine x_iload_n (pc := 20) dL_within_20 rfl ?_
      refine x_iconst (pc := 21) (3) dL_within_21 (by decide) ?_
      refine t_Vi (pc := 22) (s_3 hG hk2) qV_X3_shape mL_L_45 dL_within_22 rfl cell_bc (nN_lt (by decide)) rfl rfl rfl ⟨by decide, by decide⟩ (Nat.le_of_ble_eq_true rfl) (Nat.le_of_ble_eq_true rfl) (Nat.le_of_ble_eq_true rfl) ?_
      refine x_iconst (pc := 25) (4) dL_within_25 (by decide) ?_
      refine x_cmpge (pc := 26) 39 dL_within_26 (by decide) (fun c26 => ?_) (fun c26 => ?_)
      · refine x_iconst (pc := 39) (2) dL_within_39 (by decide) ?_
        refine x_iload_n (pc := 40) dL_within_40 rfl ?_
        refine x_aload_n (pc := 41) dL_within_41 rfl ?_
        refine x_iload_n (pc := 42) dL_within_42 rfl ?_
        refine x_iconst (pc := 43) (2) dL_within_43 (by decide) ?_
        refine t_Vi (pc := 44) (s_2 hG hk2) qV_X3_shape mL_L_45 dL_within_44 rfl cell_bc (nN_lt (by decide)) rfl rfl rfl ⟨by decide, by decide⟩ (Nat.le_of_ble_eq_true rfl) (Nat.le_of_ble_eq_true rfl) (Nat.le_of_ble_eq_true rfl) ?_
        refine x_iconst (pc := 47) (3) dL_within_47 (by decide) ?_
        refine x_isub (pc := 48) dL_within_48 ?_
        refine t_Si (pc := 49) (l_low _ _ (nz_3 (w_in (hB.1.sh hk2)).1 c16)) qS_L_low mL_L_15 dL_within_49 rfl rfl rfl ⟨by decide, by decide⟩ (Nat.le_of_ble_eq_true rfl) (Nat.le_of_ble_eq_true rfl) (Nat.le_of_ble_eq_true rfl) ?_
        refine x_iadd (pc := 52) dL_within_52 ?_
        refine x_istore_n (pc := 53) dL_within_53 (by decide) ?_
        refine x_iconst (pc := 54) (2) dL_within_54 (by decide) ?_
        refine x_iload_n (pc := 55) dL_within_55 rfl ?_
        refine x_iconst (pc := 56) (5) dL_within_56 (by decide) ?_
        refine x_ishr (pc := 57) dL_within_57 ?_
        refine x_aload_n (pc := 58) dL_within_58 rfl ?_
        refine x_iload_n (pc := 59) dL_within_59 rfl ?_
        refine x_iconst (pc := 60) (3) dL_within_60 (by decide) ?_
        refine t_Vi (pc := 61) (s_3 hG hk2) qV_X3_shape mL_L_45 dL_within_61 rfl cell_bc (nN_lt (by decide)) rfl rfl rfl ⟨by decide, by decide⟩ (Nat.le_of_ble_eq_true rfl) (Nat.le_of_ble_eq_true rfl) (Nat.le_of_ble_eq_true rfl) ?_
        refine x_iconst (pc := 64) (3) dL_within_64 (by decide) ?_
        refine x_isub (pc := 65) dL_within_65 ?_
        refine t_Si (pc := 66) (l_low _ _ (nz_3 (w_in (hB.1.sh hk2)).2 c26)) qS_L_low mL_L_15 dL_within_66 rfl rfl rfl ⟨by decide, by decide⟩ (Nat.le_of_ble_eq_true rfl) (Nat.le_of_ble_eq_true rfl) (Nat.le_of_ble_eq_true rfl) ?_
        refine x_iadd (pc := 69) dL_within_69 ?_
        refine x_istore (pc := 70) dL_within_70 (by decide) ?_
        refine x_aload_n (pc := 72) dL_within_72 rfl ?_
        refine x_aload_n (pc := 73) dL_within_73 rfl ?_
        refine x_iload_n (pc := 74) dL_within_74 rfl ?_
        refine x_iconst (pc := 75) (0) dL_within_75 (by decide) ?_
        refine t_Vi (pc := 76) (s_0 hG hk2) qV_X3_shape mL_L_45 dL_within_76 rfl cell_bc (nN_lt (by decide)) rfl rfl rfl ⟨by decide, by decide⟩ (Nat.le_of_ble_eq_true rfl) (Nat.le_of_ble_eq_true rfl) (Nat.le_of_ble_eq_true rfl) ?_
        refine x_iconst (pc := 79) (1) dL_within_79 (by decide) ?_
        refine x_iadd (pc := 80) dL_within_80 ?_
        refine x_aload_n (pc := 81) dL_within_81 rfl ?_
        refine x_iload_n (pc := 82) dL_within_82 rfl ?_
        refine x_iconst (pc := 83) (1) dL_within_83 (by decide) ?_
        refine t_Vi (pc := 84) (s_1 hG hk2) qV_X3_shape mL_L_45 dL_within_84 rfl cell_bc (nN_lt (by decide)) rfl rfl rfl ⟨by decide, by decide⟩ (Nat.le_of_ble_eq_true rfl) (Nat.le_of_ble_eq_true rfl) (Nat.le_of_ble_eq_true rfl) ?_
        refine x_iconst (pc := 87) (1) dL_within_87 (by decide) ?_
        refine x_iadd (pc := 88) dL_within_88 ?_
        refine x_iload_n (pc := 89) dL_within_89 rfl ?_
        refine x_iload (pc := 90) dL_within_90 rfl ?_
        refine r_Vi (pc := 92) (a_tell hG hB _ _ _ _) qV_X3_tell mL_L_21 dL_within_92 rfl cell_bc (nN_lt (by decide)) rfl rfl rfl ⟨by decide, by decide⟩ (Nat.le_of_ble_eq_true rfl) (Nat.le_of_ble_eq_true rfl) (Nat.le_of_ble_eq_true rfl) ?_
        intro x S2 B2 hx
        exact x_iret rfl dL_within_95 ⟨_, _, _, rfl, rfl, rfl, hx⟩
      · refine x_aload_n (pc := 29) dL_within_29 rfl ?_
        refine x_iconst (pc := 30) (0) dL_within_30 (by decide) ?_
        refine x_iconst (pc := 31) (0) dL_within_31 (by decide) ?_
        refine x_bipush (pc := 32) (33) dL_within_32 (by decide) ?_
        refine x_iconst (pc := 34) (2) dL_within_34 (by decide) ?_
        refine r_Vi (pc := 35) (a_tell hG hB _ _ _ _) qV_X3_tell mL_L_21 dL_within_35 rfl cell_bc (nN_lt (by decide)) rfl rfl rfl ⟨by decide, by decide⟩ (Nat.le_of_ble_eq_true rfl) (Nat.le_of_ble_eq_true rfl) (Nat.le_of_ble_eq_true rfl) ?_
        intro x S2 B2 hx
        exact x_iret rfl dL_within_38 ⟨_, _, _, rfl, rfl, rfl, hx⟩
set_option maxHeartbeats 4000000 in
set_option maxRecDepth 100000 in
theorem w_act (hG : GC S B w) (hB : VB t w.1) (ht : t ≤ 1000000) (x a b : Int32) : Ct G yL_act YL_act 0 0 [.ref (gB G + 0), .int x, .int a, .int b] (nN G) (cellOf G S B M) (Rx G M (AcP w t)) := by
  refine ct_of (by decide +kernel) rfl rfl (Nat.le_of_ble_eq_true rfl) (by simp [Value.category]) ?_
  refine x_sub (l' := [(0, .ref (gB G + 0)), (1, .int x), (2, .int a), (3, .int b)]) ⟨rfl, rfl, rfl, rfl, trivial⟩ ?_
  have h12 := hB.1.le
  obtain ⟨k, hk, ek⟩ := low_in a (n := w.1.1 + 1) (by omega) (by omega)
  rw [← inc_nI] at ek
  refine x_iload_n (pc := 0) dL_act_0 rfl ?_
  refine x_aload_n (pc := 1) dL_act_1 rfl ?_
  refine x_iconst (pc := 2) (0) dL_act_2 (by decide) ?_
  refine t_Vi (pc := 3) (n_0 hG) qV_X3_count mL_L_9 dL_act_3 rfl cell_bc (nN_lt (by decide)) rfl rfl rfl ⟨by decide, by decide⟩ (Nat.le_of_ble_eq_true rfl) (Nat.le_of_ble_eq_true rfl) (Nat.le_of_ble_eq_true rfl) ?_
  refine x_iconst (pc := 6) (1) dL_act_6 (by decide) ?_
  refine x_iadd (pc := 7) dL_act_7 ?_
  refine t_Si (pc := 8) (l_low _ _ (nz_1 h12)) qS_L_low mL_L_15 dL_act_8 rfl rfl rfl ⟨by decide, by decide⟩ (Nat.le_of_ble_eq_true rfl) (Nat.le_of_ble_eq_true rfl) (Nat.le_of_ble_eq_true rfl) ?_
  try dsimp only
  rw [ek]
  refine x_istore (pc := 11) dL_act_11 (by decide) ?_
  refine x_iload_n (pc := 13) dL_act_13 rfl ?_
  by_cases hw : betw x 0 (nI 11) = true
  · obtain ⟨q, hq, rfl, hcq⟩ := betw_some (n := 11) rfl (by decide) hw
    rcases (show q = 0 ∨ q = 1 ∨ q = 2 ∨ q = 3 ∨ q = 4 ∨ q = 5 ∨ q = 6 ∨ q = 7 ∨ q = 8 ∨ q = 9 ∨ q = 10 ∨ q = 11 by omega) with rfl | rfl | rfl | rfl | rfl | rfl | rfl | rfl | rfl | rfl | rfl | rfl
    · refine x_tableIn (pc := 14) 76 dL_act_14 (by decide) (by decide) rfl (by decide) ?_
      refine x_aload_n (pc := 76) dL_act_76 rfl ?_
      refine x_iload_n (pc := 77) dL_act_77 rfl ?_
      refine x_bipush (pc := 78) (31) dL_act_78 (by decide) ?_
      refine t_Si (pc := 80) (l_low _ _ (by decide)) qS_L_low mL_L_15 dL_act_80 rfl rfl rfl ⟨by decide, by decide⟩ (Nat.le_of_ble_eq_true rfl) (Nat.le_of_ble_eq_true rfl) (Nat.le_of_ble_eq_true rfl) ?_
      refine x_iload_n (pc := 83) dL_act_83 rfl ?_
      refine x_iconst (pc := 84) (5) dL_act_84 (by decide) ?_
      refine x_ishr (pc := 85) dL_act_85 ?_
      refine x_bipush (pc := 86) (23) dL_act_86 (by decide) ?_
      refine t_Si (pc := 88) (l_low _ _ (by decide)) qS_L_low mL_L_15 dL_act_88 rfl rfl rfl ⟨by decide, by decide⟩ (Nat.le_of_ble_eq_true rfl) (Nat.le_of_ble_eq_true rfl) (Nat.le_of_ble_eq_true rfl) ?_
      refine x_iconst (pc := 91) (2) dL_act_91 (by decide) ?_
      refine x_iload_n (pc := 92) dL_act_92 rfl ?_
      refine x_bipush (pc := 93) (14) dL_act_93 (by decide) ?_
      refine t_Si (pc := 95) (l_low _ _ (by decide)) qS_L_low mL_L_15 dL_act_95 rfl rfl rfl ⟨by decide, by decide⟩ (Nat.le_of_ble_eq_true rfl) (Nat.le_of_ble_eq_true rfl) (Nat.le_of_ble_eq_true rfl) ?_
      refine x_iadd (pc := 98) dL_act_98 ?_
      refine x_iconst (pc := 99) (2) dL_act_99 (by decide) ?_
      refine x_iload_n (pc := 100) dL_act_100 rfl ?_
      refine x_iconst (pc := 101) (4) dL_act_101 (by decide) ?_
      refine x_ishr (pc := 102) dL_act_102 ?_
      refine x_bipush (pc := 103) (10) dL_act_103 (by decide) ?_
      refine t_Si (pc := 105) (l_low _ _ (by decide)) qS_L_low mL_L_15 dL_act_105 rfl rfl rfl ⟨by decide, by decide⟩ (Nat.le_of_ble_eq_true rfl) (Nat.le_of_ble_eq_true rfl) (Nat.le_of_ble_eq_true rfl) ?_
      refine x_iadd (pc := 108) dL_act_108 ?_
      refine r_Vi (pc := 109) (a_tell hG hB _ _ _ _) qV_X3_tell mL_L_21 dL_act_109 rfl cell_bc (nN_lt (by decide)) rfl rfl rfl ⟨by decide, by decide⟩ (Nat.le_of_ble_eq_true rfl) (Nat.le_of_ble_eq_true rfl) (Nat.le_of_ble_eq_true rfl) ?_
      intro x S2 B2 hx
      exact x_iret rfl dL_act_112 ⟨_, _, _, rfl, rfl, rfl, hx⟩
    · refine x_tableIn (pc := 14) 76 dL_act_14 (by decide) (by decide) rfl (by decide) ?_
      refine x_aload_n (pc := 76) dL_act_76 rfl ?_
      refine x_iload_n (pc := 77) dL_act_77 rfl ?_
      refine x_bipush (pc := 78) (31) dL_act_78 (by decide) ?_
      refine t_Si (pc := 80) (l_low _ _ (by decide)) qS_L_low mL_L_15 dL_act_80 rfl rfl rfl ⟨by decide, by decide⟩ (Nat.le_of_ble_eq_true rfl) (Nat.le_of_ble_eq_true rfl) (Nat.le_of_ble_eq_true rfl) ?_
      refine x_iload_n (pc := 83) dL_act_83 rfl ?_
      refine x_iconst (pc := 84) (5) dL_act_84 (by decide) ?_
      refine x_ishr (pc := 85) dL_act_85 ?_
      refine x_bipush (pc := 86) (23) dL_act_86 (by decide) ?_
      refine t_Si (pc := 88) (l_low _ _ (by decide)) qS_L_low mL_L_15 dL_act_88 rfl rfl rfl ⟨by decide, by decide⟩ (Nat.le_of_ble_eq_true rfl) (Nat.le_of_ble_eq_true rfl) (Nat.le_of_ble_eq_true rfl) ?_
      refine x_iconst (pc := 91) (2) dL_act_91 (by decide) ?_
      refine x_iload_n (pc := 92) dL_act_92 rfl ?_
      refine x_bipush (pc := 93) (14) dL_act_93 (by decide) ?_
      refine t_Si (pc := 95) (l_low _ _ (by decide)) qS_L_low mL_L_15 dL_act_95 rfl rfl rfl ⟨by decide, by decide⟩ (Nat.le_of_ble_eq_true rfl) (Nat.le_of_ble_eq_true rfl) (Nat.le_of_ble_eq_true rfl) ?_
      refine x_iadd (pc := 98) dL_act_98 ?_
      refine x_iconst (pc := 99) (2) dL_act_99 (by decide) ?_
      refine x_iload_n (pc := 100) dL_act_100 rfl ?_
      refine x_iconst (pc := 101) (4) dL_act_101 (by decide) ?_
      refine x_ishr (pc := 102) dL_act_102 ?_
      refine x_bipush (pc := 103) (10) dL_act_103 (by decide) ?_
      refine t_Si (pc := 105) (l_low _ _ (by decide)) qS_L_low mL_L_15 dL_act_105 rfl rfl rfl ⟨by decide, by decide⟩ (Nat.le_of_ble_eq_true rfl) (Nat.le_of_ble_eq_true rfl) (Nat.le_of_ble_eq_true rfl) ?_
      refine x_iadd (pc := 108) dL_act_108 ?_
      refine r_Vi (pc := 109) (a_tell hG hB _ _ _ _) qV_X3_tell mL_L_21 dL_act_109 rfl cell_bc (nN_lt (by decide)) rfl rfl rfl ⟨by decide, by decide⟩ (Nat.le_of_ble_eq_true rfl) (Nat.le_of_ble_eq_true rfl) (Nat.le_of_ble_eq_true rfl) ?_
      intro x S2 B2 hx
      exact x_iret rfl dL_act_112 ⟨_, _, _, rfl, rfl, rfl, hx⟩
    · refine x_tableIn (pc := 14) 76 dL_act_14 (by decide) (by decide) rfl (by decide) ?_
      refine x_aload_n (pc := 76) dL_act_76 rfl ?_
      refine x_iload_n (pc := 77) dL_act_77 rfl ?_
      refine x_bipush (pc := 78) (31) dL_act_78 (by decide) ?_
      refine t_Si (pc := 80) (l_low _ _ (by decide)) qS_L_low mL_L_15 dL_act_80 rfl rfl rfl ⟨by decide, by decide⟩ (Nat.le_of_ble_eq_true rfl) (Nat.le_of_ble_eq_true rfl) (Nat.le_of_ble_eq_true rfl) ?_
      refine x_iload_n (pc := 83) dL_act_83 rfl ?_
      refine x_iconst (pc := 84) (5) dL_act_84 (by decide) ?_
      refine x_ishr (pc := 85) dL_act_85 ?_
      refine x_bipush (pc := 86) (23) dL_act_86 (by decide) ?_
      refine t_Si (pc := 88) (l_low _ _ (by decide)) qS_L_low mL_L_15 dL_act_88 rfl rfl rfl ⟨by decide, by decide⟩ (Nat.le_of_ble_eq_true rfl) (Nat.le_of_ble_eq_true rfl) (Nat.le_of_ble_eq_true rfl) ?_
      refine x_iconst (pc := 91) (2) dL_act_91 (by decide) ?_
      refine x_iload_n (pc := 92) dL_act_92 rfl ?_
      refine x_bipush (pc := 93) (14) dL_act_93 (by decide) ?_
      refine t_Si (pc := 95) (l_low _ _ (by decide)) qS_L_low mL_L_15 dL_act_95 rfl rfl rfl ⟨by decide, by decide⟩ (Nat.le_of_ble_eq_true rfl) (Nat.le_of_ble_eq_true rfl) (Nat.le_of_ble_eq_true rfl) ?_
      refine x_iadd (pc := 98) dL_act_98 ?_
      refine x_iconst (pc := 99) (2) dL_act_99 (by decide) ?_
      refine x_iload_n (pc := 100) dL_act_100 rfl ?_
      refine x_iconst (pc := 101) (4) dL_act_101 (by decide) ?_
      refine x_ishr (pc := 102) dL_act_102 ?_
      refine x_bipush (pc := 103) (10) dL_act_103 (by decide) ?_
      refine t_Si (pc := 105) (l_low _ _ (by decide)) qS_L_low mL_L_15 dL_act_105 rfl rfl rfl ⟨by decide, by decide⟩ (Nat.le_of_ble_eq_true rfl) (Nat.le_of_ble_eq_true rfl) (Nat.le_of_ble_eq_true rfl) ?_
      refine x_iadd (pc := 108) dL_act_108 ?_
      refine r_Vi (pc := 109) (a_tell hG hB _ _ _ _) qV_X3_tell mL_L_21 dL_act_109 rfl cell_bc (nN_lt (by decide)) rfl rfl rfl ⟨by decide, by decide⟩ (Nat.le_of_ble_eq_true rfl) (Nat.le_of_ble_eq_true rfl) (Nat.le_of_ble_eq_true rfl) ?_
      intro x S2 B2 hx
      exact x_iret rfl dL_act_112 ⟨_, _, _, rfl, rfl, rfl, hx⟩
    · refine x_tableIn (pc := 14) 113 dL_act_14 (by decide) (by decide) rfl (by decide) ?_
      refine x_aload_n (pc := 113) dL_act_113 rfl ?_
      refine x_iload (pc := 114) dL_act_114 rfl ?_
      refine x_iload_n (pc := 116) dL_act_116 rfl ?_
      refine r_Si (pc := 117) (w_within hG hB (Nat.lt_succ_iff.mp hk) _) qS_L_within mL_L_25 dL_act_117 rfl rfl rfl ⟨by decide, by decide⟩ (Nat.le_of_ble_eq_true rfl) (Nat.le_of_ble_eq_true rfl) (Nat.le_of_ble_eq_true rfl) ?_
      intro x S2 B2 hx
      exact x_iret rfl dL_act_120 ⟨_, _, _, rfl, rfl, rfl, hx⟩
    · refine x_tableIn (pc := 14) 113 dL_act_14 (by decide) (by decide) rfl (by decide) ?_
      refine x_aload_n (pc := 113) dL_act_113 rfl ?_
      refine x_iload (pc := 114) dL_act_114 rfl ?_
      refine x_iload_n (pc := 116) dL_act_116 rfl ?_
      refine r_Si (pc := 117) (w_within hG hB (Nat.lt_succ_iff.mp hk) _) qS_L_within mL_L_25 dL_act_117 rfl rfl rfl ⟨by decide, by decide⟩ (Nat.le_of_ble_eq_true rfl) (Nat.le_of_ble_eq_true rfl) (Nat.le_of_ble_eq_true rfl) ?_
      intro x S2 B2 hx
      exact x_iret rfl dL_act_120 ⟨_, _, _, rfl, rfl, rfl, hx⟩
    · refine x_tableIn (pc := 14) 121 dL_act_14 (by decide) (by decide) rfl (by decide) ?_
      refine x_aload_n (pc := 121) dL_act_121 rfl ?_
      refine x_iload (pc := 122) dL_act_122 rfl ?_
      refine r_Vi (pc := 124) (a_cut hG hB ht _) qV_X3_cut mL_L_29 dL_act_124 rfl cell_bc (nN_lt (by decide)) rfl rfl rfl ⟨by decide, by decide⟩ (Nat.le_of_ble_eq_true rfl) (Nat.le_of_ble_eq_true rfl) (Nat.le_of_ble_eq_true rfl) ?_
      intro x S2 B2 hx
      exact x_iret rfl dL_act_127 ⟨_, _, _, rfl, rfl, rfl, hx⟩
    · refine x_tableIn (pc := 14) 121 dL_act_14 (by decide) (by decide) rfl (by decide) ?_
      refine x_aload_n (pc := 121) dL_act_121 rfl ?_
      refine x_iload (pc := 122) dL_act_122 rfl ?_
      refine r_Vi (pc := 124) (a_cut hG hB ht _) qV_X3_cut mL_L_29 dL_act_124 rfl cell_bc (nN_lt (by decide)) rfl rfl rfl ⟨by decide, by decide⟩ (Nat.le_of_ble_eq_true rfl) (Nat.le_of_ble_eq_true rfl) (Nat.le_of_ble_eq_true rfl) ?_
      intro x S2 B2 hx
      exact x_iret rfl dL_act_127 ⟨_, _, _, rfl, rfl, rfl, hx⟩
    · refine x_tableIn (pc := 14) 121 dL_act_14 (by decide) (by decide) rfl (by decide) ?_
      refine x_aload_n (pc := 121) dL_act_121 rfl ?_
      refine x_iload (pc := 122) dL_act_122 rfl ?_
      refine r_Vi (pc := 124) (a_cut hG hB ht _) qV_X3_cut mL_L_29 dL_act_124 rfl cell_bc (nN_lt (by decide)) rfl rfl rfl ⟨by decide, by decide⟩ (Nat.le_of_ble_eq_true rfl) (Nat.le_of_ble_eq_true rfl) (Nat.le_of_ble_eq_true rfl) ?_
      intro x S2 B2 hx
      exact x_iret rfl dL_act_127 ⟨_, _, _, rfl, rfl, rfl, hx⟩
    · refine x_tableIn (pc := 14) 121 dL_act_14 (by decide) (by decide) rfl (by decide) ?_
      refine x_aload_n (pc := 121) dL_act_121 rfl ?_
      refine x_iload (pc := 122) dL_act_122 rfl ?_
      refine r_Vi (pc := 124) (a_cut hG hB ht _) qV_X3_cut mL_L_29 dL_act_124 rfl cell_bc (nN_lt (by decide)) rfl rfl rfl ⟨by decide, by decide⟩ (Nat.le_of_ble_eq_true rfl) (Nat.le_of_ble_eq_true rfl) (Nat.le_of_ble_eq_true rfl) ?_
      intro x S2 B2 hx
      exact x_iret rfl dL_act_127 ⟨_, _, _, rfl, rfl, rfl, hx⟩
    · refine x_tableIn (pc := 14) 128 dL_act_14 (by decide) (by decide) rfl (by decide) ?_
      refine x_aload_n (pc := 128) dL_act_128 rfl ?_
      refine x_iload (pc := 129) dL_act_129 rfl ?_
      refine x_iload_n (pc := 131) dL_act_131 rfl ?_
      refine x_iconst (pc := 132) (5) dL_act_132 (by decide) ?_
      refine t_Si (pc := 133) (l_low _ _ (by decide)) qS_L_low mL_L_15 dL_act_133 rfl rfl rfl ⟨by decide, by decide⟩ (Nat.le_of_ble_eq_true rfl) (Nat.le_of_ble_eq_true rfl) (Nat.le_of_ble_eq_true rfl) ?_
      refine r_Vi (pc := 136) (a_setLead hG hB _ _) qV_X3_setLead mL_L_32 dL_act_136 rfl cell_bc (nN_lt (by decide)) rfl rfl rfl ⟨by decide, by decide⟩ (Nat.le_of_ble_eq_true rfl) (Nat.le_of_ble_eq_true rfl) (Nat.le_of_ble_eq_true rfl) ?_
      intro x S2 B2 hx
      exact x_iret rfl dL_act_139 ⟨_, _, _, rfl, rfl, rfl, hx⟩
    · refine x_tableIn (pc := 14) 140 dL_act_14 (by decide) (by decide) rfl (by decide) ?_
      refine x_aload_n (pc := 140) dL_act_140 rfl ?_
      refine x_iload_n (pc := 141) dL_act_141 rfl ?_
      refine x_bipush (pc := 142) (60) dL_act_142 (by decide) ?_
      refine t_Si (pc := 144) (l_low _ _ (by decide)) qS_L_low mL_L_15 dL_act_144 rfl rfl rfl ⟨by decide, by decide⟩ (Nat.le_of_ble_eq_true rfl) (Nat.le_of_ble_eq_true rfl) (Nat.le_of_ble_eq_true rfl) ?_
      refine r_Vi (pc := 147) (a_pause hG hB ht _) qV_X3_pause mL_L_35 dL_act_147 rfl cell_bc (nN_lt (by decide)) rfl rfl rfl ⟨by decide, by decide⟩ (Nat.le_of_ble_eq_true rfl) (Nat.le_of_ble_eq_true rfl) (Nat.le_of_ble_eq_true rfl) ?_
      intro x S2 B2 hx
      exact x_iret rfl dL_act_150 ⟨_, _, _, rfl, rfl, rfl, hx⟩
    · refine x_tableIn (pc := 14) 151 dL_act_14 (by decide) (by decide) rfl (by decide) ?_
      refine x_aload_n (pc := 151) dL_act_151 rfl ?_
      refine r_Vi (pc := 152) (a_clean hG hB ht) qV_X3_clean mL_L_38 dL_act_152 rfl cell_bc (nN_lt (by decide)) rfl rfl rfl ⟨by decide, by decide⟩ (Nat.le_of_ble_eq_true rfl) (Nat.le_of_ble_eq_true rfl) (Nat.le_of_ble_eq_true rfl) ?_
      intro x S2 B2 hx
      exact x_iret rfl dL_act_155 ⟨_, _, _, rfl, rfl, rfl, hx⟩
  · have ho := betw_out rfl (by decide) hw
    refine x_tableOut (pc := 14) 156 dL_act_14 ho (by decide) ?_
    refine x_iload_n (pc := 156) dL_act_156 rfl ?_
    refine x_iconst (pc := 157) (5) dL_act_157 (by decide) ?_
    refine t_Si (pc := 158) (l_low _ _ (by decide)) qS_L_low mL_L_15 dL_act_158 rfl rfl rfl ⟨by decide, by decide⟩ (Nat.le_of_ble_eq_true rfl) (Nat.le_of_ble_eq_true rfl) (Nat.le_of_ble_eq_true rfl) ?_
    refine x_istore (pc := 161) dL_act_161 (by decide) ?_
    refine x_aload_n (pc := 163) dL_act_163 rfl ?_
    refine x_iload (pc := 164) dL_act_164 rfl ?_
    refine x_iload (pc := 166) dL_act_166 rfl ?_
    refine x_iconst (pc := 168) (2) dL_act_168 (by decide) ?_
    refine x_cmpne (pc := 169) 181 dL_act_169 (by decide) (fun c169 => ?_) (fun c169 => ?_)
    · refine x_iload (pc := 181) dL_act_181 rfl ?_
      refine x_iconst (pc := 183) (3) dL_act_183 (by decide) ?_
      refine x_cmpne (pc := 184) 193 dL_act_184 (by decide) (fun c184 => ?_) (fun c184 => ?_)
      · refine x_iload_n (pc := 193) dL_act_193 rfl ?_
        refine x_bipush (pc := 194) (9) dL_act_194 (by decide) ?_
        refine t_Si (pc := 196) (l_low _ _ (by decide)) qS_L_low mL_L_15 dL_act_196 rfl rfl rfl ⟨by decide, by decide⟩ (Nat.le_of_ble_eq_true rfl) (Nat.le_of_ble_eq_true rfl) (Nat.le_of_ble_eq_true rfl) ?_
        refine r_Vi (pc := 199) (a_set hG hB _ _) qV_X3_set mL_L_42 dL_act_199 rfl cell_bc (nN_lt (by decide)) rfl rfl rfl ⟨by decide, by decide⟩ (Nat.le_of_ble_eq_true rfl) (Nat.le_of_ble_eq_true rfl) (Nat.le_of_ble_eq_true rfl) ?_
        intro x S2 B2 hx
        exact x_iret rfl dL_act_202 ⟨_, _, _, rfl, rfl, rfl, hx⟩
      · refine x_iload_n (pc := 187) dL_act_187 rfl ?_
        refine x_iconst (pc := 188) (1) dL_act_188 (by decide) ?_
        refine x_iand (pc := 189) dL_act_189 ?_
        refine x_goto (pc := 190) 199 dL_act_190 (by decide) ?_
        refine r_Vi (pc := 199) (a_set hG hB _ _) qV_X3_set mL_L_42 dL_act_199 rfl cell_bc (nN_lt (by decide)) rfl rfl rfl ⟨by decide, by decide⟩ (Nat.le_of_ble_eq_true rfl) (Nat.le_of_ble_eq_true rfl) (Nat.le_of_ble_eq_true rfl) ?_
        intro x S2 B2 hx
        exact x_iret rfl dL_act_202 ⟨_, _, _, rfl, rfl, rfl, hx⟩
    · refine x_iload_n (pc := 172) dL_act_172 rfl ?_
      refine x_bipush (pc := 173) (120) dL_act_173 (by decide) ?_
      refine t_Si (pc := 175) (l_low _ _ (by decide)) qS_L_low mL_L_15 dL_act_175 rfl rfl rfl ⟨by decide, by decide⟩ (Nat.le_of_ble_eq_true rfl) (Nat.le_of_ble_eq_true rfl) (Nat.le_of_ble_eq_true rfl) ?_
      refine x_goto (pc := 178) 199 dL_act_178 (by decide) ?_
      refine r_Vi (pc := 199) (a_set hG hB _ _) qV_X3_set mL_L_42 dL_act_199 rfl cell_bc (nN_lt (by decide)) rfl rfl rfl ⟨by decide, by decide⟩ (Nat.le_of_ble_eq_true rfl) (Nat.le_of_ble_eq_true rfl) (Nat.le_of_ble_eq_true rfl) ?_
      intro x S2 B2 hx
      exact x_iret rfl dL_act_202 ⟨_, _, _, rfl, rfl, rfl, hx⟩
end ACT
