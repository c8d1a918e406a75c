/-! constructors (rows laid by wip/whole/p36.py) -/
def cset (cs : Nat → va_E) (o : Nat) (e : va_E) : Nat → va_E := fun q => if q = o then e else cs q
section CSET
variable {cs : Nat → va_E} {o a n : Nat} {e e' f f' : va_E}
theorem cset_same : cset cs o e o = e := by simp [cset]
theorem cset_ne {q : Nat} (h : q ≠ o) : cset cs o e q = cs q := by simp [cset, h]
theorem cset_put : ∀ q, q < n → cset cs o e' q = if q = o then e' else cset cs o e q := by
  intro q _
  by_cases h : q = o
  · simp [cset, h]
  · simp [cset, h]
theorem cset_id (h : cs n = e) : ∀ q, q < n + 1 → cs q = if q = n then e else cs q := by
  intro q _
  by_cases h2 : q = n
  · subst h2; rw [if_pos rfl]; exact h
  · rw [if_neg h2]
theorem cset_end (h : cs o = e') : ∀ q, q < n → cs q = if q = o then e' else cset cs o e q := by
  intro q _
  by_cases h2 : q = o
  · subst h2; rw [if_pos rfl]; exact h
  · rw [if_neg h2, cset_ne h2]
theorem cset_newin (h : o ≠ n) : ∀ q, q < n + 1 → cset (cset cs n f) o e q = if q = n then f else cset cs o e q := by
  intro q _
  by_cases h2 : q = n
  · subst h2; rw [if_pos rfl, cset_ne (Ne.symm h), cset_same]
  · rw [if_neg h2]
    simp [cset, h2]
theorem cset_putin (h : o ≠ a) : ∀ q, q < n → cset (cset cs a f') o e q = if q = a then f' else cset (cset cs a f) o e q := by
  intro q _
  by_cases h2 : q = a
  · subst h2; rw [if_pos rfl, cset_ne (Ne.symm h), cset_same]
  · rw [if_neg h2]
    simp [cset, h2]
theorem cset_endin (h : o ≠ a) (h2 : cs a = f') : ∀ q, q < n → cset cs o e q = if q = a then f' else cset (cset cs a f) o e q := by
  intro q _
  by_cases h3 : q = a
  · subst h3; rw [if_pos rfl, cset_ne (Ne.symm h), h2]
  · rw [if_neg h3]
    simp [cset, h3]
theorem cset_drop (h : cs a = f) : cset cs a f = cs := by
  funext q
  by_cases h2 : q = a
  · subst h2; rw [cset_same, h]
  · rw [cset_ne h2]
end CSET
theorem arrV_c (c : ClassId) (N : Nat) (f g : Nat → Value) (h : ∀ i, i < N → f i = g i) : arrV c N f = arrV c N g := by
  unfold arrV
  have e : (fun j : Fin N => f j.val) = (fun j : Fin N => g j.val) := by
    funext j
    exact h j.val j.isLt
  rw [e]
abbrev RI (n' : Nat) (cs' : Nat → va_E) : Option Value → Nat → (Nat → va_E) → Prop := fun v n cs => v = none ∧ n = n' ∧ ∀ q, q < n' → cs q = cs' q
section CROWS
variable {G : GX} {y : YX} {E : State → Prop} {Z : ZX} {pc : Nat} {l : List (Nat × Value)} {stk : List Value} {n : Nat} {cs : Nat → va_E} {ck sk : Nat}
/-- the row of an array that is never looked at behind its end -/
theorem x_arrq {o N : Nat} {f f' : Nat → Option Nat} {cT : ClassId} (hcell : cs o = .inl (cT, N, .inr (.inr (.inr (.inr f))))) (hf : ∀ i, i < N → f i = f' i) (kk : XJ G y E Z pc l stk n (cset cs o (.inl (cT, N, .inr (.inr (.inr (.inr f')))))) ck sk) : XJ G y E Z pc l stk n cs ck sk := by
  intro p e s m args below meth c H locs ls F e1 S P L
  refine kk p e s m args below meth c H locs ls F e1 S ⟨P.1, fun q hq => ?_⟩ L
  by_cases h : q = o
  · subst h
    rw [cset_same]
    have := P.2 q hq
    rw [hcell] at this
    have this : H[gB G + q]? = some (vp_cell cT (N, .inr (.inr (.inr (.inr f))))) := this
    show H[gB G + q]? = some (vp_cell cT (N, .inr (.inr (.inr (.inr f')))))
    rw [this, vp_cell_q, vp_cell_q, arrV_c cT N _ _ (fun i hi => by rw [hf i hi])]
  · rw [cset_ne h]
    exact P.2 q hq
theorem t_I {ynm : MethodName} {yc : YX} {idx b mc ms n' : Nat} {rest : List Value} {cs' : Nat → va_E} (hM : Ct G ynm yc mc ms [.ref b] n cs (RI n' cs')) (hq : MqI ynm yc 0) (hret : yc.2.2.2.2.1 = none) (hlink : Cond.methodLink y.2.2.1 idx ynm ∈ WS) (hd : decode y.1 pc = .ok (.invokespecial idx, 3)) (hstk : stk = .ref b :: rest) (hrc : yc.2.2.2.1.cells = mc) (hrs : yc.2.2.2.1.slots = ms) (hR : yc.2.2.2.1.frames + 1 ≤ y.2.2.2.1.frames ∧ 8 + (yc.2.1 + 11) + yc.2.2.2.1.locals ≤ y.2.2.2.1.locals) (hW : (rest.map fun v => v.category).sum ≤ 8) (h1 : ck + mc ≤ y.2.2.2.1.cells) (h2 : sk + ms ≤ y.2.2.2.1.slots)
    (kk : XJ G y E Z (pc + 3) l rest n' cs' (ck + mc) (sk + ms)) : XJ G y E Z pc l stk n cs ck sk :=
  x_callI (As := []) hM hq hret hlink hd hstk hrc hrs hR hW h1 h2 (fun v n2 cs2 h => by obtain ⟨rfl, rfl, h⟩ := h; exact x_heap (fun q hq => (h q hq).symm) kk)
theorem x_cks {ck' sk' : Nat} (h1 : ck' = ck) (h2 : sk' = sk) (kk : XJ G y E Z pc l stk n cs ck' sk') : XJ G y E Z pc l stk n cs ck sk := by
  subst h1; subst h2; exact kk
theorem x_n {n' : Nat} (h1 : n' = n) (kk : XJ G y E Z pc l stk n' cs ck sk) : XJ G y E Z pc l stk n cs ck sk := by
  subst h1; exact kk
end CROWS
abbrev fr0 : va_E := .inr (0, [.null, .null, .null, .null, .int 0, .int 0, .int 0])
abbrev fr1 : va_E := .inr (1, [.int 0, .int 0, .int 0, .int 0, .int 0, .int 0, .int 0, .int 0, .null])
abbrev fr2 : va_E := .inr (2, [.null, .null, .null, .int 0, .int 0, .int 0, .int 0, .int 0, .int 0, .int 0])
abbrev fr3 : va_E := .inr (3, [.null, .null, .null, .null, .null, .null, .int 0, .int 0, .int 0, .int 0])
section INI
variable {G : GX} {F : Nat → va_E} {o j : Nat}
set_option maxHeartbeats 4000000 in
set_option maxRecDepth 100000 in
theorem c_X1_init (hF : F o = .inr (1, [.int 0, .int 0, .int 2, .int 2, .int 0, .int 0, .int 0, .int (-5), .ref (gB G + (o + 1))])) (hF1 : F (o + 1) = .inl (gI G, 12, .inl (fun _ => 0))) : Ct G yX1_init YX1_init 1 12 [.ref (gB G + o)] (o + 1) (cset F o fr1) (RI (o + 2) F) := by
  refine ct_of (by decide +kernel) rfl rfl (Nat.le_of_ble_eq_true rfl) (by simp [Value.category]) ?_
  refine x_sub (l' := [(0, .ref (gB G + o))]) ⟨rfl, trivial⟩ ?_
  have ho : o < o + 1 := Nat.lt_succ_self o
  refine x_aload_n (pc := 0) dX1_init_0 rfl ?_
  refine x_obj (pc := 1) mL_X1_3 (by decide) (Nat.le_of_ble_eq_true rfl) dX1_init_1 ?_
  refine x_aload_n (pc := 4) dX1_init_4 rfl ?_
  refine x_iconst (pc := 5) (0) dX1_init_5 (by decide) ?_
  refine x_put (pc := 6) (ci := 1) (k := 0) (C := RX1) (T := TX1) (N := 9) (ty := tyX1 0) cset_same ho rfl nX1 tyX1 tyX1_ok nmX1 (by decide) mF_X1_9 rfl rfl rfl rfl rfl (Nat.le_of_ble_eq_true rfl) dX1_init_6 (cset F o (.inr (1, [.int 0, .int 0, .int 0, .int 0, .int 0, .int 0, .int 0, .int 0, .null]))) (cset_put) ?_
  refine x_aload_n (pc := 9) dX1_init_9 rfl ?_
  refine x_iconst (pc := 10) (0) dX1_init_10 (by decide) ?_
  refine x_put (pc := 11) (ci := 1) (k := 1) (C := RX1) (T := TX1) (N := 9) (ty := tyX1 1) cset_same ho rfl nX1 tyX1 tyX1_ok nmX1 (by decide) mF_X1_15 rfl rfl rfl rfl rfl (Nat.le_of_ble_eq_true rfl) dX1_init_11 (cset F o (.inr (1, [.int 0, .int 0, .int 0, .int 0, .int 0, .int 0, .int 0, .int 0, .null]))) (cset_put) ?_
  refine x_aload_n (pc := 14) dX1_init_14 rfl ?_
  refine x_iconst (pc := 15) (2) dX1_init_15 (by decide) ?_
  refine x_put (pc := 16) (ci := 1) (k := 2) (C := RX1) (T := TX1) (N := 9) (ty := tyX1 2) cset_same ho rfl nX1 tyX1 tyX1_ok nmX1 (by decide) mF_X1_18 rfl rfl rfl rfl rfl (Nat.le_of_ble_eq_true rfl) dX1_init_16 (cset F o (.inr (1, [.int 0, .int 0, .int 2, .int 0, .int 0, .int 0, .int 0, .int 0, .null]))) (cset_put) ?_
  refine x_aload_n (pc := 19) dX1_init_19 rfl ?_
  refine x_iconst (pc := 20) (2) dX1_init_20 (by decide) ?_
  refine x_put (pc := 21) (ci := 1) (k := 3) (C := RX1) (T := TX1) (N := 9) (ty := tyX1 3) cset_same ho rfl nX1 tyX1 tyX1_ok nmX1 (by decide) mF_X1_21 rfl rfl rfl rfl rfl (Nat.le_of_ble_eq_true rfl) dX1_init_21 (cset F o (.inr (1, [.int 0, .int 0, .int 2, .int 2, .int 0, .int 0, .int 0, .int 0, .null]))) (cset_put) ?_
  refine x_aload_n (pc := 24) dX1_init_24 rfl ?_
  refine x_iconst (pc := 25) (0) dX1_init_25 (by decide) ?_
  refine x_put (pc := 26) (ci := 1) (k := 4) (C := RX1) (T := TX1) (N := 9) (ty := tyX1 4) cset_same ho rfl nX1 tyX1 tyX1_ok nmX1 (by decide) mF_X1_24 rfl rfl rfl rfl rfl (Nat.le_of_ble_eq_true rfl) dX1_init_26 (cset F o (.inr (1, [.int 0, .int 0, .int 2, .int 2, .int 0, .int 0, .int 0, .int 0, .null]))) (cset_put) ?_
  refine x_aload_n (pc := 29) dX1_init_29 rfl ?_
  refine x_iconst (pc := 30) (0) dX1_init_30 (by decide) ?_
  refine x_put (pc := 31) (ci := 1) (k := 5) (C := RX1) (T := TX1) (N := 9) (ty := tyX1 5) cset_same ho rfl nX1 tyX1 tyX1_ok nmX1 (by decide) mF_X1_27 rfl rfl rfl rfl rfl (Nat.le_of_ble_eq_true rfl) dX1_init_31 (cset F o (.inr (1, [.int 0, .int 0, .int 2, .int 2, .int 0, .int 0, .int 0, .int 0, .null]))) (cset_put) ?_
  refine x_aload_n (pc := 34) dX1_init_34 rfl ?_
  refine x_iconst (pc := 35) (0) dX1_init_35 (by decide) ?_
  refine x_put (pc := 36) (ci := 1) (k := 6) (C := RX1) (T := TX1) (N := 9) (ty := tyX1 6) cset_same ho rfl nX1 tyX1 tyX1_ok nmX1 (by decide) mF_X1_30 rfl rfl rfl rfl rfl (Nat.le_of_ble_eq_true rfl) dX1_init_36 (cset F o (.inr (1, [.int 0, .int 0, .int 2, .int 2, .int 0, .int 0, .int 0, .int 0, .null]))) (cset_put) ?_
  refine x_aload_n (pc := 39) dX1_init_39 rfl ?_
  refine x_bipush (pc := 40) (-5) dX1_init_40 (by decide) ?_
  refine x_put (pc := 42) (ci := 1) (k := 7) (C := RX1) (T := TX1) (N := 9) (ty := tyX1 7) cset_same ho rfl nX1 tyX1 tyX1_ok nmX1 (by decide) mF_X1_33 rfl rfl rfl rfl rfl (Nat.le_of_ble_eq_true rfl) dX1_init_42 (cset F o (.inr (1, [.int 0, .int 0, .int 2, .int 2, .int 0, .int 0, .int 0, .int (-5), .null]))) (cset_put) ?_
  refine x_aload_n (pc := 45) dX1_init_45 rfl ?_
  refine x_bipush (pc := 46) (12) dX1_init_46 (by decide) ?_
  refine x_newI (pc := 48) (N := 12) (by decide) (by decide) (Nat.le_of_ble_eq_true rfl) (Nat.le_of_ble_eq_true rfl) (Nat.le_of_ble_eq_true rfl) dX1_init_48 (cset F o (.inr (1, [.int 0, .int 0, .int 2, .int 2, .int 0, .int 0, .int 0, .int (-5), .null]))) (cset_id ((cset_ne (by omega)).trans hF1)) ?_
  refine x_putF (pc := 50) (ci := 1) (k := 8) (T := TX1) (N := 9) (ty := tyX1 8) cset_same (by omega) rfl nX1 tyX1 tyX1_ok nmX1 (by decide) mF_X1_38 rfl rfl rfl rfl rfl rfl (Nat.le_of_ble_eq_true rfl) dX1_init_50 (F) (cset_end hF) ?_
  exact x_vret rfl dX1_init_53 ⟨rfl, rfl, fun _ _ => rfl⟩
set_option maxHeartbeats 4000000 in
set_option maxRecDepth 100000 in
theorem c_X0_init (hF : F o = .inr (0, [.ref (gB G + (o + 1)), .ref (gB G + (o + 2)), .ref (gB G + (o + 3)), .ref (gB G + (o + 4)), .int 0, .int 0, .int 0])) (hF1 : F (o + 1) = .inl (gC G, 60, .inl (fun _ => 0))) (hF2 : F (o + 2) = .inl (gI G, 30, .inl (fun _ => 0))) (hF3 : F (o + 3) = .inl (gI G, 30, .inl (fun _ => 0))) (hF4 : F (o + 4) = .inl (gI G, 30, .inl (fun _ => 0))) : Ct G yX0_init YX0_init 4 150 [.ref (gB G + o)] (o + 1) (cset F o fr0) (RI (o + 5) F) := by
  refine ct_of (by decide +kernel) rfl rfl (Nat.le_of_ble_eq_true rfl) (by simp [Value.category]) ?_
  refine x_sub (l' := [(0, .ref (gB G + o))]) ⟨rfl, trivial⟩ ?_
  have ho : o < o + 1 := Nat.lt_succ_self o
  refine x_aload_n (pc := 0) dX0_init_0 rfl ?_
  refine x_obj (pc := 1) mL_X0_3 (by decide) (Nat.le_of_ble_eq_true rfl) dX0_init_1 ?_
  refine x_aload_n (pc := 4) dX0_init_4 rfl ?_
  refine x_bipush (pc := 5) (60) dX0_init_5 (by decide) ?_
  refine x_newC (pc := 7) (N := 60) (by decide) (by decide) (Nat.le_of_ble_eq_true rfl) (Nat.le_of_ble_eq_true rfl) (Nat.le_of_ble_eq_true rfl) dX0_init_7 (cset F o (.inr (0, [.null, .null, .null, .null, .int 0, .int 0, .int 0]))) (cset_id ((cset_ne (by omega)).trans hF1)) ?_
  refine x_putF (pc := 9) (ci := 0) (k := 0) (T := TX0) (N := 7) (ty := tyX0 0) cset_same (by omega) rfl nX0 tyX0 tyX0_ok nmX0 (by decide) mF_X0_11 rfl rfl rfl rfl rfl rfl (Nat.le_of_ble_eq_true rfl) dX0_init_9 (cset F o (.inr (0, [.ref (gB G + (o + 1)), .null, .null, .null, .int 0, .int 0, .int 0]))) (cset_put) ?_
  refine x_aload_n (pc := 12) dX0_init_12 rfl ?_
  refine x_bipush (pc := 13) (30) dX0_init_13 (by decide) ?_
  refine x_newI (pc := 15) (N := 30) (by decide) (by decide) (Nat.le_of_ble_eq_true rfl) (Nat.le_of_ble_eq_true rfl) (Nat.le_of_ble_eq_true rfl) dX0_init_15 (cset F o (.inr (0, [.ref (gB G + (o + 1)), .null, .null, .null, .int 0, .int 0, .int 0]))) (cset_id ((cset_ne (by omega)).trans hF2)) ?_
  refine x_putF (pc := 17) (ci := 0) (k := 1) (T := TX0) (N := 7) (ty := tyX0 1) cset_same (by omega) rfl nX0 tyX0 tyX0_ok nmX0 (by decide) mF_X0_15 rfl rfl rfl rfl rfl rfl (Nat.le_of_ble_eq_true rfl) dX0_init_17 (cset F o (.inr (0, [.ref (gB G + (o + 1)), .ref (gB G + (o + 2)), .null, .null, .int 0, .int 0, .int 0]))) (cset_put) ?_
  refine x_aload_n (pc := 20) dX0_init_20 rfl ?_
  refine x_bipush (pc := 21) (30) dX0_init_21 (by decide) ?_
  refine x_newI (pc := 23) (N := 30) (by decide) (by decide) (Nat.le_of_ble_eq_true rfl) (Nat.le_of_ble_eq_true rfl) (Nat.le_of_ble_eq_true rfl) dX0_init_23 (cset F o (.inr (0, [.ref (gB G + (o + 1)), .ref (gB G + (o + 2)), .null, .null, .int 0, .int 0, .int 0]))) (cset_id ((cset_ne (by omega)).trans hF3)) ?_
  refine x_putF (pc := 25) (ci := 0) (k := 2) (T := TX0) (N := 7) (ty := tyX0 2) cset_same (by omega) rfl nX0 tyX0 tyX0_ok nmX0 (by decide) mF_X0_19 rfl rfl rfl rfl rfl rfl (Nat.le_of_ble_eq_true rfl) dX0_init_25 (cset F o (.inr (0, [.ref (gB G + (o + 1)), .ref (gB G + (o + 2)), .ref (gB G + (o + 3)), .null, .int 0, .int 0, .int 0]))) (cset_put) ?_
  refine x_aload_n (pc := 28) dX0_init_28 rfl ?_
  refine x_bipush (pc := 29) (30) dX0_init_29 (by decide) ?_
  refine x_newI (pc := 31) (N := 30) (by decide) (by decide) (Nat.le_of_ble_eq_true rfl) (Nat.le_of_ble_eq_true rfl) (Nat.le_of_ble_eq_true rfl) dX0_init_31 (cset F o (.inr (0, [.ref (gB G + (o + 1)), .ref (gB G + (o + 2)), .ref (gB G + (o + 3)), .null, .int 0, .int 0, .int 0]))) (cset_id ((cset_ne (by omega)).trans hF4)) ?_
  refine x_putF (pc := 33) (ci := 0) (k := 3) (T := TX0) (N := 7) (ty := tyX0 3) cset_same (by omega) rfl nX0 tyX0 tyX0_ok nmX0 (by decide) mF_X0_22 rfl rfl rfl rfl rfl rfl (Nat.le_of_ble_eq_true rfl) dX0_init_33 (cset F o (.inr (0, [.ref (gB G + (o + 1)), .ref (gB G + (o + 2)), .ref (gB G + (o + 3)), .ref (gB G + (o + 4)), .int 0, .int 0, .int 0]))) (cset_put) ?_
  refine x_aload_n (pc := 36) dX0_init_36 rfl ?_
  refine x_iconst (pc := 37) (0) dX0_init_37 (by decide) ?_
  refine x_put (pc := 38) (ci := 0) (k := 4) (C := RX0) (T := TX0) (N := 7) (ty := tyX0 4) cset_same (by omega) rfl nX0 tyX0 tyX0_ok nmX0 (by decide) mF_X0_25 rfl rfl rfl rfl rfl (Nat.le_of_ble_eq_true rfl) dX0_init_38 (cset F o (.inr (0, [.ref (gB G + (o + 1)), .ref (gB G + (o + 2)), .ref (gB G + (o + 3)), .ref (gB G + (o + 4)), .int 0, .int 0, .int 0]))) (cset_put) ?_
  refine x_aload_n (pc := 41) dX0_init_41 rfl ?_
  refine x_iconst (pc := 42) (0) dX0_init_42 (by decide) ?_
  refine x_put (pc := 43) (ci := 0) (k := 5) (C := RX0) (T := TX0) (N := 7) (ty := tyX0 5) cset_same (by omega) rfl nX0 tyX0 tyX0_ok nmX0 (by decide) mF_X0_29 rfl rfl rfl rfl rfl (Nat.le_of_ble_eq_true rfl) dX0_init_43 (cset F o (.inr (0, [.ref (gB G + (o + 1)), .ref (gB G + (o + 2)), .ref (gB G + (o + 3)), .ref (gB G + (o + 4)), .int 0, .int 0, .int 0]))) (cset_put) ?_
  refine x_aload_n (pc := 46) dX0_init_46 rfl ?_
  refine x_iconst (pc := 47) (0) dX0_init_47 (by decide) ?_
  refine x_put (pc := 48) (ci := 0) (k := 6) (C := RX0) (T := TX0) (N := 7) (ty := tyX0 6) cset_same (by omega) rfl nX0 tyX0 tyX0_ok nmX0 (by decide) mF_X0_32 rfl rfl rfl rfl rfl (Nat.le_of_ble_eq_true rfl) dX0_init_48 (F) (cset_end hF) ?_
  exact x_vret rfl dX0_init_51 ⟨rfl, rfl, fun _ _ => rfl⟩
def s0S : Sh := (fun _ => 0, fun _ => 0, upd (upd (upd (upd (fun _ => 0) 0 20) 1 1) 2 150) 3 1, fun _ => upd (upd (upd (fun _ => 0) 2 2) 3 2) 7 (-5), fun _ _ => 0)
def shR (G : GX) (j k : Nat) : Nat → Option Nat := fun i => if i < k then some (gB G + shO j i) else none
theorem shR_s (G : GX) (j k : Nat) : va_up (shR G j k) k (some (gB G + shO j k)) = shR G j (k + 1) := by
  funext i
  by_cases h : i = k
  · subst h; simp [va_up, shR]
  · by_cases h2 : i < k
    · simp [va_up, shR, h, h2, Nat.lt_succ_of_lt h2]
    · simp [va_up, shR, h, h2, show ¬ i < k + 1 by omega]
theorem shR_0 (G : GX) (j : Nat) : shR G j 0 = fun _ => none := by funext i; simp [shR]
def aR (c : ClassId) (N : Nat) (f : Nat → Option Nat) : va_E := .inl (c, N, .inr (.inr (.inr (.inr f))))
set_option maxHeartbeats 4000000 in
set_option maxRecDepth 100000 in
theorem c_X2_init (ho2 : o = sB j) (hj : j < 8) (hF : ∀ r, r < 30 → F (o + r) = shCell G j s0S r) : Ct G yX2_init YX2_init 29 302 [.ref (gB G + o)] (o + 1) (cset F o fr2) (RI (o + 30) F) := by
  refine ct_of (by decide +kernel) rfl rfl (Nat.le_of_ble_eq_true rfl) (by simp [Value.category]) ?_
  refine x_sub (l' := [(0, .ref (gB G + o))]) ⟨rfl, trivial⟩ ?_
  have ho : o < o + 1 := Nat.lt_succ_self o
  have eA : ∀ i, shO j i = o + (2 + 2 * i) := fun i => by rw [ho2]; rfl
  have eE : ∀ i, egO j i = o + (3 + 2 * i) := fun i => by rw [ho2]; rfl
  have f0 : F o = .inr (2, [.ref (gB G + (o + 1)), .ref (gB G + (o + 28)), .ref (gB G + (o + 29)), .int 0, .int 0, .int 0, .int 0, .int 0, .int 0, .int 0]) := by
    have := hF 0 (by decide)
    rw [Nat.add_zero] at this
    rw [this]
    show (.inr (2, [.ref (gB G + arO j), .ref (gB G + htO j), .ref (gB G + stO j), .int 0, .int 0, .int 0, .int 0, .int 0, .int 0, .int 0]) : va_E) = _
    unfold arO htO stO
    rw [← ho2]
  have f1 : F (o + 1) = aR (gS G) 13 (fun i => some (gB G + shO j i)) := hF 1 (by decide)
  have f28 : F (o + 28) = .inl (gI G, 12, .inl (fun _ => 0)) := hF 28 (by decide)
  have f29 : F (o + 29) = .inl (gI G, 4, .inl (upd (upd (upd (upd (fun _ => 0) 0 20) 1 1) 2 150) 3 1)) := hF 29 (by decide)
  have fS : ∀ k, k < 13 → F (o + (2 + 2 * k)) = .inr (1, [.int 0, .int 0, .int 2, .int 2, .int 0, .int 0, .int 0, .int (-5), .ref (gB G + (o + (2 + 2 * k) + 1))]) := fun k hk => by
    rw [hF (2 + 2 * k) (by omega), shCell_shape s0S hk, eE k]
    rw [show o + (2 + 2 * k) + 1 = o + (3 + 2 * k) by omega]
    rfl
  have fE : ∀ k, k < 13 → F (o + (2 + 2 * k) + 1) = .inl (gI G, 12, .inl (fun _ => 0)) := fun k hk => by
    rw [show o + (2 + 2 * k) + 1 = o + (3 + 2 * k) by omega, hF (3 + 2 * k) (by omega), shCell_edge s0S hk]
    rfl
  have lp : ∀ k, k ≤ 13 → XJ G YX2_init (fun _ => True) (Zx G (RI (o + 30) F) 29 302) 15 [(0, .ref (gB G + o)), (1, .int (nI k))] [] (o + 2 + 2 * k) (cset (cset F (o + 1) (aR (gS G) 13 (shR G j k))) o (.inr (2, [.ref (gB G + (o + 1)), .null, .null, .int 0, .int 0, .int 0, .int 0, .int 0, .int 0, .int 0]))) (1 + 2 * k) (13 + 21 * k) := by
    refine loopD 13 ?_
    intro k hk ih
    refine x_iload_n (pc := 15) dX2_init_15 rfl ?_
    refine x_bipush (pc := 16) (12) dX2_init_16 (by decide) ?_
    refine x_cmpgt (pc := 18) 40 dX2_init_18 (by decide) (fun c18 => ?_) (fun c18 => ?_)
    · have hk13 : k = 13 := by have := (nI_ltI (a := 12) (by decide) (by omega)).mp c18; omega
      subst hk13
      refine x_arrq (o := o + 1) (f := shR G j 13) (f' := fun i => some (gB G + shO j i)) ((cset_ne (by omega)).trans cset_same) (fun i hi => by simp [shR, hi]) ?_
      refine x_heap (cs' := cset F o (.inr (2, [.ref (gB G + (o + 1)), .null, .null, .int 0, .int 0, .int 0, .int 0, .int 0, .int 0, .int 0]))) (fun q hq => ?_) ?_
      · by_cases h1 : q = o + 1
        · subst h1; rw [cset_same, cset_ne (by omega), f1]; rfl
        · by_cases h0 : q = o
          · subst h0; rw [cset_same, cset_ne h1, cset_same]
          · rw [cset_ne h0, cset_ne h1, cset_ne h0, cset_ne h1]
      refine x_aload_n (pc := 40) dX2_init_40 rfl ?_
      refine x_bipush (pc := 41) (12) dX2_init_41 (by decide) ?_
      refine x_newI (pc := 43) (N := 12) (by decide) (by decide) (Nat.le_of_ble_eq_true rfl) (Nat.le_of_ble_eq_true rfl) (Nat.le_of_ble_eq_true rfl) dX2_init_43 (cset F o (.inr (2, [.ref (gB G + (o + 1)), .null, .null, .int 0, .int 0, .int 0, .int 0, .int 0, .int 0, .int 0]))) (cset_id ((cset_ne (by omega)).trans f28)) ?_
      refine x_putF (pc := 45) (ci := 2) (k := 1) (T := TX2) (N := 10) (ty := tyX2 1) cset_same (by omega) rfl nX2 tyX2 tyX2_ok nmX2 (by decide) mF_X2_18 rfl rfl rfl rfl rfl rfl (Nat.le_of_ble_eq_true rfl) dX2_init_45 (cset F o (.inr (2, [.ref (gB G + (o + 1)), .ref (gB G + (o + 28)), .null, .int 0, .int 0, .int 0, .int 0, .int 0, .int 0, .int 0]))) (cset_put) ?_
      refine x_aload_n (pc := 48) dX2_init_48 rfl ?_
      refine x_iconst (pc := 49) (4) dX2_init_49 (by decide) ?_
      refine x_newI (pc := 50) (N := 4) (by decide) (by decide) (Nat.le_of_ble_eq_true rfl) (Nat.le_of_ble_eq_true rfl) (Nat.le_of_ble_eq_true rfl) dX2_init_50 (cset (cset F (o + 29) (.inl (gI G, 4, .inl (fun _ => 0)))) o (.inr (2, [.ref (gB G + (o + 1)), .ref (gB G + (o + 28)), .null, .int 0, .int 0, .int 0, .int 0, .int 0, .int 0, .int 0]))) (cset_newin (by omega)) ?_
      refine x_putF (pc := 52) (ci := 2) (k := 2) (T := TX2) (N := 10) (ty := tyX2 2) cset_same (by omega) rfl nX2 tyX2 tyX2_ok nmX2 (by decide) mF_X2_22 rfl rfl rfl rfl rfl rfl (Nat.le_of_ble_eq_true rfl) dX2_init_52 (cset (cset F (o + 29) (.inl (gI G, 4, .inl (fun _ => 0)))) o (.inr (2, [.ref (gB G + (o + 1)), .ref (gB G + (o + 28)), .ref (gB G + (o + 29)), .int 0, .int 0, .int 0, .int 0, .int 0, .int 0, .int 0]))) (cset_put) ?_
      refine x_aload_n (pc := 55) dX2_init_55 rfl ?_
      refine x_get (pc := 56) (ci := 2) (k := 2) (C := RX2) (T := TX2) (N := 10) cset_same rfl (by omega) rfl nX2 (by decide) mF_X2_22 rfl dX2_init_56 ?_
      refine x_iconst (pc := 59) (0) dX2_init_59 (by decide) ?_
      refine x_bipush (pc := 60) (20) dX2_init_60 (by decide) ?_
      refine x_iast (pc := 62) (N := 4) (f := fun _ => 0) ((cset_ne (by omega)).trans cset_same) (by omega) (in_of (k := 0) rfl (by decide) (by decide)) dX2_init_62 (cset (cset F (o + 29) (.inl (gI G, 4, .inl (upd (fun _ => 0) 0 20)))) o (.inr (2, [.ref (gB G + (o + 1)), .ref (gB G + (o + 28)), .ref (gB G + (o + 29)), .int 0, .int 0, .int 0, .int 0, .int 0, .int 0, .int 0]))) (cset_putin (by omega)) ?_
      refine x_aload_n (pc := 63) dX2_init_63 rfl ?_
      refine x_get (pc := 64) (ci := 2) (k := 2) (C := RX2) (T := TX2) (N := 10) cset_same rfl (by omega) rfl nX2 (by decide) mF_X2_22 rfl dX2_init_64 ?_
      refine x_iconst (pc := 67) (1) dX2_init_67 (by decide) ?_
      refine x_iconst (pc := 68) (1) dX2_init_68 (by decide) ?_
      refine x_iast (pc := 69) (N := 4) (f := upd (fun _ => 0) 0 20) ((cset_ne (by omega)).trans cset_same) (by omega) (in_of (k := 1) rfl (by decide) (by decide)) dX2_init_69 (cset (cset F (o + 29) (.inl (gI G, 4, .inl (upd (upd (fun _ => 0) 0 20) 1 1)))) o (.inr (2, [.ref (gB G + (o + 1)), .ref (gB G + (o + 28)), .ref (gB G + (o + 29)), .int 0, .int 0, .int 0, .int 0, .int 0, .int 0, .int 0]))) (cset_putin (by omega)) ?_
      refine x_aload_n (pc := 70) dX2_init_70 rfl ?_
      refine x_get (pc := 71) (ci := 2) (k := 2) (C := RX2) (T := TX2) (N := 10) cset_same rfl (by omega) rfl nX2 (by decide) mF_X2_22 rfl dX2_init_71 ?_
      refine x_iconst (pc := 74) (2) dX2_init_74 (by decide) ?_
      refine x_sipush (pc := 75) (150) dX2_init_75 (by decide) ?_
      refine x_iast (pc := 78) (N := 4) (f := upd (upd (fun _ => 0) 0 20) 1 1) ((cset_ne (by omega)).trans cset_same) (by omega) (in_of (k := 2) rfl (by decide) (by decide)) dX2_init_78 (cset (cset F (o + 29) (.inl (gI G, 4, .inl (upd (upd (upd (fun _ => 0) 0 20) 1 1) 2 150)))) o (.inr (2, [.ref (gB G + (o + 1)), .ref (gB G + (o + 28)), .ref (gB G + (o + 29)), .int 0, .int 0, .int 0, .int 0, .int 0, .int 0, .int 0]))) (cset_putin (by omega)) ?_
      refine x_aload_n (pc := 79) dX2_init_79 rfl ?_
      refine x_get (pc := 80) (ci := 2) (k := 2) (C := RX2) (T := TX2) (N := 10) cset_same rfl (by omega) rfl nX2 (by decide) mF_X2_22 rfl dX2_init_80 ?_
      refine x_iconst (pc := 83) (3) dX2_init_83 (by decide) ?_
      refine x_iconst (pc := 84) (1) dX2_init_84 (by decide) ?_
      refine x_iast (pc := 85) (N := 4) (f := upd (upd (upd (fun _ => 0) 0 20) 1 1) 2 150) ((cset_ne (by omega)).trans cset_same) (by omega) (in_of (k := 3) rfl (by decide) (by decide)) dX2_init_85 (cset F o (.inr (2, [.ref (gB G + (o + 1)), .ref (gB G + (o + 28)), .ref (gB G + (o + 29)), .int 0, .int 0, .int 0, .int 0, .int 0, .int 0, .int 0]))) (cset_endin (by omega) f29) ?_
      refine x_aload_n (pc := 86) dX2_init_86 rfl ?_
      refine x_iconst (pc := 87) (0) dX2_init_87 (by decide) ?_
      refine x_put (pc := 88) (ci := 2) (k := 3) (C := RX2) (T := TX2) (N := 10) (ty := tyX2 3) cset_same (by omega) rfl nX2 tyX2 tyX2_ok nmX2 (by decide) mF_X2_25 rfl rfl rfl rfl rfl (Nat.le_of_ble_eq_true rfl) dX2_init_88 (cset F o (.inr (2, [.ref (gB G + (o + 1)), .ref (gB G + (o + 28)), .ref (gB G + (o + 29)), .int 0, .int 0, .int 0, .int 0, .int 0, .int 0, .int 0]))) (cset_put) ?_
      refine x_aload_n (pc := 91) dX2_init_91 rfl ?_
      refine x_iconst (pc := 92) (0) dX2_init_92 (by decide) ?_
      refine x_put (pc := 93) (ci := 2) (k := 4) (C := RX2) (T := TX2) (N := 10) (ty := tyX2 4) cset_same (by omega) rfl nX2 tyX2 tyX2_ok nmX2 (by decide) mF_X2_29 rfl rfl rfl rfl rfl (Nat.le_of_ble_eq_true rfl) dX2_init_93 (cset F o (.inr (2, [.ref (gB G + (o + 1)), .ref (gB G + (o + 28)), .ref (gB G + (o + 29)), .int 0, .int 0, .int 0, .int 0, .int 0, .int 0, .int 0]))) (cset_put) ?_
      refine x_aload_n (pc := 96) dX2_init_96 rfl ?_
      refine x_iconst (pc := 97) (0) dX2_init_97 (by decide) ?_
      refine x_put (pc := 98) (ci := 2) (k := 5) (C := RX2) (T := TX2) (N := 10) (ty := tyX2 5) cset_same (by omega) rfl nX2 tyX2 tyX2_ok nmX2 (by decide) mF_X2_32 rfl rfl rfl rfl rfl (Nat.le_of_ble_eq_true rfl) dX2_init_98 (cset F o (.inr (2, [.ref (gB G + (o + 1)), .ref (gB G + (o + 28)), .ref (gB G + (o + 29)), .int 0, .int 0, .int 0, .int 0, .int 0, .int 0, .int 0]))) (cset_put) ?_
      refine x_aload_n (pc := 101) dX2_init_101 rfl ?_
      refine x_iconst (pc := 102) (0) dX2_init_102 (by decide) ?_
      refine x_put (pc := 103) (ci := 2) (k := 6) (C := RX2) (T := TX2) (N := 10) (ty := tyX2 6) cset_same (by omega) rfl nX2 tyX2 tyX2_ok nmX2 (by decide) mF_X2_35 rfl rfl rfl rfl rfl (Nat.le_of_ble_eq_true rfl) dX2_init_103 (cset F o (.inr (2, [.ref (gB G + (o + 1)), .ref (gB G + (o + 28)), .ref (gB G + (o + 29)), .int 0, .int 0, .int 0, .int 0, .int 0, .int 0, .int 0]))) (cset_put) ?_
      refine x_aload_n (pc := 106) dX2_init_106 rfl ?_
      refine x_iconst (pc := 107) (0) dX2_init_107 (by decide) ?_
      refine x_put (pc := 108) (ci := 2) (k := 7) (C := RX2) (T := TX2) (N := 10) (ty := tyX2 7) cset_same (by omega) rfl nX2 tyX2 tyX2_ok nmX2 (by decide) mF_X2_38 rfl rfl rfl rfl rfl (Nat.le_of_ble_eq_true rfl) dX2_init_108 (cset F o (.inr (2, [.ref (gB G + (o + 1)), .ref (gB G + (o + 28)), .ref (gB G + (o + 29)), .int 0, .int 0, .int 0, .int 0, .int 0, .int 0, .int 0]))) (cset_put) ?_
      refine x_aload_n (pc := 111) dX2_init_111 rfl ?_
      refine x_iconst (pc := 112) (0) dX2_init_112 (by decide) ?_
      refine x_put (pc := 113) (ci := 2) (k := 8) (C := RX2) (T := TX2) (N := 10) (ty := tyX2 8) cset_same (by omega) rfl nX2 tyX2 tyX2_ok nmX2 (by decide) mF_X2_41 rfl rfl rfl rfl rfl (Nat.le_of_ble_eq_true rfl) dX2_init_113 (cset F o (.inr (2, [.ref (gB G + (o + 1)), .ref (gB G + (o + 28)), .ref (gB G + (o + 29)), .int 0, .int 0, .int 0, .int 0, .int 0, .int 0, .int 0]))) (cset_put) ?_
      refine x_aload_n (pc := 116) dX2_init_116 rfl ?_
      refine x_iconst (pc := 117) (0) dX2_init_117 (by decide) ?_
      refine x_put (pc := 118) (ci := 2) (k := 9) (C := RX2) (T := TX2) (N := 10) (ty := tyX2 9) cset_same (by omega) rfl nX2 tyX2 tyX2_ok nmX2 (by decide) mF_X2_44 rfl rfl rfl rfl rfl (Nat.le_of_ble_eq_true rfl) dX2_init_118 (F) (cset_end f0) ?_
      exact x_vret rfl dX2_init_121 ⟨rfl, rfl, fun _ _ => rfl⟩
    · have hk13 : k < 13 := by
        have : ¬ 12 < k := fun z => c18 ((nI_ltI (a := 12) (by decide) (by omega)).mpr z)
        omega
      refine x_aload_n (pc := 21) dX2_init_21 rfl ?_
      refine x_get (pc := 22) (ci := 2) (k := 0) (C := RX2) (T := TX2) (N := 10) cset_same rfl (by omega) rfl nX2 (by decide) mF_X2_13 rfl dX2_init_22 ?_
      refine x_iload_n (pc := 25) dX2_init_25 rfl ?_
      refine x_new (pc := 26) (ci := 1) (fs := [.int 0, .int 0, .int 0, .int 0, .int 0, .int 0, .int 0, .int 0, .null]) tyX1 tyX1_ok rfl nX1 mC_X2_11 mN_X1 mI_X1 (fun j hj => by rcases (show j = 0 ∨ j = 1 ∨ j = 2 ∨ j = 3 ∨ j = 4 ∨ j = 5 ∨ j = 6 ∨ j = 7 ∨ j = 8 by omega) with rfl | rfl | rfl | rfl | rfl | rfl | rfl | rfl | rfl <;> rfl) (by show 1 + 2 * k + 1 ≤ 29; omega) (by show 13 + 21 * k + 9 ≤ 302; omega) dX2_init_26 (cset (cset (cset F (o + 1) (aR (gS G) 13 (shR G j k))) o (.inr (2, [.ref (gB G + (o + 1)), .null, .null, .int 0, .int 0, .int 0, .int 0, .int 0, .int 0, .int 0]))) (o + 2 + 2 * k) fr1) (fun _ _ => rfl) ?_
      refine x_dup (pc := 29) dX2_init_29 rfl ?_
      have en : o + 2 + 2 * k = o + (2 + 2 * k) := by omega
      refine t_I (pc := 30) (c_X1_init (F := (cset (cset F (o + 1) (aR (gS G) 13 (shR G j k))) o (.inr (2, [.ref (gB G + (o + 1)), .null, .null, .int 0, .int 0, .int 0, .int 0, .int 0, .int 0, .int 0])))) (o := o + 2 + 2 * k) (by rw [cset_ne (by omega), cset_ne (by omega), en]; exact fS k hk13) (by rw [cset_ne (by omega), cset_ne (by omega), en]; exact fE k hk13)) qI_X1_init rfl mL_X2_17 dX2_init_30 rfl rfl rfl ⟨by decide, by decide⟩ (Nat.le_of_ble_eq_true rfl) (by show 1 + 2 * k + 1 + 1 ≤ 29; omega) (by show 13 + 21 * k + 9 + 12 ≤ 302; omega) ?_
      refine x_aast (pc := 33) (o := o + 1) (ov := o + 2 + 2 * k) (N := 13) (f := shR G j k) (ci := 1) (cT := gS G) (C := RX1) (fun s h => (h.1.2 2 _ rfl).2) ((cset_ne (by omega)).trans cset_same) (by omega) (((cset_ne (by omega)).trans (cset_ne (by omega))).trans ((congrArg F en).trans (fS k hk13))) (by omega) rfl (in_of (k := k) rfl hk13 (by decide)) dX2_init_33 (cset (cset F (o + 1) (aR (gS G) 13 (shR G j (k + 1)))) o (.inr (2, [.ref (gB G + (o + 1)), .null, .null, .int 0, .int 0, .int 0, .int 0, .int 0, .int 0, .int 0]))) ?_ ?_
      · intro q hq
        have := cset_putin (cs := F) (o := o) (a := o + 1) (e := .inr (2, [.ref (gB G + (o + 1)), .null, .null, .int 0, .int 0, .int 0, .int 0, .int 0, .int 0, .int 0])) (f := aR (gS G) 13 (shR G j k)) (f' := aR (gS G) 13 (shR G j (k + 1))) (by omega) q hq
        rw [this, ← shR_s, eA k, ← en, nI_clamp (by omega)]
        rfl
      refine x_iinc (pc := 34) (nI (k + 1)) dX2_init_34 rfl (iinc_nI k) (by decide) ?_
      refine x_goto (pc := 37) 15 dX2_init_37 (by decide) ?_
      refine x_n (n' := o + 2 + 2 * (k + 1)) (by omega) ?_
      refine x_cks (ck' := 1 + 2 * (k + 1)) (sk' := 13 + 21 * (k + 1)) (by omega) (by omega) ?_
      exact x_back (ih hk13) ⟨rfl, rfl, trivial⟩
  refine x_aload_n (pc := 0) dX2_init_0 rfl ?_
  refine x_obj (pc := 1) mL_X2_3 (by decide) (Nat.le_of_ble_eq_true rfl) dX2_init_1 ?_
  refine x_aload_n (pc := 4) dX2_init_4 rfl ?_
  refine x_bipush (pc := 5) (13) dX2_init_5 (by decide) ?_
  refine x_anew (pc := 7) (N := 13) (C := RX1) (cT := gS G) (fun s h => ⟨h.2.1, (h.1.2 2 _ rfl).2⟩) mC_X2_11 (by decide) (by decide) (Nat.le_of_ble_eq_true rfl) (Nat.le_of_ble_eq_true rfl) (Nat.le_of_ble_eq_true rfl) dX2_init_7 (cset (cset F (o + 1) (aR (gS G) 13 (fun _ => none))) o (.inr (2, [.null, .null, .null, .int 0, .int 0, .int 0, .int 0, .int 0, .int 0, .int 0]))) (cset_newin (by omega)) ?_
  refine x_putF (pc := 10) (ci := 2) (k := 0) (T := TX2) (N := 10) (ty := tyX2 0) cset_same (by omega) rfl nX2 tyX2 tyX2_ok nmX2 (by decide) mF_X2_13 rfl rfl rfl rfl rfl rfl (Nat.le_of_ble_eq_true rfl) dX2_init_10 (cset (cset F (o + 1) (aR (gS G) 13 (fun _ => none))) o (.inr (2, [.ref (gB G + (o + 1)), .null, .null, .int 0, .int 0, .int 0, .int 0, .int 0, .int 0, .int 0]))) (cset_put) ?_
  refine x_iconst (pc := 13) (0) dX2_init_13 (by decide) ?_
  refine x_istore_n (pc := 14) dX2_init_14 (by decide) ?_
  have e := lp 0 (by omega)
  rw [shR_0] at e
  exact x_back e ⟨rfl, rfl, trivial⟩
def htR (G : GX) (k : Nat) : Nat → Option Nat := fun i => if i < k then some (gB G + sB (4 + i)) else none
theorem htR_s (G : GX) (k : Nat) : va_up (htR G k) k (some (gB G + sB (4 + k))) = htR G (k + 1) := by
  funext i
  by_cases h : i = k
  · subst h; simp [va_up, htR]
  · by_cases h2 : i < k
    · simp [va_up, htR, h, h2, Nat.lt_succ_of_lt h2]
    · simp [va_up, htR, h, h2, show ¬ i < k + 1 by omega]
theorem htR_0 (G : GX) : htR G 0 = fun _ => none := by funext i; simp [htR]
set_option maxHeartbeats 4000000 in
set_option maxRecDepth 100000 in
theorem c_X3_init (h0 : F 0 = .inr (3, [.ref (gB G + 1), .ref (gB G + 31), .ref (gB G + 61), .ref (gB G + 91), .ref (gB G + 121), .ref (gB G + 242), .int 0, .int 0, .int 0, .int 0])) (hS : ∀ j, j < 8 → ∀ r, r < 30 → F (sB j + r) = shCell G j s0S r) (h121 : F 121 = aR (gT G) 4 (fun k => some (gB G + sB (4 + k)))) (hP : F 242 = .inr (0, [.ref (gB G + (242 + 1)), .ref (gB G + (242 + 2)), .ref (gB G + (242 + 3)), .ref (gB G + (242 + 4)), .int 0, .int 0, .int 0])) (h243 : F 243 = .inl (gC G, 60, .inl (fun _ => 0))) (h244 : F 244 = .inl (gI G, 30, .inl (fun _ => 0))) (h245 : F 245 = .inl (gI G, 30, .inl (fun _ => 0))) (h246 : F 246 = .inl (gI G, 30, .inl (fun _ => 0))) : Ct G yX3_init YX3_init 246 2657 [.ref (gB G + 0)] 1 (cset F 0 fr3) (RI 247 F) := by
  refine ct_of (by decide +kernel) rfl rfl (Nat.le_of_ble_eq_true rfl) (by simp [Value.category]) ?_
  refine x_sub (l' := [(0, .ref (gB G + 0))]) ⟨rfl, trivial⟩ ?_
  have lp : ∀ k, k ≤ 4 → XJ G YX3_init (fun _ => True) (Zx G (RI 247 F) 246 2657) 58 [(0, .ref (gB G + 0)), (1, .int (nI k))] [] (122 + 30 * k) (cset (cset F 121 (aR (gT G) 4 (htR G k))) 0 (.inr (3, [.ref (gB G + 1), .ref (gB G + 31), .ref (gB G + 61), .ref (gB G + 91), .ref (gB G + 121), .null, .int 0, .int 0, .int 0, .int 0]))) (121 + 30 * k) (1252 + 312 * k) := by
    refine loopD 4 ?_
    intro k hk ih
    refine x_iload_n (pc := 58) dX3_init_58 rfl ?_
    refine x_iconst (pc := 59) (4) dX3_init_59 (by decide) ?_
    refine x_cmpge (pc := 60) 82 dX3_init_60 (by decide) (fun c60 => ?_) (fun c60 => ?_)
    · have hk4 : k = 4 := by have := mt (lt_lit (n := 4) rfl (by decide) (by omega)).mpr c60; omega
      subst hk4
      refine x_arrq (o := 121) (f := htR G 4) (f' := fun k => some (gB G + sB (4 + k))) ((cset_ne (by decide)).trans cset_same) (fun i hi => by simp [htR, hi]) ?_
      refine x_heap (cs' := cset F 0 (.inr (3, [.ref (gB G + 1), .ref (gB G + 31), .ref (gB G + 61), .ref (gB G + 91), .ref (gB G + 121), .null, .int 0, .int 0, .int 0, .int 0]))) (fun q hq => ?_) ?_
      · by_cases h1 : q = 121
        · subst h1; rw [cset_same, cset_ne (by decide), h121]; rfl
        · by_cases h2 : q = 0
          · subst h2; rw [cset_same, cset_ne h1, cset_same]
          · rw [cset_ne h2, cset_ne h1, cset_ne h2, cset_ne h1]
      refine x_n (n' := 242) rfl ?_
      refine x_aload_n (pc := 82) dX3_init_82 rfl ?_
      refine x_new (pc := 83) (ci := 0) (fs := [.null, .null, .null, .null, .int 0, .int 0, .int 0]) tyX0 tyX0_ok rfl nX0 mC_X3_29 mN_X0 mI_X0 (fun j hj => by rcases (show j = 0 ∨ j = 1 ∨ j = 2 ∨ j = 3 ∨ j = 4 ∨ j = 5 ∨ j = 6 by omega) with rfl | rfl | rfl | rfl | rfl | rfl | rfl <;> rfl) (Nat.le_of_ble_eq_true rfl) (Nat.le_of_ble_eq_true rfl) dX3_init_83 (cset (cset F 0 (.inr (3, [.ref (gB G + 1), .ref (gB G + 31), .ref (gB G + 61), .ref (gB G + 91), .ref (gB G + 121), .null, .int 0, .int 0, .int 0, .int 0]))) 242 fr0) (fun _ _ => rfl) ?_
      refine x_dup (pc := 86) dX3_init_86 rfl ?_
      refine t_I (pc := 87) (c_X0_init (F := cset F 0 (.inr (3, [.ref (gB G + 1), .ref (gB G + 31), .ref (gB G + 61), .ref (gB G + 91), .ref (gB G + 121), .null, .int 0, .int 0, .int 0, .int 0]))) (o := 242) ((cset_ne (by decide)).trans hP) ((cset_ne (by decide)).trans h243) ((cset_ne (by decide)).trans h244) ((cset_ne (by decide)).trans h245) ((cset_ne (by decide)).trans h246)) qI_X0_init rfl mL_X3_31 dX3_init_87 rfl rfl rfl ⟨by decide, by decide⟩ (Nat.le_of_ble_eq_true rfl) (Nat.le_of_ble_eq_true rfl) (Nat.le_of_ble_eq_true rfl) ?_
      refine x_n (n' := 247) rfl ?_
      refine x_putF (pc := 90) (ci := 3) (k := 5) (T := TX3) (N := 10) (ty := tyX3 5) cset_same (by decide) rfl nX3 tyX3 tyX3_ok nmX3 (by decide) mF_X3_32 rfl rfl rfl rfl rfl rfl (Nat.le_of_ble_eq_true rfl) dX3_init_90 (cset F 0 (.inr (3, [.ref (gB G + 1), .ref (gB G + 31), .ref (gB G + 61), .ref (gB G + 91), .ref (gB G + 121), .ref (gB G + 242), .int 0, .int 0, .int 0, .int 0]))) (cset_put) ?_
      refine x_aload_n (pc := 93) dX3_init_93 rfl ?_
      refine x_iconst (pc := 94) (0) dX3_init_94 (by decide) ?_
      refine x_put (pc := 95) (ci := 3) (k := 6) (C := RX3) (T := TX3) (N := 10) (ty := tyX3 6) cset_same (by decide) rfl nX3 tyX3 tyX3_ok nmX3 (by decide) mF_X3_36 rfl rfl rfl rfl rfl (Nat.le_of_ble_eq_true rfl) dX3_init_95 (cset F 0 (.inr (3, [.ref (gB G + 1), .ref (gB G + 31), .ref (gB G + 61), .ref (gB G + 91), .ref (gB G + 121), .ref (gB G + 242), .int 0, .int 0, .int 0, .int 0]))) (cset_put) ?_
      refine x_aload_n (pc := 98) dX3_init_98 rfl ?_
      refine x_iconst (pc := 99) (0) dX3_init_99 (by decide) ?_
      refine x_put (pc := 100) (ci := 3) (k := 7) (C := RX3) (T := TX3) (N := 10) (ty := tyX3 7) cset_same (by decide) rfl nX3 tyX3 tyX3_ok nmX3 (by decide) mF_X3_40 rfl rfl rfl rfl rfl (Nat.le_of_ble_eq_true rfl) dX3_init_100 (cset F 0 (.inr (3, [.ref (gB G + 1), .ref (gB G + 31), .ref (gB G + 61), .ref (gB G + 91), .ref (gB G + 121), .ref (gB G + 242), .int 0, .int 0, .int 0, .int 0]))) (cset_put) ?_
      refine x_aload_n (pc := 103) dX3_init_103 rfl ?_
      refine x_iconst (pc := 104) (0) dX3_init_104 (by decide) ?_
      refine x_put (pc := 105) (ci := 3) (k := 8) (C := RX3) (T := TX3) (N := 10) (ty := tyX3 8) cset_same (by decide) rfl nX3 tyX3 tyX3_ok nmX3 (by decide) mF_X3_44 rfl rfl rfl rfl rfl (Nat.le_of_ble_eq_true rfl) dX3_init_105 (cset F 0 (.inr (3, [.ref (gB G + 1), .ref (gB G + 31), .ref (gB G + 61), .ref (gB G + 91), .ref (gB G + 121), .ref (gB G + 242), .int 0, .int 0, .int 0, .int 0]))) (cset_put) ?_
      refine x_aload_n (pc := 108) dX3_init_108 rfl ?_
      refine x_iconst (pc := 109) (0) dX3_init_109 (by decide) ?_
      refine x_put (pc := 110) (ci := 3) (k := 9) (C := RX3) (T := TX3) (N := 10) (ty := tyX3 9) cset_same (by decide) rfl nX3 tyX3 tyX3_ok nmX3 (by decide) mF_X3_47 rfl rfl rfl rfl rfl (Nat.le_of_ble_eq_true rfl) dX3_init_110 (F) (cset_end h0) ?_
      exact x_vret rfl dX3_init_113 ⟨rfl, rfl, fun _ _ => rfl⟩
    · have hk4 : k < 4 := (lt_lit rfl (by decide) (by omega)).mp c60
      refine x_aload_n (pc := 63) dX3_init_63 rfl ?_
      refine x_get (pc := 64) (ci := 3) (k := 4) (C := RX3) (T := TX3) (N := 10) cset_same rfl (by omega) rfl nX3 (by decide) mF_X3_25 rfl dX3_init_64 ?_
      refine x_iload_n (pc := 67) dX3_init_67 rfl ?_
      refine x_new (pc := 68) (ci := 2) (fs := [.null, .null, .null, .int 0, .int 0, .int 0, .int 0, .int 0, .int 0, .int 0]) tyX2 tyX2_ok rfl nX2 mC_X3_7 mN_X2 mI_X2 (fun j hj => by rcases (show j = 0 ∨ j = 1 ∨ j = 2 ∨ j = 3 ∨ j = 4 ∨ j = 5 ∨ j = 6 ∨ j = 7 ∨ j = 8 ∨ j = 9 by omega) with rfl | rfl | rfl | rfl | rfl | rfl | rfl | rfl | rfl | rfl <;> rfl) (by show 121 + 30 * k + 1 ≤ 246; omega) (by show 1252 + 312 * k + 10 ≤ 2657; omega) dX3_init_68 (cset (cset (cset F 121 (aR (gT G) 4 (htR G k))) 0 (.inr (3, [.ref (gB G + 1), .ref (gB G + 31), .ref (gB G + 61), .ref (gB G + 91), .ref (gB G + 121), .null, .int 0, .int 0, .int 0, .int 0]))) (122 + 30 * k) fr2) (fun _ _ => rfl) ?_
      refine x_dup (pc := 71) dX3_init_71 rfl ?_
      have es : 122 + 30 * k = sB (4 + k) := by unfold sB; rw [if_neg (by omega)]; omega
      refine t_I (pc := 72) (c_X2_init (F := (cset (cset F 121 (aR (gT G) 4 (htR G k))) 0 (.inr (3, [.ref (gB G + 1), .ref (gB G + 31), .ref (gB G + 61), .ref (gB G + 91), .ref (gB G + 121), .null, .int 0, .int 0, .int 0, .int 0])))) (o := 122 + 30 * k) (j := 4 + k) es (by omega) (fun r hr => (cset_ne (by omega)).trans ((cset_ne (by omega)).trans (by rw [es]; exact hS (4 + k) (by omega) r hr)))) qI_X2_init rfl mL_X3_9 dX3_init_72 rfl rfl rfl ⟨by decide, by decide⟩ (Nat.le_of_ble_eq_true rfl) (by show 121 + 30 * k + 1 + 29 ≤ 246; omega) (by show 1252 + 312 * k + 10 + 302 ≤ 2657; omega) ?_
      have fs : F (122 + 30 * k) = .inr (2, [.ref (gB G + arO (4 + k)), .ref (gB G + htO (4 + k)), .ref (gB G + stO (4 + k)), .int 0, .int 0, .int 0, .int 0, .int 0, .int 0, .int 0]) := by
        have := hS (4 + k) (by omega) 0 (by decide)
        rw [Nat.add_zero, ← es] at this
        exact this
      refine x_aast (pc := 75) (o := 121) (ov := 122 + 30 * k) (N := 4) (f := htR G k) (ci := 2) (cT := gT G) (C := RX2) (fun s h => (h.1.2 3 _ rfl).2) ((cset_ne (by decide)).trans cset_same) (by omega) ((cset_ne (by omega)).trans ((cset_ne (by omega)).trans fs)) (by omega) rfl (in_of (k := k) rfl hk4 (by decide)) dX3_init_75 (cset (cset F 121 (aR (gT G) 4 (htR G (k + 1)))) 0 (.inr (3, [.ref (gB G + 1), .ref (gB G + 31), .ref (gB G + 61), .ref (gB G + 91), .ref (gB G + 121), .null, .int 0, .int 0, .int 0, .int 0]))) ?_ ?_
      · intro q hq
        have := cset_putin (cs := F) (o := 0) (a := 121) (e := .inr (3, [.ref (gB G + 1), .ref (gB G + 31), .ref (gB G + 61), .ref (gB G + 91), .ref (gB G + 121), .null, .int 0, .int 0, .int 0, .int 0])) (f := aR (gT G) 4 (htR G k)) (f' := aR (gT G) 4 (htR G (k + 1))) (by decide) q hq
        rw [this, ← htR_s, ← es, nI_clamp (by omega)]
        rfl
      refine x_iinc (pc := 76) (nI (k + 1)) dX3_init_76 rfl (iinc_nI k) (by decide) ?_
      refine x_goto (pc := 79) 58 dX3_init_79 (by decide) ?_
      refine x_n (n' := 122 + 30 * (k + 1)) (by omega) ?_
      refine x_cks (ck' := 121 + 30 * (k + 1)) (sk' := 1252 + 312 * (k + 1)) (by omega) (by omega) ?_
      exact x_back (ih hk4) ⟨rfl, rfl, trivial⟩
  refine x_aload_n (pc := 0) dX3_init_0 rfl ?_
  refine x_obj (pc := 1) mL_X3_1 (by decide) (Nat.le_of_ble_eq_true rfl) dX3_init_1 ?_
  refine x_aload_n (pc := 4) dX3_init_4 rfl ?_
  refine x_new (pc := 5) (ci := 2) (fs := [.null, .null, .null, .int 0, .int 0, .int 0, .int 0, .int 0, .int 0, .int 0]) tyX2 tyX2_ok rfl nX2 mC_X3_7 mN_X2 mI_X2 (fun j hj => by rcases (show j = 0 ∨ j = 1 ∨ j = 2 ∨ j = 3 ∨ j = 4 ∨ j = 5 ∨ j = 6 ∨ j = 7 ∨ j = 8 ∨ j = 9 by omega) with rfl | rfl | rfl | rfl | rfl | rfl | rfl | rfl | rfl | rfl <;> rfl) (Nat.le_of_ble_eq_true rfl) (Nat.le_of_ble_eq_true rfl) dX3_init_5 (cset (cset F 0 (.inr (3, [.null, .null, .null, .null, .null, .null, .int 0, .int 0, .int 0, .int 0]))) 1 fr2) (fun _ _ => rfl) ?_
  refine x_dup (pc := 8) dX3_init_8 rfl ?_
  refine t_I (pc := 9) (c_X2_init (F := cset F 0 (.inr (3, [.null, .null, .null, .null, .null, .null, .int 0, .int 0, .int 0, .int 0]))) (o := 1) (j := 0) rfl (by decide) (fun r hr => (cset_ne (by omega)).trans (hS 0 (by decide) r hr))) qI_X2_init rfl mL_X3_9 dX3_init_9 rfl rfl rfl ⟨by decide, by decide⟩ (Nat.le_of_ble_eq_true rfl) (Nat.le_of_ble_eq_true rfl) (Nat.le_of_ble_eq_true rfl) ?_
  refine x_n (n' := 31) rfl ?_
  refine x_putF (pc := 12) (ci := 3) (k := 0) (T := TX3) (N := 10) (ty := tyX3 0) cset_same (by decide) rfl nX3 tyX3 tyX3_ok nmX3 (by decide) mF_X3_10 rfl rfl rfl rfl rfl rfl (Nat.le_of_ble_eq_true rfl) dX3_init_12 (cset F 0 (.inr (3, [.ref (gB G + 1), .null, .null, .null, .null, .null, .int 0, .int 0, .int 0, .int 0]))) (cset_put) ?_
  refine x_aload_n (pc := 15) dX3_init_15 rfl ?_
  refine x_new (pc := 16) (ci := 2) (fs := [.null, .null, .null, .int 0, .int 0, .int 0, .int 0, .int 0, .int 0, .int 0]) tyX2 tyX2_ok rfl nX2 mC_X3_7 mN_X2 mI_X2 (fun j hj => by rcases (show j = 0 ∨ j = 1 ∨ j = 2 ∨ j = 3 ∨ j = 4 ∨ j = 5 ∨ j = 6 ∨ j = 7 ∨ j = 8 ∨ j = 9 by omega) with rfl | rfl | rfl | rfl | rfl | rfl | rfl | rfl | rfl | rfl <;> rfl) (Nat.le_of_ble_eq_true rfl) (Nat.le_of_ble_eq_true rfl) dX3_init_16 (cset (cset F 0 (.inr (3, [.ref (gB G + 1), .null, .null, .null, .null, .null, .int 0, .int 0, .int 0, .int 0]))) 31 fr2) (fun _ _ => rfl) ?_
  refine x_dup (pc := 19) dX3_init_19 rfl ?_
  refine t_I (pc := 20) (c_X2_init (F := cset F 0 (.inr (3, [.ref (gB G + 1), .null, .null, .null, .null, .null, .int 0, .int 0, .int 0, .int 0]))) (o := 31) (j := 1) rfl (by decide) (fun r hr => (cset_ne (by omega)).trans (hS 1 (by decide) r hr))) qI_X2_init rfl mL_X3_9 dX3_init_20 rfl rfl rfl ⟨by decide, by decide⟩ (Nat.le_of_ble_eq_true rfl) (Nat.le_of_ble_eq_true rfl) (Nat.le_of_ble_eq_true rfl) ?_
  refine x_n (n' := 61) rfl ?_
  refine x_putF (pc := 23) (ci := 3) (k := 1) (T := TX3) (N := 10) (ty := tyX3 1) cset_same (by decide) rfl nX3 tyX3 tyX3_ok nmX3 (by decide) mF_X3_16 rfl rfl rfl rfl rfl rfl (Nat.le_of_ble_eq_true rfl) dX3_init_23 (cset F 0 (.inr (3, [.ref (gB G + 1), .ref (gB G + 31), .null, .null, .null, .null, .int 0, .int 0, .int 0, .int 0]))) (cset_put) ?_
  refine x_aload_n (pc := 26) dX3_init_26 rfl ?_
  refine x_new (pc := 27) (ci := 2) (fs := [.null, .null, .null, .int 0, .int 0, .int 0, .int 0, .int 0, .int 0, .int 0]) tyX2 tyX2_ok rfl nX2 mC_X3_7 mN_X2 mI_X2 (fun j hj => by rcases (show j = 0 ∨ j = 1 ∨ j = 2 ∨ j = 3 ∨ j = 4 ∨ j = 5 ∨ j = 6 ∨ j = 7 ∨ j = 8 ∨ j = 9 by omega) with rfl | rfl | rfl | rfl | rfl | rfl | rfl | rfl | rfl | rfl <;> rfl) (Nat.le_of_ble_eq_true rfl) (Nat.le_of_ble_eq_true rfl) dX3_init_27 (cset (cset F 0 (.inr (3, [.ref (gB G + 1), .ref (gB G + 31), .null, .null, .null, .null, .int 0, .int 0, .int 0, .int 0]))) 61 fr2) (fun _ _ => rfl) ?_
  refine x_dup (pc := 30) dX3_init_30 rfl ?_
  refine t_I (pc := 31) (c_X2_init (F := cset F 0 (.inr (3, [.ref (gB G + 1), .ref (gB G + 31), .null, .null, .null, .null, .int 0, .int 0, .int 0, .int 0]))) (o := 61) (j := 2) rfl (by decide) (fun r hr => (cset_ne (by omega)).trans (hS 2 (by decide) r hr))) qI_X2_init rfl mL_X3_9 dX3_init_31 rfl rfl rfl ⟨by decide, by decide⟩ (Nat.le_of_ble_eq_true rfl) (Nat.le_of_ble_eq_true rfl) (Nat.le_of_ble_eq_true rfl) ?_
  refine x_n (n' := 91) rfl ?_
  refine x_putF (pc := 34) (ci := 3) (k := 2) (T := TX3) (N := 10) (ty := tyX3 2) cset_same (by decide) rfl nX3 tyX3 tyX3_ok nmX3 (by decide) mF_X3_19 rfl rfl rfl rfl rfl rfl (Nat.le_of_ble_eq_true rfl) dX3_init_34 (cset F 0 (.inr (3, [.ref (gB G + 1), .ref (gB G + 31), .ref (gB G + 61), .null, .null, .null, .int 0, .int 0, .int 0, .int 0]))) (cset_put) ?_
  refine x_aload_n (pc := 37) dX3_init_37 rfl ?_
  refine x_new (pc := 38) (ci := 2) (fs := [.null, .null, .null, .int 0, .int 0, .int 0, .int 0, .int 0, .int 0, .int 0]) tyX2 tyX2_ok rfl nX2 mC_X3_7 mN_X2 mI_X2 (fun j hj => by rcases (show j = 0 ∨ j = 1 ∨ j = 2 ∨ j = 3 ∨ j = 4 ∨ j = 5 ∨ j = 6 ∨ j = 7 ∨ j = 8 ∨ j = 9 by omega) with rfl | rfl | rfl | rfl | rfl | rfl | rfl | rfl | rfl | rfl <;> rfl) (Nat.le_of_ble_eq_true rfl) (Nat.le_of_ble_eq_true rfl) dX3_init_38 (cset (cset F 0 (.inr (3, [.ref (gB G + 1), .ref (gB G + 31), .ref (gB G + 61), .null, .null, .null, .int 0, .int 0, .int 0, .int 0]))) 91 fr2) (fun _ _ => rfl) ?_
  refine x_dup (pc := 41) dX3_init_41 rfl ?_
  refine t_I (pc := 42) (c_X2_init (F := cset F 0 (.inr (3, [.ref (gB G + 1), .ref (gB G + 31), .ref (gB G + 61), .null, .null, .null, .int 0, .int 0, .int 0, .int 0]))) (o := 91) (j := 3) rfl (by decide) (fun r hr => (cset_ne (by omega)).trans (hS 3 (by decide) r hr))) qI_X2_init rfl mL_X3_9 dX3_init_42 rfl rfl rfl ⟨by decide, by decide⟩ (Nat.le_of_ble_eq_true rfl) (Nat.le_of_ble_eq_true rfl) (Nat.le_of_ble_eq_true rfl) ?_
  refine x_n (n' := 121) rfl ?_
  refine x_putF (pc := 45) (ci := 3) (k := 3) (T := TX3) (N := 10) (ty := tyX3 3) cset_same (by decide) rfl nX3 tyX3 tyX3_ok nmX3 (by decide) mF_X3_22 rfl rfl rfl rfl rfl rfl (Nat.le_of_ble_eq_true rfl) dX3_init_45 (cset F 0 (.inr (3, [.ref (gB G + 1), .ref (gB G + 31), .ref (gB G + 61), .ref (gB G + 91), .null, .null, .int 0, .int 0, .int 0, .int 0]))) (cset_put) ?_
  refine x_aload_n (pc := 48) dX3_init_48 rfl ?_
  refine x_iconst (pc := 49) (4) dX3_init_49 (by decide) ?_
  refine x_anew (pc := 50) (N := 4) (C := RX2) (cT := gT G) (fun s h => ⟨h.2.2.1, (h.1.2 3 _ rfl).2⟩) mC_X3_7 (by decide) (by decide) (Nat.le_of_ble_eq_true rfl) (Nat.le_of_ble_eq_true rfl) (Nat.le_of_ble_eq_true rfl) dX3_init_50 (cset (cset F 121 (aR (gT G) 4 (fun _ => none))) 0 (.inr (3, [.ref (gB G + 1), .ref (gB G + 31), .ref (gB G + 61), .ref (gB G + 91), .null, .null, .int 0, .int 0, .int 0, .int 0]))) (cset_newin (by decide)) ?_
  refine x_n (n' := 122) rfl ?_
  refine x_putF (pc := 53) (ci := 3) (k := 4) (T := TX3) (N := 10) (ty := tyX3 4) cset_same (by decide) rfl nX3 tyX3 tyX3_ok nmX3 (by decide) mF_X3_25 rfl rfl rfl rfl rfl rfl (Nat.le_of_ble_eq_true rfl) dX3_init_53 (cset (cset F 121 (aR (gT G) 4 (fun _ => none))) 0 (.inr (3, [.ref (gB G + 1), .ref (gB G + 31), .ref (gB G + 61), .ref (gB G + 91), .ref (gB G + 121), .null, .int 0, .int 0, .int 0, .int 0]))) (cset_put) ?_
  refine x_iconst (pc := 56) (0) dX3_init_56 (by decide) ?_
  refine x_istore_n (pc := 57) dX3_init_57 (by decide) ?_
  have e := lp 0 (by omega)
  rw [htR_0] at e
  exact x_back e ⟨rfl, rfl, trivial⟩
end INI
