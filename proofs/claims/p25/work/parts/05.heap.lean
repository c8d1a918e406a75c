/-! rows on the heap, calls, returns -/
theorem Kx.same {G : GX} {u U : State} (h : u.vm = U.vm) (hK : Kx G u) : Kx G U := by
  have hal : u.vm.Alike U.vm := by rw [h]; exact Vm.Alike.refl _
  exact ⟨va_K.moved hal hK.1, va_AO.moved hal hK.2.1, va_AO.moved hal hK.2.2.1, va_Nw.same rfl h hK.2.2.2⟩
theorem Kx.warm {G : GX} {s U : State} (h : s.WarmedH U.vm) (hK : Kx G s) : Kx G U :=
  ⟨va_K.moved h.alike hK.1, va_AO.moved h.alike hK.2.1, va_AO.moved h.alike hK.2.2.1, va_Nw.warmM h hK.2.2.2⟩
theorem Sx.moved {G : GX} {u U : State} {H : Heap} (hal : u.vm.Alike U.vm) (h : Sx G u H) : Sx G U H :=
  ⟨va_Z.moved hal h.1, va_T.moved hal h.2.1, va_Z.moved hal h.2.2.1, va_T.moved hal h.2.2.2.1, va_T.moved hal h.2.2.2.2⟩
theorem Sx.kept {G : GX} {U : State} {H H1 : Heap} (h : Sx G U H) (hq : ∀ a : Nat, a < H.size → ¬ gA G a → H1[a]? = H[a]?) : Sx G U H1 :=
  ⟨va_Z.kept h.1 hq, va_T.kept h.2.1 hq, va_Z.kept h.2.2.1 hq, va_T.kept h.2.2.2.1 hq, va_T.kept h.2.2.2.2 hq⟩
theorem Wd.warm {G : GX} {s U : State} {n : Nat} {cs : Nat → va_E} {H : Heap} {locs : List Loc} (hK : Kx G s) (hS : Sx G s s.heap) (h : s.WarmedH U.vm) (hU : U.heap = H) (hp : va_S (gA G) s.heap H locs) (hP : Rp G n cs H) : Wd G n cs U :=
  ⟨by rw [hU]; exact hP, hK.warm h, by rw [hU]; exact (hS.moved h.alike).kept hp.2.1⟩
theorem Wd.same {G : GX} {u U : State} {n : Nat} {cs : Nat → va_E} (h : u.vm = U.vm) (hh : u.heap = U.heap) (hW : Wd G n cs u) : Wd G n cs U :=
  ⟨by rw [← hh]; exact hW.1, hW.2.1.same h, by rw [← hh]; exact hW.2.2.moved (by rw [h]; exact Vm.Alike.refl _)⟩
theorem Wd.blind (G : GX) (n : Nat) (cs : Nat → va_E) (As : List Value) : FrameBlind (va_Pc As (Wd G n cs)) := fun _ _ _ _ q => ⟨q.1, Wd.same rfl rfl q.2⟩
def Qx (G : GX) (r : Option Value → Nat → (Nat → va_E) → Prop) : Array Value → State → Outcome → State → Prop := fun _ st o t => (∃ v n' cs', o = .returned v ∧ r v n' cs' ∧ Wd G n' cs' t) ∧ va_F (gA G) st t
def Zx (G : GX) (r : Option Value → Nat → (Nat → va_E) → Prop) (mc ms : Nat) : ZX := fun below args s => MQ below (Qx G r) args s mc ms (gA G)
/-- a method's contract -/
def Ct (G : GX) (ynm : MethodName) (yc : YX) (mc ms : Nat) (As : List Value) (n : Nat) (cs : Nat → va_E) (r : Option Value → Nat → (Nat → va_E) → Prop) : Prop :=
  Met G.1 ynm (Cond.code ynm yc.1 yc.2.1 yc.2.2.2.2.1 :: WS) yc.2.2.2.1 (va_Pc As (Wd G n cs)) (Qx G r) mc ms (gA G)
theorem lv_args_mem : ∀ {vs : List Value} {i : Nat} {q : Nat × Value}, q ∈ lv_args i vs → q.2 ∈ vs
  | [], _, _, h => by simp [lv_args] at h
  | v :: vs, i, q, h => by
    simp only [lv_args] at h
    rcases List.mem_cons.mp h with h | h
    · rw [h]; exact List.mem_cons_self
    · exact List.mem_cons_of_mem _ (lv_args_mem h)
theorem ct_of {G : GX} {ynm : MethodName} {yc : YX} {mc ms : Nat} {As : List Value} {n : Nat} {cs : Nat → va_E} {r : Option Value → Nat → (Nat → va_E) → Prop} (hpl : plainName ynm.cls = true) (hcls : ynm.cls = yc.2.2.1) (hnm : ynm.name = yc.2.2.2.2.2) (hlen : (lg_sl As).length ≤ yc.2.1) (hcat : ∀ v ∈ As, v.category = 1)
    (h : XJ G yc (fun _ => True) (Zx G r mc ms) 0 (lv_args 0 As) [] n cs 0 0) : Ct G ynm yc mc ms As n cs r := by
  refine Met.ofW (cc := yc.1) (maxL := yc.2.1) (ret := yc.2.2.2.2.1) hpl rfl ?_
  intro p e s m args below meth c s₁ B hml hv
  obtain ⟨rfl, hW⟩ := hv
  have hts := atoms_spec (ws := Cond.code ynm yc.1 yc.2.1 yc.2.2.2.2.1 :: WS) B.pre
  have hown : s.vm.findClass yc.2.2.1 = some m.cls := by rw [← hcls]; exact findClass_of_methodNamed B.named
  have hin : meth.name = ynm.name := (name_of_methodNamed B.named B.method).1
  have hl := lv_entry As hlen
  rw [lg_entry_eq]
  refine h p e s m _ below meth c s.heap [] _ ⟨B.exec, B.bytes, hml, hown, fun w hw => hts w (List.mem_cons_of_mem _ hw), B.notSynchronized, B.returns, hin.trans hnm, hW.2.1, hW.2.2, by have := hW.1.1; omega⟩ trivial va_S.rf hW.1 ⟨hl.1, hl.2.1, fun i v hi => ?_⟩
  have hm := lk_mem hi
  exact ⟨hl.2.2 _ hm, hcat _ (lv_args_mem hm)⟩
section HROWS
variable {G : GX} {y : YX} {E : State → Prop} {Z : ZX} {pc : Nat} {l : List (Nat × Value)} {stk : List Value} {n : Nat} {cs : Nat → va_E} {ck sk : Nat}
theorem rp_one {H : Heap} (P : Rp G n cs H) {o : Nat} (ho : o < n) {e : va_E} (he : cs o = e) : va_P (gD G) vwCl [(gB G + o, e)] H := by
  intro k q hq
  cases k with
  | zero =>
    cases hq
    rw [← he]
    exact P.2 o ho
  | succ k => simp at hq
theorem x_get {o ci k idx : Nat} {fs : List Value} {v : Value} {C : String} {T : u_T} {N : Nat} (hcell : cs o = .inr (ci, fs)) (hv : fs[k]? = some v) (ho : o < n) (hc : vwCl[ci]? = some (C, T, N)) (hin : ∀ w ∈ u_ws C T N, w ∈ WS) (hk : k < N) (hlink : Cond.fieldLink y.2.2.1 idx C (T k).2.1 (T k).2.2.1 ∈ WS) (hdecl : (T k).1 = C) (hd : decode y.1 pc = .ok (.getfield idx, 3))
    (kk : XJ G y E Z (pc + 3) l (v :: stk) n cs ck sk) : XJ G y E Z pc l (.ref (gB G + o) :: stk) n cs ck sk := by
  intro p e s m args below meth c H locs ls F e1 S P L
  exact va_get F.1 F.2.1 F.2.2.2.2.1 hin F.2.2.2.1 F.2.2.2.2.2.2.2.2.1.1 (rp_one P ho hcell) 0 rfl hc k hk (F.2.2.2.2.1 _ hlink) (by rw [hdecl]; exact fun _ h => h) hv hd (kk p e s m args below meth c H locs ls F e1 S P L)
theorem x_put {o ci k idx : Nat} {fs : List Value} {v : Value} {C : String} {T : u_T} {N : Nat} {ty : FieldType} (hcell : cs o = .inr (ci, fs)) (ho : o < n) (hc : vwCl[ci]? = some (C, T, N)) (hin : ∀ w ∈ u_ws C T N, w ∈ WS) (tyf : Nat → FieldType) (hty : ∀ k, k < N → parseFieldDescriptor (T k).2.2.1 = some (tyf k)) (hnm : ∀ a, a < N → ∀ b, b < N → a ≠ b → (T a).2.1 ≠ (T b).2.1) (hk : k < N) (hlink : Cond.fieldLink y.2.2.1 idx C (T k).2.1 (T k).2.2.1 ∈ WS) (hdecl : (T k).1 = C) (hfin : (T k).2.2.2 = false) (htk : tyf k = ty) (hn : narrow ty v = v) (hfit : fits ty v = true) (hl : k < fs.length) (hd : decode y.1 pc = .ok (.putfield idx, 3))
    (cs' : Nat → va_E) (hset : ∀ o', o' < n → cs' o' = if o' = o then .inr (ci, fs.set k v) else cs o') (kk : XJ G y E Z (pc + 3) l stk n cs' ck sk) : XJ G y E Z pc l (v :: .ref (gB G + o) :: stk) n cs ck sk := by
  intro p e s m args below meth c H locs ls F e1 S P L
  have hts := F.2.2.2.2.1
  have hK := F.2.2.2.2.2.2.2.2.1.1
  have hap := va_apart (own := y.2.2.1) hts hin tyf hty hnm hK hc
  have hat := P.2 o ho
  rw [hcell] at hat
  obtain ⟨r, h1, cell, q1, q2, q3, q4⟩ := hat
  have hr : r = (C, T, N) := Option.some.inj (h1.symm.trans hc)
  subst hr
  obtain ⟨hS, hfc, kC, hkC, hkind⟩ := hK.1 ci _ hc
  obtain ⟨cf, kf, fi, f, hi, hsl⟩ := hS k hk
  have hlay := hts _ (hin _ (u_in_lay hk))
  unfold u_lay at hlay
  rw [if_neg (by rw [hfin]; decide)] at hlay
  have hst := (u_facts hfc hkC (u_lays hts hin hk) hi).1
  have h6 := u_store hfc hkC hkind hlay hi ((hty k hk).trans (by rw [htk])) hn hfit
  refine W.putK F.1 F.2.1 (f := f) ⟨F.2.2.2.1, hts _ hlink, ⟨cf, kf, fi, by rw [← hdecl]; exact hi⟩, hst⟩ (by rw [q2]; exact h6) q1 q3 (by rw [hsl]; exact k2_hasslot (q4 k hk)) rfl rfl hd fun H' u1 u2 u3 => ?_
  rw [hsl] at u1 ⊢
  refine kk p e s m args below meth c H' _ ls F e1 (S.put u2 u3 (Nat.le_add_right _ _)) ⟨u2.trans P.1, fun o' ho' => ?_⟩ L
  rw [hset o' ho']
  by_cases hoo : o' = o
  · subst hoo
    rw [if_pos rfl]
    exact ⟨_, hc, t_OB.to (V := updV (vp_V fs) k v) ⟨_, u1, q2, q3, t_set q4 hap hk v⟩ (fun j _ => vp_updV_set hl v j)⟩
  · rw [if_neg hoo]
    exact (P.2 o' ho').kept (u3 _ (by show gB G + o' ≠ gB G + o; omega))
theorem x_putF {o ci k idx : Nat} {fs : List Value} {v : Value} {T : u_T} {N : Nat} {ty : FieldType} (hcell : cs o = .inr (ci, fs)) (ho : o < n) (hc : vwCl[ci]? = some (y.2.2.1, T, N)) (hin : ∀ w ∈ u_ws y.2.2.1 T N, w ∈ WS) (tyf : Nat → FieldType) (hty : ∀ k, k < N → parseFieldDescriptor (T k).2.2.1 = some (tyf k)) (hnm : ∀ a, a < N → ∀ b, b < N → a ≠ b → (T a).2.1 ≠ (T b).2.1) (hk : k < N) (hlink : Cond.fieldLink y.2.2.1 idx y.2.2.1 (T k).2.1 (T k).2.2.1 ∈ WS) (hdecl : (T k).1 = y.2.2.1) (hinit : y.2.2.2.2.2 = "<init>") (hfin : (T k).2.2.2 = true) (htk : tyf k = ty) (hn : narrow ty v = v) (hfit : fits ty v = true) (hl : k < fs.length) (hd : decode y.1 pc = .ok (.putfield idx, 3))
    (cs' : Nat → va_E) (hset : ∀ o', o' < n → cs' o' = if o' = o then .inr (ci, fs.set k v) else cs o') (kk : XJ G y E Z (pc + 3) l stk n cs' ck sk) : XJ G y E Z pc l (v :: .ref (gB G + o) :: stk) n cs ck sk := by
  intro p e s m args below meth c H locs ls F e1 S P L
  have hts := F.2.2.2.2.1
  have hK := F.2.2.2.2.2.2.2.2.1.1
  have hap := va_apart (own := y.2.2.1) hts hin tyf hty hnm hK hc
  have hat := P.2 o ho
  rw [hcell] at hat
  obtain ⟨r, h1, cell, q1, q2, q3, q4⟩ := hat
  have hr : r = (y.2.2.1, T, N) := Option.some.inj (h1.symm.trans hc)
  subst hr
  obtain ⟨hS, hfc, kC, hkC, hkind⟩ := hK.1 ci _ hc
  obtain ⟨cf, kf, fi, f, hi, hsl⟩ := hS k hk
  have hlay := hts _ (hin _ (u_in_lay hk))
  unfold u_lay at hlay
  rw [if_pos hfin] at hlay
  have hst := (u_facts hfc hkC (u_lays hts hin hk) hi).1
  have hcf : m.cls = cf := by
    obtain ⟨_, _, c', _, _, _, -, -, hf', -, -, -, hown2, -⟩ := Cond.laysFinal_spec hlay
    have e1 : c' = cf := by have := hi.symm.trans hf'; simp at this; exact this.1.symm
    rw [hdecl] at hown2
    rw [← e1]; exact Option.some.inj (F.2.2.2.1.symm.trans hown2)
  have h6 := u_fits hfc hkC hkind (Or.inr hlay) hi ((hty k hk).trans (by rw [htk])) hn hfit
  have hi2 : s.fieldFound? y.2.2.1 (T k).2.1 (T k).2.2.1 = some (cf, kf, fi, f) := by rw [← hdecl]; exact hi
  refine W.putFinK F.1 F.2.1 F.2.2.2.1 (hts _ hlink) hi2 hst hcf (F.2.2.2.2.2.2.2.1.trans hinit) (by rw [q2]; exact h6) q1 q3 (by rw [hsl]; exact k2_hasslot (q4 k hk)) rfl rfl hd fun H' u1 u2 u3 => ?_
  rw [hsl] at u1 ⊢
  refine kk p e s m args below meth c H' _ ls F e1 (S.put u2 u3 (Nat.le_add_right _ _)) ⟨u2.trans P.1, fun o' ho' => ?_⟩ L
  rw [hset o' ho']
  by_cases hoo : o' = o
  · subst hoo
    rw [if_pos rfl]
    exact ⟨_, hc, t_OB.to (V := updV (vp_V fs) k v) ⟨_, u1, q2, q3, t_set q4 hap hk v⟩ (fun j _ => vp_updV_set hl v j)⟩
  · rw [if_neg hoo]
    exact (P.2 o' ho').kept (u3 _ (by show gB G + o' ≠ gB G + o; omega))
theorem x_iald {o N : Nat} {f : Nat → Int32} {i : Int32} (hcell : cs o = .inl (gI G, N, .inl f)) (ho : o < n) (hi : vp_in i N) (hd : decode y.1 pc = .ok (.iaload, 1)) (kk : XJ G y E Z (pc + 1) l (.int (f i.toNatClampNeg) :: stk) n cs ck sk) : XJ G y E Z pc l (.int i :: .ref (gB G + o) :: stk) n cs ck sk :=
  fun p e s m args below meth c H locs ls F e1 S P L => va_iald F.1 F.2.1 F.2.2.2.2.2.2.2.2.1.1 (rp_one P ho hcell) 0 0 rfl rfl hi hd (kk p e s m args below meth c H locs ls F e1 S P L)
theorem x_cald {o N : Nat} {f : Nat → Int32} {i : Int32} (hcell : cs o = .inl (gC G, N, .inl f)) (ho : o < n) (hi : vp_in i N) (hd : decode y.1 pc = .ok (.caload, 1)) (kk : XJ G y E Z (pc + 1) l (.int (f i.toNatClampNeg) :: stk) n cs ck sk) : XJ G y E Z pc l (.int i :: .ref (gB G + o) :: stk) n cs ck sk :=
  fun p e s m args below meth c H locs ls F e1 S P L => va_cald F.1 F.2.1 F.2.2.2.2.2.2.2.2.1.1 (rp_one P ho hcell) 0 1 rfl rfl hi hd (kk p e s m args below meth c H locs ls F e1 S P L)
theorem x_aaldS {o N a : Nat} {f : Nat → Option Nat} {i : Int32} (hcell : cs o = .inl (gS G, N, .inr (.inr (.inr (.inr f))))) (ho : o < n) (hi : vp_in i N) (hf : f i.toNatClampNeg = some a) (hd : decode y.1 pc = .ok (.aaload, 1)) (kk : XJ G y E Z (pc + 1) l (.ref a :: stk) n cs ck sk) : XJ G y E Z pc l (.int i :: .ref (gB G + o) :: stk) n cs ck sk :=
  fun p e s m args below meth c H locs ls F e1 S P L => va_aldq (C := "BeamCuts$Shape") F.1 F.2.1 F.2.2.2.2.2.2.2.2.1.1 (rp_one P ho hcell) 0 2 rfl rfl hi hd (by rw [hf]; exact kk p e s m args below meth c H locs ls F e1 S P L)
theorem x_aaldT {o N a : Nat} {f : Nat → Option Nat} {i : Int32} (hcell : cs o = .inl (gT G, N, .inr (.inr (.inr (.inr f))))) (ho : o < n) (hi : vp_in i N) (hf : f i.toNatClampNeg = some a) (hd : decode y.1 pc = .ok (.aaload, 1)) (kk : XJ G y E Z (pc + 1) l (.ref a :: stk) n cs ck sk) : XJ G y E Z pc l (.int i :: .ref (gB G + o) :: stk) n cs ck sk :=
  fun p e s m args below meth c H locs ls F e1 S P L => va_aldq (C := "BeamCuts$Sheet") F.1 F.2.1 F.2.2.2.2.2.2.2.2.1.1 (rp_one P ho hcell) 0 3 rfl rfl hi hd (by rw [hf]; exact kk p e s m args below meth c H locs ls F e1 S P L)
theorem rp_set {H H' : Heap} {o : Nat} {cs' : Nat → va_E} {e' : va_E} (P : Rp G n cs H) (z : H'.size = H.size) (oq : ∀ q : Nat, q ≠ gB G + o → H'[q]? = H[q]?) (he : va_at (gD G) vwCl (gB G + o, e') H') (hset : ∀ o', o' < n → cs' o' = if o' = o then e' else cs o') : Rp G n cs' H' := by
  refine ⟨z.trans P.1, fun o' ho' => ?_⟩
  rw [hset o' ho']
  by_cases hoo : o' = o
  · subst hoo
    rw [if_pos rfl]
    exact he
  · rw [if_neg hoo]
    exact (P.2 o' ho').kept (oq _ (by show gB G + o' ≠ gB G + o; omega))
theorem x_iast {o N : Nat} {f : Nat → Int32} {i x : Int32} (hcell : cs o = .inl (gI G, N, .inl f)) (ho : o < n) (hi : vp_in i N) (hd : decode y.1 pc = .ok (.iastore, 1)) (cs' : Nat → va_E) (hset : ∀ o', o' < n → cs' o' = if o' = o then .inl (gI G, N, .inl (upd f i.toNatClampNeg x)) else cs o') (kk : XJ G y E Z (pc + 1) l stk n cs' ck sk) : XJ G y E Z pc l (.int x :: .int i :: .ref (gB G + o) :: stk) n cs ck sk := by
  intro p e s m args below meth c H locs ls F e1 S P L
  have hP := rp_one P ho hcell
  have hK := F.2.2.2.2.2.2.2.2.1.1
  refine W.iast F.1 F.2.1 (hP 0 _ rfl) ((hK.2 0 _ rfl).1 N (fun j => .int (f j))) (fun q => by cases q) (by show ¬ (i < 0 ∨ (arrV _ _ _).slots.size ≤ _); rw [arrV_size]; exact hi) rfl rfl hd fun H1 u z oq => ?_
  refine kk p e s m args below meth c H1 _ ls F e1 (S.put z oq (Nat.le_add_right _ _)) (rp_set P z oq ?_ hset) L
  show H1[gB G + o]? = some (vp_cell _ _)
  rw [u]
  rw [vp_cell_i, vp_cell_i, arrV_store]
  congr 2
  funext q
  by_cases hq : q = i.toNatClampNeg
  · subst hq
    simp [updV, upd]
  · simp [updV, upd, hq]
theorem x_cast {o N : Nat} {f : Nat → Int32} {i x : Int32} (hcell : cs o = .inl (gC G, N, .inl f)) (ho : o < n) (hi : vp_in i N) (hx : narrow .char (.int x) = .int x) (hd : decode y.1 pc = .ok (.castore, 1)) (cs' : Nat → va_E) (hset : ∀ o', o' < n → cs' o' = if o' = o then .inl (gC G, N, .inl (upd f i.toNatClampNeg x)) else cs o') (kk : XJ G y E Z (pc + 1) l stk n cs' ck sk) : XJ G y E Z pc l (.int x :: .int i :: .ref (gB G + o) :: stk) n cs ck sk := by
  intro p e s m args below meth c H locs ls F e1 S P L
  have hP := rp_one P ho hcell
  have hK := F.2.2.2.2.2.2.2.2.1.1
  refine W.cast F.1 F.2.1 (hP 0 _ rfl) ((hK.2 1 _ rfl).1 N (fun j => .int (f j))) (fun q => by cases q) (by show ¬ (i < 0 ∨ (arrV _ _ _).slots.size ≤ _); rw [arrV_size]; exact hi) rfl rfl hd fun H1 u z oq => ?_
  refine kk p e s m args below meth c H1 _ ls F e1 (S.put z oq (Nat.le_add_right _ _)) (rp_set P z oq ?_ hset) L
  show H1[gB G + o]? = some (vp_cell _ _)
  rw [u, hx]
  rw [vp_cell_i, vp_cell_i, arrV_store]
  congr 2
  funext q
  by_cases hq : q = i.toNatClampNeg
  · subst hq
    simp [updV, upd]
  · simp [updV, upd, hq]
theorem rp_push {H H' : Heap} {cs' : Nat → va_E} {e' : va_E} (P : Rp G n cs H) (z : H'.size = H.size + 1) (oq : ∀ q : Nat, q < H.size → H'[q]? = H[q]?) (he : va_at (gD G) vwCl (H.size, e') H') (hset : ∀ o', o' < n + 1 → cs' o' = if o' = n then e' else cs o') : Rp G (n + 1) cs' H' := by
  refine ⟨by rw [z, P.1]; rfl, fun o' ho' => ?_⟩
  rw [hset o' ho']
  by_cases hoo : o' = n
  · subst hoo
    rw [if_pos rfl, ← P.1]
    exact he
  · rw [if_neg hoo]
    exact (P.2 o' (by omega)).kept (oq _ (by have := P.1; show gB G + o' < _; omega))
theorem s_push {s : State} {H H' : Heap} {locs : List Loc} (S : va_S (gA G) s.heap H locs) (z : H'.size = H.size + 1) (oq : ∀ q : Nat, q < H.size → H'[q]? = H[q]?) : va_S (gA G) s.heap H' locs :=
  ⟨Nat.le_trans S.1 (by omega), fun x h1 h2 => (oq x (Nat.lt_of_lt_of_le h1 S.1)).trans (S.2.1 x h1 h2), S.2.2⟩
theorem x_new {ci idx : Nat} {fs : List Value} {C : String} {T : u_T} {N : Nat} (tyf : Nat → FieldType) (hty : ∀ k, k < N → parseFieldDescriptor (T k).2.2.1 = some (tyf k)) (hc : vwCl[ci]? = some (C, T, N)) (hin : ∀ w ∈ u_ws C T N, w ∈ WS) (hcl : Cond.classLink y.2.2.1 idx C ∈ WS) (hinst : Cond.instantiable C N ∈ WS) (hini : Cond.initialized C ∈ WS) (hfs : ∀ j, j < N → defaultValue (tyf j) = vp_V fs j) (h1 : ck + 1 ≤ y.2.2.2.1.cells) (h2 : sk + N ≤ y.2.2.2.1.slots) (hd : decode y.1 pc = .ok (.new idx, 3))
    (cs' : Nat → va_E) (hset : ∀ o', o' < n + 1 → cs' o' = if o' = n then .inr (ci, fs) else cs o') (kk : XJ G y E Z (pc + 3) l (.ref (gB G + n) :: stk) (n + 1) cs' (ck + 1) (sk + N)) : XJ G y E Z pc l stk n cs ck sk := by
  intro p e s m args below meth c H locs ls F e1 S P L
  have hts := F.2.2.2.2.1
  have hK := F.2.2.2.2.2.2.2.2.1.1
  have hKn := hK.1 ci _ hc
  refine W.newcK F.1 F.2.1 F.2.2.2.1 (hts _ hcl) (hts _ hinst) (hts _ hini) rfl hd h1 h2 hKn.2.1 rfl fun H1 kC hkC u z oq => ?_
  rw [P.1]
  exact kk p e s m args below meth c H1 locs ls F e1 (s_push S z oq) (rp_push (e' := .inr (ci, fs)) P z oq ⟨_, hc, (u_born tyf hts hin hKn hkC u hty).to hfs⟩ hset) L
theorem ra_of {s : State} {cA cB : ClassId} {ty : FieldType} (h : s.vm.findClass ("[" ++ ty.toString) = some cA) (h2 : va_RA s cB ty) : cA = cB := by
  cases ty <;> first | exact Option.some.inj (h.symm.trans h2) | (obtain ⟨_, _, _, _, _, h4⟩ := h2; exact Option.some.inj (h.symm.trans h4))
theorem x_newI {i : Int32} {N : Nat} (hi : ¬ i < 0) (hN : i.toNatClampNeg = N) (hb : N * 4 ≤ 536870912) (h1 : ck + 1 ≤ y.2.2.2.1.cells) (h2 : sk + N ≤ y.2.2.2.1.slots) (hd : decode y.1 pc = .ok (.newarray .int, 2))
    (cs' : Nat → va_E) (hset : ∀ o', o' < n + 1 → cs' o' = if o' = n then .inl (gI G, N, .inl (fun _ => 0)) else cs o') (kk : XJ G y E Z (pc + 2) l (.ref (gB G + n) :: stk) (n + 1) cs' (ck + 1) (sk + N)) : XJ G y E Z pc l (.int i :: stk) n cs ck sk := by
  intro p e s m args below meth c H locs ls F e1 S P L
  have hts := F.2.2.2.2.1
  have hK := F.2.2.2.2.2.2.2.2.1.1
  refine va_newaK (atype := .int) F.1 F.2.1 (hts _ mA_int) rfl hd rfl hi hN hb h1 h2 rfl fun H1 cA u z oq hAr hNm => ?_
  have hcA : cA = gI G := ra_of (ty := .int) hNm (hK.2 0 _ rfl).2
  subst hcA
  rw [P.1]
  exact kk p e s m args below meth c H1 locs ls F e1 (s_push S z oq) (rp_push P z oq (by show H1[H.size]? = some (vp_cell _ _); exact u) hset) L
theorem x_newC {i : Int32} {N : Nat} (hi : ¬ i < 0) (hN : i.toNatClampNeg = N) (hb : N * 2 ≤ 536870912) (h1 : ck + 1 ≤ y.2.2.2.1.cells) (h2 : sk + N ≤ y.2.2.2.1.slots) (hd : decode y.1 pc = .ok (.newarray .char, 2))
    (cs' : Nat → va_E) (hset : ∀ o', o' < n + 1 → cs' o' = if o' = n then .inl (gC G, N, .inl (fun _ => 0)) else cs o') (kk : XJ G y E Z (pc + 2) l (.ref (gB G + n) :: stk) (n + 1) cs' (ck + 1) (sk + N)) : XJ G y E Z pc l (.int i :: stk) n cs ck sk := by
  intro p e s m args below meth c H locs ls F e1 S P L
  have hts := F.2.2.2.2.1
  have hK := F.2.2.2.2.2.2.2.2.1.1
  refine va_newaK (atype := .char) F.1 F.2.1 (hts _ mA_char) rfl hd rfl hi hN hb h1 h2 rfl fun H1 cA u z oq hAr hNm => ?_
  have hcA : cA = gC G := ra_of (ty := .char) hNm (hK.2 1 _ rfl).2
  subst hcA
  rw [P.1]
  exact kk p e s m args below meth c H1 locs ls F e1 (s_push S z oq) (rp_push P z oq (by show H1[H.size]? = some (vp_cell _ _); exact u) hset) L
theorem x_anew {idx : Nat} {i : Int32} {N : Nat} {C : String} {cT : ClassId} (hao : ∀ s, Kx G s → va_AO C s ∧ va_RA s cT (.object C)) (hcl : Cond.classLink y.2.2.1 idx C ∈ WS) (hi : ¬ i < 0) (hN : i.toNatClampNeg = N) (hb : N * 4 ≤ 536870912) (h1 : ck + 1 ≤ y.2.2.2.1.cells) (h2 : sk + N ≤ y.2.2.2.1.slots) (hd : decode y.1 pc = .ok (.anewarray idx, 3))
    (cs' : Nat → va_E) (hset : ∀ o', o' < n + 1 → cs' o' = if o' = n then .inl (cT, N, .inr (.inr (.inr (.inr (fun _ => none))))) else cs o') (kk : XJ G y E Z (pc + 3) l (.ref (gB G + n) :: stk) (n + 1) cs' (ck + 1) (sk + N)) : XJ G y E Z pc l (.int i :: stk) n cs ck sk := by
  intro p e s m args below meth c H locs ls F e1 S P L
  have hts := F.2.2.2.2.1
  have hKx := F.2.2.2.2.2.2.2.2.1
  subst hN
  refine W.anew F.1 F.2.1 F.2.2.2.1 (hts _ hcl) (va_AO.use (hao s hKx).1) rfl hd rfl hi hb h1 h2 fun cA kA comp f1 f2 f3 f4 => ?_
  have hcA : cA = cT := ra_of (ty := .object C) f1 (hao s hKx).2
  subst hcA
  generalize hH1 : H.push ({ cls := cA, slots := Array.replicate i.toNatClampNeg .null, vm := .none } : Cell) = H1
  have z1 : H1.size = H.size + 1 := by rw [← hH1, Array.size_push]
  have u1 : H1[H.size]? = some (arrV cA i.toNatClampNeg (fun _ => .null)) := by rw [← hH1, Array.getElem?_push_size, ← arrV_new]
  have o1 : ∀ q : Nat, q < H.size → H1[q]? = H[q]? := fun q hq => by rw [← hH1, Array.getElem?_push, if_neg (Nat.ne_of_lt hq)]
  rw [P.1]
  exact kk p e s m args below meth c H1 locs ls F e1 (s_push S z1 o1) (rp_push P z1 o1 (by show H1[H.size]? = some (vp_cell _ _); rw [vp_cell_q]; exact u1) hset) L
theorem x_aast {o N ov ci : Nat} {f : Nat → Option Nat} {i : Int32} {cT : ClassId} {C : String} {T : u_T} {M : Nat} {vs : List Value} (hao : ∀ s, Kx G s → va_RA s cT (.object C)) (hcell : cs o = .inl (cT, N, .inr (.inr (.inr (.inr f))))) (ho : o < n) (hcv : cs ov = .inr (ci, vs)) (hov : ov < n) (hc : vwCl[ci]? = some (C, T, M)) (hi : vp_in i N) (hd : decode y.1 pc = .ok (.aastore, 1)) (cs' : Nat → va_E) (hset : ∀ o', o' < n → cs' o' = if o' = o then .inl (cT, N, .inr (.inr (.inr (.inr (va_up f i.toNatClampNeg (some (gB G + ov))))))) else cs o') (kk : XJ G y E Z (pc + 1) l stk n cs' ck sk) : XJ G y E Z pc l (.ref (gB G + ov) :: .int i :: .ref (gB G + o) :: stk) n cs ck sk := by
  intro p e s m args below meth c H locs ls F e1 S P L
  have hP := rp_one P ho hcell
  have hKx := F.2.2.2.2.2.2.2.2.1
  have hK := hKx.1
  have hlt : i.toNatClampNeg < N := Nat.not_le.mp fun q => hi (Or.inr q)
  have h0 : ¬ i < 0 := fun q => hi (Or.inl q)
  obtain ⟨r', hr', cellV, g1, g2, g3, -⟩ := rp_one P hov hcv 0 _ rfl
  have hcls := (hK.1 ci _ hc).2
  obtain ⟨kA, comp, k1, k2, k3, -⟩ := hao s hKx
  have hcomp : comp = (gD G).1 ci := Option.some.inj (k3.symm.trans hcls.1)
  subst hcomp
  obtain ⟨kC, hkC, -⟩ := hcls.2
  refine W.aast F.1 F.2.1 (hP 0 _ rfl) (fun q h => by cases h) (fun h => by cases h) k1 k2 rfl hkC ⟨h0, by show _ < (arrV _ _ _).slots.size; rw [arrV_size]; exact hlt⟩ g1 (fun q h => by rw [g3] at h; cases h) (by rw [g2]; exact hkC) (by rw [g2]; exact va_assign hcls) rfl rfl hd fun H1 u z oq => ?_
  refine kk p e s m args below meth c H1 _ ls F e1 (S.put z oq (Nat.le_add_right _ _)) (rp_set P z oq ?_ hset) L
  show H1[gB G + o]? = some (vp_cell _ _)
  rw [u]
  rw [vp_cell_q, vp_cell_q, arrV_store]
  congr 2
  funext q
  by_cases hq : q = i.toNatClampNeg
  · subst hq
    simp [updV, va_up, va_rf]
  · simp [updV, va_up, hq]
theorem x_gets1 (hown : y.2.2.1 = RX2) (hd : decode y.1 pc = .ok (.getstatic 79, 3)) (kk : XJ G y E Z (pc + 3) l (.ref (g1 G) :: stk) n cs ck sk) : XJ G y E Z pc l stk n cs ck sk :=
  fun p e s m args below meth c H locs ls F e1 S P L => va_gets F.1 F.2.1 F.2.2.2.2.2.2.2.2.2.1.1 S F.2.2.2.1 (by rw [hown]; exact F.2.2.2.2.1 _ mF_X2_79) (fun _ h => h) hd (kk p e s m args below meth c H locs ls F e1 S P L)
theorem x_gets2 (hown : y.2.2.1 = RX2) (hd : decode y.1 pc = .ok (.getstatic 82, 3)) (kk : XJ G y E Z (pc + 3) l (.ref (g2 G) :: stk) n cs ck sk) : XJ G y E Z pc l stk n cs ck sk :=
  fun p e s m args below meth c H locs ls F e1 S P L => va_gets F.1 F.2.1 F.2.2.2.2.2.2.2.2.2.1.2.2.1 S F.2.2.2.1 (by rw [hown]; exact F.2.2.2.2.1 _ mF_X2_82) (fun _ h => h) hd (kk p e s m args below meth c H locs ls F e1 S P L)
theorem tab_ld {s : State} {H : Heap} {locs : List Loc} {t N : Nat} {f : Nat → Int32} (hT : va_T .int t N (fun k => .int (f k)) (gA G) s s.heap) (S : va_S (gA G) s.heap H locs) {p : Program} {e : Env} {R : Room} {m : MethodId} {args : Array Value} {below : List Frame} {meth : Method} {c : Code} {Q : State → Prop} {cc : ByteArray} (hexec : p.tables.exec = Jvm.exec) (hb : c.code = cc) {i : Int32} (hi : vp_in i N) {pc : Nat} {ls : Array Slot} {rest : List Value} (hd : decode cc pc = .ok (.iaload, 1))
    (kk : W p G.1 e R s m args below meth c H locs ck sk Q (F0 m (pc + 1) ls (.int (f i.toNatClampNeg) :: rest))) : W p G.1 e R s m args below meth c H locs ck sk Q (F0 m pc ls (.int i :: .ref t :: rest)) := by
  obtain ⟨cell, h1, h2, h3, h4, h5, h6, h7⟩ := hT
  have hlt : i.toNatClampNeg < N := Nat.not_le.mp fun q => hi (Or.inr q)
  have hH : H[t]? = some cell := by rw [S.2.1 t (Array.getElem?_eq_some_iff.mp h1).1 h7]; exact h1
  exact W.iald (v := .int (f i.toNatClampNeg)) hexec hb hH h2 h3 (fun q => q.elim (fun q => hi (Or.inl q)) (fun q => absurd (Nat.le_trans h4 q) (by omega))) (h6 _ hlt) rfl rfl hd kk
theorem x_tab1 {i : Int32} (hi : vp_in i 4) (hd : decode y.1 pc = .ok (.iaload, 1)) (kk : XJ G y E Z (pc + 1) l (.int (leastF i.toNatClampNeg) :: stk) n cs ck sk) : XJ G y E Z pc l (.int i :: .ref (g1 G) :: stk) n cs ck sk :=
  fun p e s m args below meth c H locs ls F e1 S P L => tab_ld F.2.2.2.2.2.2.2.2.2.1.2.1 S F.1 F.2.1 hi hd (kk p e s m args below meth c H locs ls F e1 S P L)
theorem x_tab2 {i : Int32} (hi : vp_in i 4) (hd : decode y.1 pc = .ok (.iaload, 1)) (kk : XJ G y E Z (pc + 1) l (.int (greatF i.toNatClampNeg) :: stk) n cs ck sk) : XJ G y E Z pc l (.int i :: .ref (g2 G) :: stk) n cs ck sk :=
  fun p e s m args below meth c H locs ls F e1 S P L => tab_ld F.2.2.2.2.2.2.2.2.2.1.2.2.2.1 S F.1 F.2.1 hi hd (kk p e s m args below meth c H locs ls F e1 S P L)
theorem x_sld {i : Int32} (k : Nat) (hi : i = nI k) (hk : k < gL G) (hL : gL G < 2 ^ 31) (hd : decode y.1 pc = .ok (.iaload, 1)) (kk : XJ G y E Z (pc + 1) l (.int (gs G k) :: stk) n cs ck sk) : XJ G y E Z pc l (.int i :: .ref (gb G) :: stk) n cs ck sk :=
  fun p e s m args below meth c H locs ls F e1 S P L => tab_ld F.2.2.2.2.2.2.2.2.2.1.2.2.2.2 S F.1 F.2.1 (i := i) (by rw [hi]; exact vp_in_nI hk hL) hd (by rw [hi, nI_clamp (Nat.lt_trans hk hL)]; exact kk p e s m args below meth c H locs ls F e1 S P L)
theorem x_slen (hd : decode y.1 pc = .ok (.arraylength, 1)) (kk : XJ G y E Z (pc + 1) l (.int (nI (gL G)) :: stk) n cs ck sk) : XJ G y E Z pc l (.ref (gb G) :: stk) n cs ck sk :=
  fun p e s m args below meth c H locs ls F e1 S P L => va_tlen F.1 F.2.1 F.2.2.2.2.2.2.2.2.2.1.2.2.2.2 S rfl hd (kk p e s m args below meth c H locs ls F e1 S P L)
theorem x_ldc {idx : Nat} (v : Int32) (hconst : Cond.constant y.2.2.1 idx v ∈ WS) (hd : decode y.1 pc = .ok (.ldc idx, 2)) (kk : XJ G y E Z (pc + 2) l (.int v :: stk) n cs ck sk) : XJ G y E Z pc l stk n cs ck sk :=
  fun p e s m args below meth c H locs ls F e1 S P L => lv_ldc F.1 F.2.1 F.2.2.2.1 (F.2.2.2.2.1 _ hconst) hd (kk p e s m args below meth c H locs ls F e1 S P L)
theorem x_ishr {a b : Int32} (hd : decode y.1 pc = .ok (.ishr, 1)) (kk : XJ G y E Z (pc + 1) l (.int (a >>> (b &&& 31)) :: stk) n cs ck sk) : XJ G y E Z pc l (.int b :: .int a :: stk) n cs ck sk :=
  fun p e s m args below meth c H locs ls F e1 S P L => lv_ishr F.1 F.2.1 hd (kk p e s m args below meth c H locs ls F e1 S P L)
theorem x_max {idx : Nat} {a b : Int32} (hlink : Cond.methodLink y.2.2.1 idx Lib.Math.max.name ∈ WS) (hf : 1 ≤ y.2.2.2.1.frames) (hlo : (stk.map fun v => v.category).sum + 13 ≤ y.2.2.2.1.locals) (h1 : ck ≤ y.2.2.2.1.cells) (h2 : sk ≤ y.2.2.2.1.slots) (hd : decode y.1 pc = .ok (.invokestatic idx, 3)) (kk : XJ G y E Z (pc + 3) l (.int (if a < b then b else a) :: stk) n cs ck sk) : XJ G y E Z pc l (.int b :: .int a :: stk) n cs ck sk :=
  fun p e s m args below meth c H locs ls F e1 S P L => va_mmax F.1 F.2.1 (F.2.2.1.trans L.1.symm) F.2.2.2.1 (F.2.2.2.2.1 _ hlink) (F.2.2.2.2.1 _ mT_max) (F.2.2.2.2.1 _ mI_Math) (F.2.2.2.2.1 _ mK_max) hf hlo h1 h2 hd (kk p e s m args below meth c H locs ls F e1 S P L)
theorem x_min {idx : Nat} {a b : Int32} (hlink : Cond.methodLink y.2.2.1 idx Lib.Math.min.name ∈ WS) (hf : 1 ≤ y.2.2.2.1.frames) (hlo : (stk.map fun v => v.category).sum + 13 ≤ y.2.2.2.1.locals) (h1 : ck ≤ y.2.2.2.1.cells) (h2 : sk ≤ y.2.2.2.1.slots) (hd : decode y.1 pc = .ok (.invokestatic idx, 3)) (kk : XJ G y E Z (pc + 3) l (.int (if b < a then b else a) :: stk) n cs ck sk) : XJ G y E Z pc l (.int b :: .int a :: stk) n cs ck sk :=
  fun p e s m args below meth c H locs ls F e1 S P L => va_mmin F.1 F.2.1 (F.2.2.1.trans L.1.symm) F.2.2.2.1 (F.2.2.2.2.1 _ hlink) (F.2.2.2.2.1 _ mT_min) (F.2.2.2.2.1 _ mI_Math) (F.2.2.2.2.1 _ mK_min) hf hlo h1 h2 hd (kk p e s m args below meth c H locs ls F e1 S P L)
theorem x_abs {idx : Nat} {a : Int32} (hlink : Cond.methodLink y.2.2.1 idx Lib.Math.abs.name ∈ WS) (hf : 1 ≤ y.2.2.2.1.frames) (hlo : (stk.map fun v => v.category).sum + 13 ≤ y.2.2.2.1.locals) (h1 : ck ≤ y.2.2.2.1.cells) (h2 : sk ≤ y.2.2.2.1.slots) (hd : decode y.1 pc = .ok (.invokestatic idx, 3)) (kk : XJ G y E Z (pc + 3) l (.int (if 0 ≤ a then a else 0 - a) :: stk) n cs ck sk) : XJ G y E Z pc l (.int a :: stk) n cs ck sk :=
  fun p e s m args below meth c H locs ls F e1 S P L => va_mabs F.1 F.2.1 (F.2.2.1.trans L.1.symm) F.2.2.2.1 (F.2.2.2.2.1 _ hlink) (F.2.2.2.2.1 _ mT_abs) (F.2.2.2.2.1 _ mI_Math) (F.2.2.2.2.1 _ mK_abs) hf hlo h1 h2 hd (kk p e s m args below meth c H locs ls F e1 S P L)
theorem x_obj {idx a : Nat} (hlink : Cond.methodLink y.2.2.1 idx objectInit ∈ WS) (hf : 1 ≤ y.2.2.2.1.frames) (hlo : (stk.map fun v => v.category).sum + 12 ≤ y.2.2.2.1.locals) (hd : decode y.1 pc = .ok (.invokespecial idx, 3)) (kk : XJ G y E Z (pc + 3) l stk n cs ck sk) : XJ G y E Z pc l (.ref a :: stk) n cs ck sk :=
  fun p e s m args below meth c H locs ls F e1 S P L => W.objInit F.1 F.2.1 F.2.2.2.1 (F.2.2.2.2.1 _ hlink) (F.2.2.2.2.1 _ mM_objInit) (F.2.2.2.2.1 _ mK_objInit) rfl (L.1.trans F.2.2.1.symm) rfl hd hf (by show 2 * 0 + _ + 12 ≤ _; omega) (kk p e s m args below meth c H locs ls F e1 S P L)
/-! calls -/
def MqV (ynm : MethodName) (yc : YX) (na : Nat) : Prop := Cond.instanceMethod ynm ∈ WS ∧ Cond.selects ynm.cls ynm ynm ∈ WS ∧ Cond.initialized ynm.cls ∈ WS ∧ Cond.code ynm yc.1 yc.2.1 yc.2.2.2.2.1 ∈ WS ∧ ynm.cls ≠ "java/lang/invoke/MethodHandle" ∧ ynm.cls ≠ "java/lang/invoke/VarHandle" ∧ (parseMethodDescriptor ynm.desc).map (fun d => d.parameters.length) = some na
def MqS (ynm : MethodName) (yc : YX) (na : Nat) : Prop := Cond.static ynm ∈ WS ∧ Cond.initialized ynm.cls ∈ WS ∧ Cond.code ynm yc.1 yc.2.1 yc.2.2.2.2.1 ∈ WS ∧ ynm.cls ≠ "java/lang/invoke/MethodHandle" ∧ ynm.cls ≠ "java/lang/invoke/VarHandle" ∧ (parseMethodDescriptor ynm.desc).map (fun d => d.parameters.length) = some na
def MqI (ynm : MethodName) (yc : YX) (na : Nat) : Prop := Cond.instanceMethod ynm ∈ WS ∧ ynm.name = "<init>" ∧ Cond.initialized ynm.cls ∈ WS ∧ Cond.code ynm yc.1 yc.2.1 none ∈ WS ∧ ynm.cls ≠ "java/lang/invoke/MethodHandle" ∧ ynm.cls ≠ "java/lang/invoke/VarHandle" ∧ (parseMethodDescriptor ynm.desc).map (fun d => d.parameters.length) = some na
theorem good_cons {ynm : MethodName} {yc : YX} (h : Cond.code ynm yc.1 yc.2.1 yc.2.2.2.2.1 ∈ WS) : GoodIn WS (Cond.code ynm yc.1 yc.2.1 yc.2.2.2.2.1 :: WS) := fun w hw => by
  rcases List.mem_cons.mp hw with h1 | h1
  · rw [h1]; exact WS_good _ h
  · exact WS_good _ h1
/-- what follows a call -/
theorem x_after {p : Program} {e : Env} {s : State} {m : MethodId} {args : Array Value} {below : List Frame} {meth : Method} {c : Code} {H : Heap} {locs : List Loc} {ls : Array Slot} {mc ms : Nat} {st0 rest : List Value} {a : Array Value} {r : Option Value → Nat → (Nat → va_E) → Prop} (F : Fx G y p s m args meth c) (e1 : E s) (S : va_S (gA G) s.heap H locs) (L : LH ls y.2.1 l)
    (hr : va_Run p G.1 e y.2.2.2.1 s m args below meth c H locs ck sk mc ms (F0 m pc ls st0) rest (Qx G r a) (gA G))
    (kk : ∀ v n' cs', r v n' cs' → XJ G y E Z (pc + 3) l (v.toList ++ rest) n' cs' (ck + mc) (sk + ms)) : W p G.1 e y.2.2.2.1 s m args below meth c H locs ck sk (Z below args s) (F0 m pc ls st0) := by
  intro T hT X
  obtain ⟨v, st₀, t, T', Lc, h0, X', hL, u1, u2, ⟨⟨v', n', cs', hv, hp, hW⟩, hz, hk⟩, st⟩ := hr T hT X
  cases hv
  rw [h0] at hz hk
  have S' : va_S (gA G) s.heap T'.heap (locs ++ Lc) := ⟨Nat.le_trans S.1 (by rw [u1]; exact hz), fun q h1 h2 => by
      rw [u1, hk q (Nat.lt_of_lt_of_le h1 S.1) h2]; exact S.2.1 q h1 h2, fun q hq => by
      rcases List.mem_append.mp hq with h | h
      · exact S.2.2 q h
      · exact hL q h⟩
  obtain ⟨t2, a1, b1⟩ := kk v n' cs' hp p e s m args below meth c T'.heap (locs ++ Lc) ls F e1 S' (by rw [u1]; exact hW.1) L T' rfl X'
  exact ⟨t2, st t2 a1, b1⟩
theorem x_callV {ynm : MethodName} {yc : YX} {idx o ci mc ms : Nat} {fs As rest : List Value} {T : u_T} {N : Nat} {r : Option Value → Nat → (Nat → va_E) → Prop} (hM : Ct G ynm yc mc ms (.ref (gB G + o) :: As) n cs r) (hq : MqV ynm yc As.length) (hlink : Cond.methodLink y.2.2.1 idx ynm ∈ WS) (hd : decode y.1 pc = .ok (.invokevirtual idx, 3)) (hstk : stk = As.reverse ++ .ref (gB G + o) :: rest) (hcell : cs o = .inr (ci, fs)) (ho : o < n) (hc : vwCl[ci]? = some (ynm.cls, T, N)) (hrc : yc.2.2.2.1.cells = mc) (hrs : yc.2.2.2.1.slots = ms) (hR : yc.2.2.2.1.frames + 1 ≤ y.2.2.2.1.frames ∧ 8 + (yc.2.1 + 11) + yc.2.2.2.1.locals ≤ y.2.2.2.1.locals) (hW : (rest.map fun v => v.category).sum ≤ 8) (h1 : ck + mc ≤ y.2.2.2.1.cells) (h2 : sk + ms ≤ y.2.2.2.1.slots)
    (kk : ∀ v n' cs', r v n' cs' → XJ G y E Z (pc + 3) l (v.toList ++ rest) n' cs' (ck + mc) (sk + ms)) : XJ G y E Z pc l stk n cs ck sk := by
  intro p e s m args below meth c H locs ls F e1 S P L
  obtain ⟨q1, q2, q3, q4, q5, q6, q7⟩ := hq
  have hts := F.2.2.2.2.1
  have hK := F.2.2.2.2.2.2.2.2.1
  refine x_after F e1 S L (va_runV (C := ynm.cls) (As := As) (rest := rest) (b := gB G + o) ⟨F.1, F.2.1, F.2.2.1, F.2.2.2.1, hts⟩ hM ⟨callB_of As.length hts (good_cons q4) rfl hrc hrs (hts _ q3) (hts _ hlink) ⟨q5, q6, q7⟩ hR, hts _ q1, hts _ q2⟩ ⟨Wd.blind _ _ _ _, va_recv hK.1 (rp_one P ho hcell) (ci := ci) (q0 := 0) hc rfl, fun U hU hWm => ⟨rfl, Wd.warm hK F.2.2.2.2.2.2.2.2.2.1 hWm hU S P⟩⟩ rfl rfl L.1 hstk (lv_room hW) hd ⟨h1, h2⟩) kk
theorem x_callS {ynm : MethodName} {yc : YX} {idx mc ms : Nat} {As rest : List Value} {r : Option Value → Nat → (Nat → va_E) → Prop} (hM : Ct G ynm yc mc ms As n cs r) (hq : MqS ynm yc As.length) (hlink : Cond.methodLink y.2.2.1 idx ynm ∈ WS) (hd : decode y.1 pc = .ok (.invokestatic idx, 3)) (hstk : stk = As.reverse ++ rest) (hrc : yc.2.2.2.1.cells = mc) (hrs : yc.2.2.2.1.slots = ms) (hR : yc.2.2.2.1.frames + 1 ≤ y.2.2.2.1.frames ∧ 8 + (yc.2.1 + 11) + yc.2.2.2.1.locals ≤ y.2.2.2.1.locals) (hW : (rest.map fun v => v.category).sum ≤ 8) (h1 : ck + mc ≤ y.2.2.2.1.cells) (h2 : sk + ms ≤ y.2.2.2.1.slots)
    (kk : ∀ v n' cs', r v n' cs' → XJ G y E Z (pc + 3) l (v.toList ++ rest) n' cs' (ck + mc) (sk + ms)) : XJ G y E Z pc l stk n cs ck sk := by
  intro p e s m args below meth c H locs ls F e1 S P L
  obtain ⟨q1, q3, q4, q5, q6, q7⟩ := hq
  have hts := F.2.2.2.2.1
  have hK := F.2.2.2.2.2.2.2.2.1
  refine x_after F e1 S L (va_runS (As := As) (rest := rest) ⟨F.1, F.2.1, F.2.2.1, F.2.2.2.1, hts⟩ hM ⟨callB_of As.length hts (good_cons q4) rfl hrc hrs (hts _ q3) (hts _ hlink) ⟨q5, q6, q7⟩ hR, hts _ q1⟩ ⟨Wd.blind _ _ _ _, fun U hU hWm => ⟨rfl, Wd.warm hK F.2.2.2.2.2.2.2.2.2.1 hWm hU S P⟩⟩ rfl rfl L.1 hstk (lv_room hW) hd ⟨h1, h2⟩) kk
theorem x_callN {ynm : MethodName} {yc : YX} {idx mc ms : Nat} {As rest : List Value} {host : String} {r : Option Value → Nat → (Nat → va_E) → Prop} (hM : Ct G ynm yc mc ms As n cs r) (hq : MqS ynm yc As.length) (hlink : ∀ s, Kx G s → va_Nw (.methodLinkNest y.2.2.1 idx ynm host) s) (hd : decode y.1 pc = .ok (.invokestatic idx, 3)) (hstk : stk = As.reverse ++ rest) (hrc : yc.2.2.2.1.cells = mc) (hrs : yc.2.2.2.1.slots = ms) (hR : yc.2.2.2.1.frames + 1 ≤ y.2.2.2.1.frames ∧ 8 + (yc.2.1 + 11) + yc.2.2.2.1.locals ≤ y.2.2.2.1.locals) (hW : (rest.map fun v => v.category).sum ≤ 8) (h1 : ck + mc ≤ y.2.2.2.1.cells) (h2 : sk + ms ≤ y.2.2.2.1.slots)
    (kk : ∀ v n' cs', r v n' cs' → XJ G y E Z (pc + 3) l (v.toList ++ rest) n' cs' (ck + mc) (sk + ms)) : XJ G y E Z pc l stk n cs ck sk := by
  intro p e s m args below meth c H locs ls F e1 S P L
  obtain ⟨q1, q3, q4, q5, q6, q7⟩ := hq
  have hts := F.2.2.2.2.1
  have hK := F.2.2.2.2.2.2.2.2.1
  refine x_after F e1 S L (va_runSN (As := As) (rest := rest) ⟨F.1, F.2.1, F.2.2.1, F.2.2.2.1, hts⟩ hM ⟨va_cnB As.length hts (good_cons q4) rfl hrc hrs (hlink s hK) (hts _ q3) ⟨q5, q6, q7⟩ hR, hts _ q1, trivial⟩ ⟨Wd.blind _ _ _ _, fun U hU hWm => ⟨rfl, Wd.warm hK F.2.2.2.2.2.2.2.2.2.1 hWm hU S P⟩⟩ rfl rfl L.1 hstk (lv_room hW) hd ⟨h1, h2⟩) kk
theorem x_callI {ynm : MethodName} {yc : YX} {idx b mc ms : Nat} {As rest : List Value} {r : Option Value → Nat → (Nat → va_E) → Prop} (hM : Ct G ynm yc mc ms (.ref b :: As) n cs r) (hq : MqI ynm yc As.length) (hret : yc.2.2.2.2.1 = none) (hlink : Cond.methodLink y.2.2.1 idx ynm ∈ WS) (hd : decode y.1 pc = .ok (.invokespecial idx, 3)) (hstk : stk = As.reverse ++ .ref b :: rest) (hrc : yc.2.2.2.1.cells = mc) (hrs : yc.2.2.2.1.slots = ms) (hR : yc.2.2.2.1.frames + 1 ≤ y.2.2.2.1.frames ∧ 8 + (yc.2.1 + 11) + yc.2.2.2.1.locals ≤ y.2.2.2.1.locals) (hW : (rest.map fun v => v.category).sum ≤ 8) (h1 : ck + mc ≤ y.2.2.2.1.cells) (h2 : sk + ms ≤ y.2.2.2.1.slots)
    (kk : ∀ v n' cs', r v n' cs' → XJ G y E Z (pc + 3) l (v.toList ++ rest) n' cs' (ck + mc) (sk + ms)) : XJ G y E Z pc l stk n cs ck sk := by
  intro p e s m args below meth c H locs ls F e1 S P L
  obtain ⟨q1, q2, q3, q4, q5, q6, q7⟩ := hq
  have hts := F.2.2.2.2.1
  have hK := F.2.2.2.2.2.2.2.2.1
  have q4' : Cond.code ynm yc.1 yc.2.1 yc.2.2.2.2.1 ∈ WS := by rw [hret]; exact q4
  have hM' : Met G.1 ynm (Cond.code ynm yc.1 yc.2.1 none :: WS) yc.2.2.2.1 (va_Pc (.ref b :: As) (Wd G n cs)) (Qx G r) mc ms (gA G) := by rw [← hret]; exact hM
  have hG' : GoodIn WS (Cond.code ynm yc.1 yc.2.1 none :: WS) := by rw [← hret]; exact good_cons q4'
  refine x_after F e1 S L (va_runI (As := As) (rest := rest) (b := b) ⟨F.1, F.2.1, F.2.2.1, F.2.2.2.1, hts⟩ hM' ⟨callB_of As.length hts hG' rfl hrc hrs (hts _ q3) (hts _ hlink) ⟨q5, q6, q7⟩ hR, q2, hts _ q1⟩ ⟨Wd.blind _ _ _ _, fun U hU hWm => ⟨rfl, Wd.warm hK F.2.2.2.2.2.2.2.2.2.1 hWm hU S P⟩⟩ rfl rfl L.1 hstk (lv_room hW) hd ⟨h1, h2⟩) kk
end HROWS
section RETS
variable {G : GX} {y : YX} {E : State → Prop} {pc : Nat} {l : List (Nat × Value)} {n : Nat} {cs : Nat → va_E} {ck sk : Nat} {r : Option Value → Nat → (Nat → va_E) → Prop}
theorem x_iret {v : Int32} (hr : y.2.2.2.2.1 = some .int) (hd : decode y.1 pc = .ok (.ireturn, 1)) (h : r (some (.int v)) n cs) : XJ G y E (Zx G r ck sk) pc l [.int v] n cs ck sk :=
  fun p e s m args below meth c H locs ls F e1 S P L => W.iret F.1 F.2.1 (F.2.2.2.2.2.2.1.trans hr) (fun t ht hW => ⟨⟨_, n, cs, rfl, h, Wd.warm F.2.2.2.2.2.2.2.2.1 F.2.2.2.2.2.2.2.2.2.1 hW ht S P⟩, S.F ht⟩) S.2.2 hd F.2.2.2.2.2.1
theorem x_zret {v : Int32} (hr : y.2.2.2.2.1 = some .boolean) (hn : narrow .boolean (.int v) = .int v) (hd : decode y.1 pc = .ok (.ireturn, 1)) (h : r (some (.int v)) n cs) : XJ G y E (Zx G r ck sk) pc l [.int v] n cs ck sk :=
  fun p e s m args below meth c H locs ls F e1 S P L => W.zret F.1 F.2.1 (F.2.2.2.2.2.2.1.trans hr) hn (fun t ht hW => ⟨⟨_, n, cs, rfl, h, Wd.warm F.2.2.2.2.2.2.2.2.1 F.2.2.2.2.2.2.2.2.2.1 hW ht S P⟩, S.F ht⟩) S.2.2 hd F.2.2.2.2.2.1
theorem x_vret (hr : y.2.2.2.2.1 = none) (hd : decode y.1 pc = .ok (.return_, 1)) (h : r none n cs) : XJ G y E (Zx G r ck sk) pc l [] n cs ck sk :=
  fun p e s m args below meth c H locs ls F e1 S P L => W.vret F.1 F.2.1 (F.2.2.2.2.2.2.1.trans hr) (fun t ht hW => ⟨⟨_, n, cs, rfl, h, Wd.warm F.2.2.2.2.2.2.2.2.1 F.2.2.2.2.2.2.2.2.2.1 hW ht S P⟩, S.F ht⟩) S.2.2 hd F.2.2.2.2.2.1
end RETS
