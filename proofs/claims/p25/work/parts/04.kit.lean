/-! Own kit: one judgement XJ over an abstract heap (cell number to cell), a row an instruction. -/
abbrev GX : Type := Launch × va_G × Nat × (ClassId × ClassId × ClassId × ClassId) × (Nat × Nat × Nat × Nat × Nat × (Nat → Int32))
abbrev gD (G : GX) : va_G := G.2.1
abbrev gB (G : GX) : Nat := G.2.2.1
abbrev gI (G : GX) : ClassId := G.2.2.2.1.1
abbrev gC (G : GX) : ClassId := G.2.2.2.1.2.1
abbrev gS (G : GX) : ClassId := G.2.2.2.1.2.2.1
abbrev gT (G : GX) : ClassId := G.2.2.2.1.2.2.2
abbrev g1 (G : GX) : Nat := G.2.2.2.2.1
abbrev g2 (G : GX) : Nat := G.2.2.2.2.2.1
/-- what was made behind the object, the script: its cell, its length, its ints -/
abbrev gx (G : GX) : Nat := G.2.2.2.2.2.2.1
abbrev gb (G : GX) : Nat := G.2.2.2.2.2.2.2.1
abbrev gL (G : GX) : Nat := G.2.2.2.2.2.2.2.2.1
abbrev gs (G : GX) : Nat → Int32 := G.2.2.2.2.2.2.2.2.2
/-- how many cells there are: the object's 247, and what was made behind them -/
def nN (G : GX) : Nat := 247 + gx G
theorem nN_le (G : GX) : 247 ≤ nN G := Nat.le_add_right _ _
theorem nN_lt {G : GX} {o : Nat} (h : o < 247) : o < nN G := Nat.lt_of_lt_of_le h (nN_le G)
/-- one cell more -/
def upG (G : GX) : GX := (G.1, G.2.1, G.2.2.1, G.2.2.2.1, (g1 G, g2 G, gx G + 1, gb G, gL G, gs G))
theorem nN_up (G : GX) : nN (upG G) = nN G + 1 := rfl
abbrev gTy (G : GX) : List (ClassId × FieldType) := [(gI G, .int), (gC G, .char), (gS G, .object "BeamCuts$Shape"), (gT G, .object "BeamCuts$Sheet")]
def leastF : Nat → Int32 := fun k => if k = 0 then 1 else 0
def greatF : Nat → Int32 := fun k => if k = 0 then 99 else if k = 1 then 20 else if k = 2 then 999 else 1
def gA (G : GX) : Nat → Prop := fun q => gB G ≤ q
def Kx (G : GX) (U : State) : Prop := va_K (gD G) vwCl (gTy G) U ∧ va_AO "BeamCuts$Shape" U ∧ va_AO "BeamCuts$Sheet" U ∧ va_Nw (.methodLinkNest RX2 51 yX3_isIn RX3) U
def Sx (G : GX) (U : State) (H : Heap) : Prop := va_Z RX2 "LEAST_SETTINGS" "[I" (.ref (g1 G)) (gA G) U H ∧ va_T .int (g1 G) 4 (fun k => .int (leastF k)) (gA G) U H ∧ va_Z RX2 "GREATEST_SETTINGS" "[I" (.ref (g2 G)) (gA G) U H ∧ va_T .int (g2 G) 4 (fun k => .int (greatF k)) (gA G) U H ∧ va_T .int (gb G) (gL G) (fun k => .int (gs G k)) (gA G) U H
def Rp (G : GX) (n : Nat) (cs : Nat → va_E) (H : Heap) : Prop := H.size = gB G + n ∧ ∀ o, o < n → va_at (gD G) vwCl (gB G + o, cs o) H
def Wd (G : GX) (n : Nat) (cs : Nat → va_E) (U : State) : Prop := Rp G n cs U.heap ∧ Kx G U ∧ Sx G U U.heap
/-- a method: its bytes, its locals, its class, its room, what it returns, its name -/
abbrev YX : Type := ByteArray × Nat × String × Room × Option FieldType × String
def Fx (G : GX) (y : YX) (p : Program) (s : State) (m : MethodId) (args : Array Value) (meth : Method) (c : Code) : Prop :=
  p.tables.exec = Jvm.exec ∧ c.code = y.1 ∧ c.maxLocals = y.2.1 ∧ s.vm.findClass y.2.2.1 = some m.cls ∧ (∀ w ∈ WS, w.before args s = true) ∧ meth.locks = false ∧ meth.sig.returnType = y.2.2.2.2.1 ∧ meth.name = y.2.2.2.2.2 ∧ Kx G s ∧ Sx G s s.heap ∧ gB G ≤ s.heap.size
/-! locals: a list of stores, the newest first -/
def lk : List (Nat × Value) → Nat → Option Value
  | [], _ => none
  | (i, v) :: r, j => bif Nat.beq i j then some v else lk r j
def lsub : List (Nat × Value) → List (Nat × Value) → Prop
  | [], _ => True
  | (i, v) :: r, l => lk l i = some v ∧ lsub r l
def LH (ls : Array Slot) (nL : Nat) (l : List (Nat × Value)) : Prop := ls.size = nL ∧ lv_wf ls ∧ ∀ i v, lk l i = some v → ls[i]? = some (.val v) ∧ v.category = 1
theorem lsub_spec : ∀ {l l' : List (Nat × Value)}, lsub l' l → ∀ i v, lk l' i = some v → lk l i = some v
  | _, [], _, _, _, h => by simp [lk] at h
  | l, (j, w) :: r, hs, i, v, h => by
    obtain ⟨h1, h2⟩ := hs
    simp only [lk] at h
    cases hb : Nat.beq j i with
    | true =>
      rw [hb] at h
      simp only [cond_true] at h
      cases h
      rw [← Nat.eq_of_beq_eq_true hb]
      exact h1
    | false =>
      rw [hb] at h
      exact lsub_spec h2 i v h
theorem LH.sub {ls : Array Slot} {nL : Nat} {l l' : List (Nat × Value)} (h : LH ls nL l) (hs : lsub l' l) : LH ls nL l' := ⟨h.1, h.2.1, fun i v hi => h.2.2 i v (lsub_spec hs i v hi)⟩
def ldd (l : List (Nat × Value)) : List (Nat × Value) := l.filterMap (fun q => (lk l q.1).map (fun v => (q.1, v)))
theorem ldd_mem {l : List (Nat × Value)} {q : Nat × Value} (h : q ∈ ldd l) : lk l q.1 = some q.2 := by
  obtain ⟨a, -, h2⟩ := List.mem_filterMap.mp h
  cases hk : lk l a.1 with
  | none => rw [hk] at h2; cases h2
  | some v =>
    rw [hk] at h2
    cases h2
    exact hk
theorem lk_mem : ∀ {l : List (Nat × Value)} {i : Nat} {v : Value}, lk l i = some v → (i, v) ∈ l
  | [], _, _, h => by simp [lk] at h
  | (j, w) :: r, i, v, h => by
    simp only [lk] at h
    cases hb : Nat.beq j i with
    | true =>
      rw [hb] at h
      simp only [cond_true] at h
      cases h
      rw [← Nat.eq_of_beq_eq_true hb]
      exact List.mem_cons_self
    | false =>
      rw [hb] at h
      exact List.mem_cons_of_mem _ (lk_mem (l := r) h)
theorem ldd_of {l : List (Nat × Value)} {i : Nat} {v : Value} (h : lk l i = some v) : (i, v) ∈ ldd l := by
  refine List.mem_filterMap.mpr ⟨(i, v), lk_mem h, ?_⟩
  show (lk l i).map (fun v => (i, v)) = some (i, v)
  rw [h]
  rfl
theorem LH.has {ls : Array Slot} {nL : Nat} {l : List (Nat × Value)} (h : LH ls nL l) : lv_has ls nL (ldd l) := ⟨h.1, h.2.1, fun q hq => (h.2.2 q.1 q.2 (ldd_mem hq)).1⟩
theorem LH.put {ls ls' : Array Slot} {nL i : Nat} {v : Value} {l : List (Nat × Value)} (h : LH ls nL l) (hv : v.category = 1) (h' : lv_has ls' nL ((i, v) :: (ldd l).filter (fun q => !(q.1 == i) && !(q.1 + 1 == i && q.2.category == 2)))) : LH ls' nL ((i, v) :: l) := by
  refine ⟨h'.1, h'.2.1, fun j w hj => ?_⟩
  simp only [lk] at hj
  cases hb : Nat.beq i j with
  | true =>
    rw [hb] at hj
    simp only [cond_true] at hj
    cases hj
    rw [← Nat.eq_of_beq_eq_true hb]
    exact ⟨h'.2.2 (i, v) List.mem_cons_self, hv⟩
  | false =>
    rw [hb] at hj
    have hj' : lk l j = some w := hj
    obtain ⟨h1, h2⟩ := h.2.2 j w hj'
    refine ⟨h'.2.2 (j, w) (List.mem_cons_of_mem _ (List.mem_filter.mpr ⟨ldd_of hj', ?_⟩)), h2⟩
    have hne : j ≠ i := fun e => by rw [e, Nat.beq_refl] at hb; cases hb
    simp [hne, h2]
abbrev ZX : Type := List Frame → Array Value → State → State → Prop
def XJ (G : GX) (y : YX) (E : State → Prop) (Z : ZX) (pc : Nat) (l : List (Nat × Value)) (stk : List Value) (n : Nat) (cs : Nat → va_E) (ck sk : Nat) : Prop :=
  ∀ (p : Program) (e : Env) (s : State) (m : MethodId) (args : Array Value) (below : List Frame) (meth : Method) (c : Code) (H : Heap) (locs : List Loc) (ls : Array Slot),
    Fx G y p s m args meth c → E s → va_S (gA G) s.heap H locs → Rp G n cs H → LH ls y.2.1 l → W p G.1 e y.2.2.2.1 s m args below meth c H locs ck sk (Z below args s) (F0 m pc ls stk)
section ROWS
variable {G : GX} {y : YX} {E : State → Prop} {Z : ZX} {pc : Nat} {l : List (Nat × Value)} {stk : List Value} {n : Nat} {cs : Nat → va_E} {ck sk : Nat}
theorem x_sub {l' : List (Nat × Value)} (h : lsub l' l) (kk : XJ G y E Z pc l' stk n cs ck sk) : XJ G y E Z pc l stk n cs ck sk :=
  fun p e s m args below meth c H locs ls F e1 S P L => kk p e s m args below meth c H locs ls F e1 S P (L.sub h)
theorem x_heap {cs' : Nat → va_E} (h : ∀ o, o < n → cs' o = cs o) (kk : XJ G y E Z pc l stk n cs' ck sk) : XJ G y E Z pc l stk n cs ck sk :=
  fun p e s m args below meth c H locs ls F e1 S P L => kk p e s m args below meth c H locs ls F e1 S ⟨P.1, fun o ho => by rw [h o ho]; exact P.2 o ho⟩ L
theorem x_eq {stk' : List Value} {cs' : Nat → va_E} (h1 : stk = stk') (h2 : cs = cs') (kk : XJ G y E Z pc l stk' n cs' ck sk) : XJ G y E Z pc l stk n cs ck sk := by
  subst h1; subst h2; exact kk
theorem x_widen {ck' sk' : Nat} (h1 : ck ≤ ck') (h2 : sk ≤ sk') (kk : XJ G y E Z pc l stk n cs ck' sk') : XJ G y E Z pc l stk n cs ck sk :=
  fun p e s m args below meth c H locs ls F e1 S P L => W.widen h1 h2 (kk p e s m args below meth c H locs ls F e1 S P L)
theorem x_iconst {k : Int} (v : Int32) (hd : decode y.1 pc = .ok (.iconst k, 1)) (hv : Int32.ofInt k = v) (kk : XJ G y E Z (pc + 1) l (.int v :: stk) n cs ck sk) : XJ G y E Z pc l stk n cs ck sk :=
  fun p e s m args below meth c H locs ls F e1 S P L => lv_iconst F.1 F.2.1 hd hv (kk p e s m args below meth c H locs ls F e1 S P L)
theorem x_bipush {k : Int} (v : Int32) (hd : decode y.1 pc = .ok (.bipush k, 2)) (hv : (Int8.ofInt k).toInt32 = v) (kk : XJ G y E Z (pc + 2) l (.int v :: stk) n cs ck sk) : XJ G y E Z pc l stk n cs ck sk :=
  fun p e s m args below meth c H locs ls F e1 S P L => lv_bipush F.1 F.2.1 hd hv (kk p e s m args below meth c H locs ls F e1 S P L)
theorem x_sipush {k : Int} (v : Int32) (hd : decode y.1 pc = .ok (.sipush k, 3)) (hv : (Int16.ofInt k).toInt32 = v) (kk : XJ G y E Z (pc + 3) l (.int v :: stk) n cs ck sk) : XJ G y E Z pc l stk n cs ck sk :=
  fun p e s m args below meth c H locs ls F e1 S P L => lv_sipush F.1 F.2.1 hd hv (kk p e s m args below meth c H locs ls F e1 S P L)
theorem x_iload_n {k : Fin 4} {v : Int32} (hd : decode y.1 pc = .ok (.iload_n k, 1)) (hl : lk l k = some (.int v)) (kk : XJ G y E Z (pc + 1) l (.int v :: stk) n cs ck sk) : XJ G y E Z pc l stk n cs ck sk :=
  fun p e s m args below meth c H locs ls F e1 S P L => lv_iload_n F.1 F.2.1 hd rfl (L.2.2 _ _ hl).1 (kk p e s m args below meth c H locs ls F e1 S P L)
theorem x_iload {k : Nat} {v : Int32} (hd : decode y.1 pc = .ok (.iload k, 2)) (hl : lk l k = some (.int v)) (kk : XJ G y E Z (pc + 2) l (.int v :: stk) n cs ck sk) : XJ G y E Z pc l stk n cs ck sk :=
  fun p e s m args below meth c H locs ls F e1 S P L => lv_iload F.1 F.2.1 hd (L.2.2 _ _ hl).1 (kk p e s m args below meth c H locs ls F e1 S P L)
theorem x_aload_n {k : Fin 4} {v : Nat} (hd : decode y.1 pc = .ok (.aload_n k, 1)) (hl : lk l k = some (.ref v)) (kk : XJ G y E Z (pc + 1) l (.ref v :: stk) n cs ck sk) : XJ G y E Z pc l stk n cs ck sk :=
  fun p e s m args below meth c H locs ls F e1 S P L => lv_aload_n F.1 F.2.1 hd rfl (L.2.2 _ _ hl).1 (kk p e s m args below meth c H locs ls F e1 S P L)
theorem x_aload {k : Nat} {v : Nat} (hd : decode y.1 pc = .ok (.aload k, 2)) (hl : lk l k = some (.ref v)) (kk : XJ G y E Z (pc + 2) l (.ref v :: stk) n cs ck sk) : XJ G y E Z pc l stk n cs ck sk :=
  fun p e s m args below meth c H locs ls F e1 S P L => lv_aload F.1 F.2.1 hd (L.2.2 _ _ hl).1 (kk p e s m args below meth c H locs ls F e1 S P L)
theorem x_istore_n {k : Fin 4} {v : Int32} (hd : decode y.1 pc = .ok (.istore_n k, 1)) (hn : (k : Nat) < y.2.1) (kk : XJ G y E Z (pc + 1) (((k : Nat), .int v) :: l) stk n cs ck sk) : XJ G y E Z pc l (.int v :: stk) n cs ck sk :=
  fun p e s m args below meth c H locs ls F e1 S P L => lv_istore_n F.1 F.2.1 hd rfl L.has hn rfl (fun ls' h' => kk p e s m args below meth c H locs ls' F e1 S P (L.put rfl h'))
theorem x_istore {k : Nat} {v : Int32} (hd : decode y.1 pc = .ok (.istore k, 2)) (hn : (k : Nat) < y.2.1) (kk : XJ G y E Z (pc + 2) ((k, .int v) :: l) stk n cs ck sk) : XJ G y E Z pc l (.int v :: stk) n cs ck sk :=
  fun p e s m args below meth c H locs ls F e1 S P L => lv_istore F.1 F.2.1 hd L.has hn rfl (fun ls' h' => kk p e s m args below meth c H locs ls' F e1 S P (L.put rfl h'))
theorem x_astore_n {k : Fin 4} {v : Nat} (hd : decode y.1 pc = .ok (.astore_n k, 1)) (hn : (k : Nat) < y.2.1) (kk : XJ G y E Z (pc + 1) (((k : Nat), .ref v) :: l) stk n cs ck sk) : XJ G y E Z pc l (.ref v :: stk) n cs ck sk :=
  fun p e s m args below meth c H locs ls F e1 S P L => lv_astore_n F.1 F.2.1 hd rfl L.has hn rfl (fun ls' h' => kk p e s m args below meth c H locs ls' F e1 S P (L.put rfl h'))
theorem x_astore {k : Nat} {v : Nat} (hd : decode y.1 pc = .ok (.astore k, 2)) (hn : (k : Nat) < y.2.1) (kk : XJ G y E Z (pc + 2) ((k, .ref v) :: l) stk n cs ck sk) : XJ G y E Z pc l (.ref v :: stk) n cs ck sk :=
  fun p e s m args below meth c H locs ls F e1 S P L => lv_astore F.1 F.2.1 hd L.has hn rfl (fun ls' h' => kk p e s m args below meth c H locs ls' F e1 S P (L.put rfl h'))
theorem ldd_get {l : List (Nat × Value)} {i : Nat} {v : Value} (h : lk l i = some v) : ∃ k : Nat, (ldd l)[k]? = some (i, v) := List.getElem?_of_mem (ldd_of h)
theorem x_iinc {k : Nat} {q : Int} {v : Int32} (w : Int32) (hd : decode y.1 pc = .ok (.iinc k q, 3)) (hl : lk l k = some (.int v)) (hw : v + Int32.ofInt q = w) (hn : k < y.2.1) (kk : XJ G y E Z (pc + 3) ((k, .int w) :: l) stk n cs ck sk) : XJ G y E Z pc l stk n cs ck sk := by
  intro p e s m args below meth c H locs ls F e1 S P L
  obtain ⟨j, hj⟩ := ldd_get hl
  exact lv_iinc F.1 F.2.1 hd L.has hj hw hn rfl (fun ls' h' => kk p e s m args below meth c H locs ls' F e1 S P (L.put rfl h'))
theorem x_iadd {a b : Int32} (hd : decode y.1 pc = .ok (.iadd, 1)) (kk : XJ G y E Z (pc + 1) l (.int (a + b) :: stk) n cs ck sk) : XJ G y E Z pc l (.int b :: .int a :: stk) n cs ck sk :=
  fun p e s m args below meth c H locs ls F e1 S P L => lv_iadd F.1 F.2.1 hd (kk p e s m args below meth c H locs ls F e1 S P L)
theorem x_isub {a b : Int32} (hd : decode y.1 pc = .ok (.isub, 1)) (kk : XJ G y E Z (pc + 1) l (.int (a - b) :: stk) n cs ck sk) : XJ G y E Z pc l (.int b :: .int a :: stk) n cs ck sk :=
  fun p e s m args below meth c H locs ls F e1 S P L => lv_isub F.1 F.2.1 hd (kk p e s m args below meth c H locs ls F e1 S P L)
theorem x_imul {a b : Int32} (hd : decode y.1 pc = .ok (.imul, 1)) (kk : XJ G y E Z (pc + 1) l (.int (a * b) :: stk) n cs ck sk) : XJ G y E Z pc l (.int b :: .int a :: stk) n cs ck sk :=
  fun p e s m args below meth c H locs ls F e1 S P L => lv_imul F.1 F.2.1 hd (kk p e s m args below meth c H locs ls F e1 S P L)
theorem x_idiv {a b : Int32} (hd : decode y.1 pc = .ok (.idiv, 1)) (hb : ¬ b = 0) (kk : XJ G y E Z (pc + 1) l (.int (a / b) :: stk) n cs ck sk) : XJ G y E Z pc l (.int b :: .int a :: stk) n cs ck sk :=
  fun p e s m args below meth c H locs ls F e1 S P L => lv_idiv F.1 F.2.1 hd hb (kk p e s m args below meth c H locs ls F e1 S P L)
theorem x_irem {a b : Int32} (hd : decode y.1 pc = .ok (.irem, 1)) (hb : ¬ b = 0) (kk : XJ G y E Z (pc + 1) l (.int (a - a / b * b) :: stk) n cs ck sk) : XJ G y E Z pc l (.int b :: .int a :: stk) n cs ck sk :=
  fun p e s m args below meth c H locs ls F e1 S P L => lv_irem F.1 F.2.1 hd hb (kk p e s m args below meth c H locs ls F e1 S P L)
theorem x_iand {a b : Int32} (hd : decode y.1 pc = .ok (.iand, 1)) (kk : XJ G y E Z (pc + 1) l (.int (a &&& b) :: stk) n cs ck sk) : XJ G y E Z pc l (.int b :: .int a :: stk) n cs ck sk :=
  fun p e s m args below meth c H locs ls F e1 S P L => lv_iand F.1 F.2.1 hd (kk p e s m args below meth c H locs ls F e1 S P L)
theorem x_ior {a b : Int32} (hd : decode y.1 pc = .ok (.ior, 1)) (kk : XJ G y E Z (pc + 1) l (.int (a ||| b) :: stk) n cs ck sk) : XJ G y E Z pc l (.int b :: .int a :: stk) n cs ck sk :=
  fun p e s m args below meth c H locs ls F e1 S P L => lv_ior F.1 F.2.1 hd (kk p e s m args below meth c H locs ls F e1 S P L)
theorem x_ishl {a b : Int32} (hd : decode y.1 pc = .ok (.ishl, 1)) (kk : XJ G y E Z (pc + 1) l (.int (a <<< (b &&& 31)) :: stk) n cs ck sk) : XJ G y E Z pc l (.int b :: .int a :: stk) n cs ck sk :=
  fun p e s m args below meth c H locs ls F e1 S P L => lv_ishl F.1 F.2.1 hd (kk p e s m args below meth c H locs ls F e1 S P L)
theorem x_i2c {a : Int32} (hd : decode y.1 pc = .ok (.i2c, 1)) (kk : XJ G y E Z (pc + 1) l (.int (a.toUInt32 % 65536).toInt32 :: stk) n cs ck sk) : XJ G y E Z pc l (.int a :: stk) n cs ck sk :=
  fun p e s m args below meth c H locs ls F e1 S P L => lv_i2c F.1 F.2.1 hd rfl (kk p e s m args below meth c H locs ls F e1 S P L)
theorem x_pop {v : Value} (hd : decode y.1 pc = .ok (.pop, 1)) (hv : v.category = 1) (kk : XJ G y E Z (pc + 1) l stk n cs ck sk) : XJ G y E Z pc l (v :: stk) n cs ck sk :=
  fun p e s m args below meth c H locs ls F e1 S P L => lv_pop F.1 F.2.1 hd hv (kk p e s m args below meth c H locs ls F e1 S P L)
theorem x_dup {v : Value} (hd : decode y.1 pc = .ok (.dup, 1)) (hv : v.category = 1) (kk : XJ G y E Z (pc + 1) l (v :: v :: stk) n cs ck sk) : XJ G y E Z pc l (v :: stk) n cs ck sk :=
  fun p e s m args below meth c H locs ls F e1 S P L => lv_dup F.1 F.2.1 hd hv (kk p e s m args below meth c H locs ls F e1 S P L)
theorem x_dup2 {v w : Value} (hd : decode y.1 pc = .ok (.dup2, 1)) (hv : v.category = 1) (hw : w.category = 1) (kk : XJ G y E Z (pc + 1) l (v :: w :: v :: w :: stk) n cs ck sk) : XJ G y E Z pc l (v :: w :: stk) n cs ck sk :=
  fun p e s m args below meth c H locs ls F e1 S P L => lv_dup2_11 F.1 F.2.1 hd hv hw (kk p e s m args below meth c H locs ls F e1 S P L)
theorem x_goto {off : Int} (tgt : Nat) (hd : decode y.1 pc = .ok (.goto off, 3)) (ht : (pc : Int) + off = (tgt : Int)) (kk : XJ G y E Z tgt l stk n cs ck sk) : XJ G y E Z pc l stk n cs ck sk :=
  fun p e s m args below meth c H locs ls F e1 S P L => lv_goto F.1 F.2.1 hd ht (kk p e s m args below meth c H locs ls F e1 S P L)
theorem x_ifeq {a : Int32} {off : Int} (tgt : Nat) (hd : decode y.1 pc = .ok (.ifCond .eq off, 3)) (ht : (pc : Int) + off = (tgt : Int)) (kt : a = 0 → XJ G y E Z tgt l stk n cs ck sk) (kf : ¬ a = 0 → XJ G y E Z (pc + 3) l stk n cs ck sk) : XJ G y E Z pc l (.int a :: stk) n cs ck sk :=
  fun p e s m args below meth c H locs ls F e1 S P L => lv_if_eq F.1 F.2.1 hd ht (fun q => kt q p e s m args below meth c H locs ls F e1 S P L) (fun q => kf q p e s m args below meth c H locs ls F e1 S P L)
theorem x_ifne {a : Int32} {off : Int} (tgt : Nat) (hd : decode y.1 pc = .ok (.ifCond .ne off, 3)) (ht : (pc : Int) + off = (tgt : Int)) (kt : ¬ a = 0 → XJ G y E Z tgt l stk n cs ck sk) (kf : a = 0 → XJ G y E Z (pc + 3) l stk n cs ck sk) : XJ G y E Z pc l (.int a :: stk) n cs ck sk :=
  fun p e s m args below meth c H locs ls F e1 S P L => lv_if_ne F.1 F.2.1 hd ht (fun q => kt q p e s m args below meth c H locs ls F e1 S P L) (fun q => kf (by first | exact q | exact Classical.not_not.mp q) p e s m args below meth c H locs ls F e1 S P L)
theorem x_iflt {a : Int32} {off : Int} (tgt : Nat) (hd : decode y.1 pc = .ok (.ifCond .lt off, 3)) (ht : (pc : Int) + off = (tgt : Int)) (kt : a < 0 → XJ G y E Z tgt l stk n cs ck sk) (kf : ¬ a < 0 → XJ G y E Z (pc + 3) l stk n cs ck sk) : XJ G y E Z pc l (.int a :: stk) n cs ck sk :=
  fun p e s m args below meth c H locs ls F e1 S P L => lv_if_lt F.1 F.2.1 hd ht (fun q => kt q p e s m args below meth c H locs ls F e1 S P L) (fun q => kf q p e s m args below meth c H locs ls F e1 S P L)
theorem x_ifge {a : Int32} {off : Int} (tgt : Nat) (hd : decode y.1 pc = .ok (.ifCond .ge off, 3)) (ht : (pc : Int) + off = (tgt : Int)) (kt : ¬ a < 0 → XJ G y E Z tgt l stk n cs ck sk) (kf : a < 0 → XJ G y E Z (pc + 3) l stk n cs ck sk) : XJ G y E Z pc l (.int a :: stk) n cs ck sk :=
  fun p e s m args below meth c H locs ls F e1 S P L => lv_if_ge F.1 F.2.1 hd ht (fun q => kt (by first | exact q | exact Int32.not_lt.mpr q) p e s m args below meth c H locs ls F e1 S P L) (fun q => kf (by first | exact q | exact Int32.not_le.mp q) p e s m args below meth c H locs ls F e1 S P L)
theorem x_ifgt {a : Int32} {off : Int} (tgt : Nat) (hd : decode y.1 pc = .ok (.ifCond .gt off, 3)) (ht : (pc : Int) + off = (tgt : Int)) (kt : 0 < a → XJ G y E Z tgt l stk n cs ck sk) (kf : ¬ 0 < a → XJ G y E Z (pc + 3) l stk n cs ck sk) : XJ G y E Z pc l (.int a :: stk) n cs ck sk :=
  fun p e s m args below meth c H locs ls F e1 S P L => lv_if_gt F.1 F.2.1 hd ht (fun q => kt (by first | exact q | exact Int32.not_le.mp q) p e s m args below meth c H locs ls F e1 S P L) (fun q => kf (by first | exact q | exact Int32.not_lt.mpr q | exact fun z => absurd z q) p e s m args below meth c H locs ls F e1 S P L)
theorem x_ifle {a : Int32} {off : Int} (tgt : Nat) (hd : decode y.1 pc = .ok (.ifCond .le off, 3)) (ht : (pc : Int) + off = (tgt : Int)) (kt : ¬ 0 < a → XJ G y E Z tgt l stk n cs ck sk) (kf : 0 < a → XJ G y E Z (pc + 3) l stk n cs ck sk) : XJ G y E Z pc l (.int a :: stk) n cs ck sk :=
  fun p e s m args below meth c H locs ls F e1 S P L => lv_if_le F.1 F.2.1 hd ht (fun q => kt (by first | exact q | exact Int32.not_lt.mpr q) p e s m args below meth c H locs ls F e1 S P L) (fun q => kf (by first | exact q | exact Int32.not_le.mp q) p e s m args below meth c H locs ls F e1 S P L)
theorem x_cmpeq {a b : Int32} {off : Int} (tgt : Nat) (hd : decode y.1 pc = .ok (.if_icmp .eq off, 3)) (ht : (pc : Int) + off = (tgt : Int)) (kt : a = b → XJ G y E Z tgt l stk n cs ck sk) (kf : ¬ a = b → XJ G y E Z (pc + 3) l stk n cs ck sk) : XJ G y E Z pc l (.int b :: .int a :: stk) n cs ck sk :=
  fun p e s m args below meth c H locs ls F e1 S P L => lv_icmp_eq F.1 F.2.1 hd ht (fun q => kt q p e s m args below meth c H locs ls F e1 S P L) (fun q => kf q p e s m args below meth c H locs ls F e1 S P L)
theorem x_cmpne {a b : Int32} {off : Int} (tgt : Nat) (hd : decode y.1 pc = .ok (.if_icmp .ne off, 3)) (ht : (pc : Int) + off = (tgt : Int)) (kt : ¬ a = b → XJ G y E Z tgt l stk n cs ck sk) (kf : a = b → XJ G y E Z (pc + 3) l stk n cs ck sk) : XJ G y E Z pc l (.int b :: .int a :: stk) n cs ck sk :=
  fun p e s m args below meth c H locs ls F e1 S P L => lv_icmp_ne F.1 F.2.1 hd ht (fun q => kt q p e s m args below meth c H locs ls F e1 S P L) (fun q => kf (by first | exact q | exact Classical.not_not.mp q) p e s m args below meth c H locs ls F e1 S P L)
theorem x_cmplt {a b : Int32} {off : Int} (tgt : Nat) (hd : decode y.1 pc = .ok (.if_icmp .lt off, 3)) (ht : (pc : Int) + off = (tgt : Int)) (kt : a < b → XJ G y E Z tgt l stk n cs ck sk) (kf : ¬ a < b → XJ G y E Z (pc + 3) l stk n cs ck sk) : XJ G y E Z pc l (.int b :: .int a :: stk) n cs ck sk :=
  fun p e s m args below meth c H locs ls F e1 S P L => lv_icmp_lt F.1 F.2.1 hd ht (fun q => kt q p e s m args below meth c H locs ls F e1 S P L) (fun q => kf q p e s m args below meth c H locs ls F e1 S P L)
theorem x_cmpge {a b : Int32} {off : Int} (tgt : Nat) (hd : decode y.1 pc = .ok (.if_icmp .ge off, 3)) (ht : (pc : Int) + off = (tgt : Int)) (kt : ¬ a < b → XJ G y E Z tgt l stk n cs ck sk) (kf : a < b → XJ G y E Z (pc + 3) l stk n cs ck sk) : XJ G y E Z pc l (.int b :: .int a :: stk) n cs ck sk :=
  fun p e s m args below meth c H locs ls F e1 S P L => lv_icmp_ge F.1 F.2.1 hd ht (fun q => kt (by first | exact q | exact Int32.not_lt.mpr q) p e s m args below meth c H locs ls F e1 S P L) (fun q => kf (by first | exact q | exact Int32.not_le.mp q) p e s m args below meth c H locs ls F e1 S P L)
theorem x_cmpgt {a b : Int32} {off : Int} (tgt : Nat) (hd : decode y.1 pc = .ok (.if_icmp .gt off, 3)) (ht : (pc : Int) + off = (tgt : Int)) (kt : b < a → XJ G y E Z tgt l stk n cs ck sk) (kf : ¬ b < a → XJ G y E Z (pc + 3) l stk n cs ck sk) : XJ G y E Z pc l (.int b :: .int a :: stk) n cs ck sk :=
  fun p e s m args below meth c H locs ls F e1 S P L => lv_icmp_gt F.1 F.2.1 hd ht (fun q => kt (by first | exact q | exact Int32.not_le.mp q) p e s m args below meth c H locs ls F e1 S P L) (fun q => kf (by first | exact q | exact Int32.not_lt.mpr q | exact fun z => absurd z q) p e s m args below meth c H locs ls F e1 S P L)
theorem x_cmple {a b : Int32} {off : Int} (tgt : Nat) (hd : decode y.1 pc = .ok (.if_icmp .le off, 3)) (ht : (pc : Int) + off = (tgt : Int)) (kt : ¬ b < a → XJ G y E Z tgt l stk n cs ck sk) (kf : b < a → XJ G y E Z (pc + 3) l stk n cs ck sk) : XJ G y E Z pc l (.int b :: .int a :: stk) n cs ck sk :=
  fun p e s m args below meth c H locs ls F e1 S P L => lv_icmp_le F.1 F.2.1 hd ht (fun q => kt (by first | exact q | exact Int32.not_lt.mpr q) p e s m args below meth c H locs ls F e1 S P L) (fun q => kf (by first | exact q | exact Int32.not_le.mp q) p e s m args below meth c H locs ls F e1 S P L)
theorem x_tableIn {dflt lo hi : Int} {offs : Array Int} {len : Nat} {a : Int32} {off : Int} (tgt : Nat) (hd : decode y.1 pc = .ok (.tableswitch dflt lo hi offs, len)) (h1 : ¬ a.toInt < lo) (h2 : ¬ hi < a.toInt) (ho : offs[(a.toInt - lo).toNat]? = some off) (ht : (pc : Int) + off = (tgt : Int)) (kk : XJ G y E Z tgt l stk n cs ck sk) : XJ G y E Z pc l (.int a :: stk) n cs ck sk :=
  fun p e s m args below meth c H locs ls F e1 S P L => lv_tableIn F.1 F.2.1 hd h1 h2 ho ht (kk p e s m args below meth c H locs ls F e1 S P L)
theorem x_tableOut {dflt lo hi : Int} {offs : Array Int} {len : Nat} {a : Int32} (tgt : Nat) (hd : decode y.1 pc = .ok (.tableswitch dflt lo hi offs, len)) (h1 : a.toInt < lo ∨ hi < a.toInt) (ht : (pc : Int) + dflt = (tgt : Int)) (kk : XJ G y E Z tgt l stk n cs ck sk) : XJ G y E Z pc l (.int a :: stk) n cs ck sk :=
  fun p e s m args below meth c H locs ls F e1 S P L => lv_tableOut F.1 F.2.1 hd h1 ht (kk p e s m args below meth c H locs ls F e1 S P L)
theorem x_lookup {dflt : Int} {ps : Array (Int × Int)} {len : Nat} {a : Int32} {off : Int} (tgt : Nat) (hd : decode y.1 pc = .ok (.lookupswitch dflt ps, len)) (hp : (ps.toList.zip (ps.toList.drop 1)).all (fun (a, next) => a.1 < next.1) = true) (ho : Op.lookupswitch.offset ps.toList dflt a.toInt = off) (ht : (pc : Int) + off = (tgt : Int)) (kk : XJ G y E Z tgt l stk n cs ck sk) : XJ G y E Z pc l (.int a :: stk) n cs ck sk :=
  fun p e s m args below meth c H locs ls F e1 S P L => lv_lookup F.1 F.2.1 hd hp ho ht (kk p e s m args below meth c H locs ls F e1 S P L)
end ROWS
