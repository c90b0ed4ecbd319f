/-! Methods that return or throw, with what their cells hold behind either end. -/
section EM0
variable {p : Program} {l : Launch} {e : Env} {R : Room} {s : State} {m : MethodId} {args : Array Value} {below : List Frame} {meth : Method} {c : Code} {H : Heap} {locs : List Loc} {cells slots : Nat} {Q : State → Prop}
theorem W.mono {Q' : State → Prop} {g : JFrame} (h : ∀ t, Q t → Q' t) (k : W p l e R s m args below meth c H locs cells slots Q g) : W p l e R s m args below meth c H locs cells slots Q' g := fun T hT X => by
  obtain ⟨t, a, b⟩ := k T hT X
  exact ⟨t, a, h t b⟩
/-- the constructor X(String) of an exception on a fresh cell: that cell alone changes -/
theorem em_ctor {cc : ByteArray} {pc nL : Nat} {ls : Array Slot} (hexec : p.tables.exec = Jvm.exec) (hb : c.code = cc) (hml : c.maxLocals = nL) (hls : ls.size = nL) (hnt : l.stackTraces = false)
    {own X : String} {names : List String} {ic : Nat} (hown : s.vm.findClass own = some m.cls) (hX : Bundle.fit X = true) (hnames : ∀ n ∈ names, Bundle.fit n = true) (hat : ∀ a ∈ Bundle.ownAtoms own ic X names, a.before args s = true)
    (hlocs : ∀ x ∈ locs, ∀ cell, s.heap[x.base]? = some cell → cell.vm.isStatics = false)
    {a q : Nat} {cX : ClassId} {kX : Class} (hfX : s.vm.findClass X = some cX) (hkX : s.vm.classes[cX]? = some kX) (hcell : H[a]? = some (freshCell cX kX)) (hnew : s.heap.size ≤ a)
    (hR1 : names.length + 3 < R.frames) {rest : List Value} (hR2 : (rest.map fun v => v.category).sum + (13 * (names.length + 1) + 43) ≤ R.locals) (hdg : decode cc pc = .ok (.invokespecial ic, 3))
    (kk : ∀ (ce : Cell) (L : List Loc), ce.cls = cX → ce.vm = .none → (∀ y ∈ L, y.base = a) → W p l e R s m args below meth c (H.setIfInBounds a ce) (locs ++ L) cells slots Q (F0 m (pc + 3) ls (.ref a :: rest))) :
    W p l e R s m args below meth c H locs cells slots Q (F0 m pc ls (.ref q :: .ref a :: .ref a :: rest)) := by
  intro W0 hW0 X0
  subst hW0
  have htr : e.platform.stackTraces = false := by
    have := X0.admits.2.2.2.2.1
    rw [this]
    exact hnt
  have hpf := X0.admits.platform
  have howns : e.platform.frameOwnsMonitors = true := by rw [hpf]
  have hfin : e.platform.finalization = false := by rw [hpf]
  have hpl : e.platform.magicAccessors = ({} : Platform).magicAccessors := by rw [hpf]
  have at0 : ∀ x, x ∈ Bundle.ownAtoms own ic X names → x.holds args s none s [] = true := fun x hx => hat x hx
  obtain ⟨T, Z0, LT, -, Y⟩ := ThrowableC.of_atoms (args := args) howns hfin hpl (fun x hx => hat x (by simp [Bundle.ownAtoms, hx]))
  obtain ⟨Z, M, LZ, LM, hnZ⟩ := Init0T.ofS_atoms (args := args) hpl LT Y (fun x hx => hat x (by simp [Bundle.ownAtoms, hx]))
  obtain ⟨P1, Ps, hlen, L1, hL, hP1m, hlink1, hlink⟩ := Bundle.chainS (args := args) hpl hnZ names X hX hnames (fun x hx => hat x (by simp [Bundle.ownAtoms, hx]))
  have hfound : s.vm.findClass X = some P1.m.cls := findClass_of_methodNamed hP1m
  cases Option.some.inj (hfX.symm.trans hfound)
  obtain ⟨c1, kX', hc1, hk, hord, -, -, hn6⟩ := Cond.instantiable_spec (at0 (.instantiable X 6) (by simp [Bundle.ownAtoms]))
  cases Option.some.inj (hc1.symm.trans hfound)
  cases Option.some.inj (hkX.symm.trans hk)
  have hsel : ∀ (w : MethodName) (id : MethodId), w.cls ≠ "java/lang/invoke/MethodHandle" ∧ w.cls ≠ "java/lang/invoke/VarHandle" → s.methodNamed? w = some id → (Cond.selects X w w).holds args s none s [] = true → selectMethod e.platform s.vm P1.m.cls id = .method id := by
    intro w id hw hid hs
    obtain ⟨c2, r2, m2, q1, q2, q3, q4, -⟩ := Cond.selects_spec hs
    cases Option.some.inj (q1.symm.trans hfound)
    cases Option.some.inj (q2.symm.trans (State.methodFound?_of_named hid hw))
    cases Option.some.inj (q3.symm.trans hid)
    rw [Launch.admits_selectMethod X0.admits]
    exact q4
  have hsel0 := hsel _ _ (by decide) Y.fill0 (at0 (.selects X Bundle.tFill0 Bundle.tFill0) (by simp [Bundle.ownAtoms]))
  have hselF := hsel _ _ (by decide) Y.fill (at0 (.selects X Bundle.tFill Bundle.tFill) (by simp [Bundle.ownAtoms]))
  obtain ⟨cS0, hcS0, hiss⟩ := Y.statics
  obtain ⟨u0, hu0⟩ := Cond.staticRefV Y.unassigned LT.unassignedStatic LT.statics hcS0 hiss (at0 (.isRef (.static Bundle.tN "UNASSIGNED_STACK" Bundle.steD)) (by simp [Bundle.ownAtoms]))
  obtain ⟨sen, hsen⟩ := Cond.staticRefV Y.sentinel LT.sentinelStatic LT.statics hcS0 hiss (at0 (.isRef (.static Bundle.tN "SUPPRESSED_SENTINEL" Bundle.listD)) (by simp [Bundle.ownAtoms]))
  obtain ⟨ci198, i198, fB, hk198, hg198, ha198, hsB, -, hnB, htB, hffB⟩ := Cond.ownField (t := .object "java/lang/Object") Y.found LT.cls (by decide +kernel) (at0 (.fieldLink Bundle.tN 198 Bundle.tN "backtrace" "Ljava/lang/Object;") (by simp [Bundle.ownAtoms])) (at0 (.lays Bundle.tN Bundle.tN "backtrace" "Ljava/lang/Object;") (by simp [Bundle.ownAtoms])) e.platform hpl
  obtain ⟨cS, hcS', heS, -, hkeep⟩ := X0.same.2.2.2.2.2 T.aS cS0 hcS0
  have hcS : W0.heap[T.aS]? = some cS := hcS'
  have hout : ∀ i, (⟨T.aS, i⟩ : Loc) ∉ locs := fun i hmem => by
    have := hlocs _ hmem cS0 hcS0
    rw [hiss] at this
    cases this
  have hknS : cS.vm ≠ .unknown := by
    rw [heS]
    intro hu
    rw [show cS0.vm = .unknown from hu] at hiss
    cases hiss
  have hneS : T.aS ≠ a := Nat.ne_of_lt (Nat.lt_of_lt_of_le (Array.getElem?_eq_some_iff.mp hcS0).1 hnew)
  obtain ⟨iM, hffM⟩ := Y.msg
  obtain ⟨tyC, dC, hdC, hdnC⟩ := Cond.laysAt hfound hk Y.cause (at0 (.lays X Bundle.tN "cause" "Ljava/lang/Throwable;") (by simp [Bundle.ownAtoms]))
  obtain ⟨tyS, dS, hdS, hdnS⟩ := Cond.laysAt hfound hk Y.stack (at0 (.lays X Bundle.tN "stackTrace" Bundle.steD) (by simp [Bundle.ownAtoms]))
  obtain ⟨tyP, dP, hdP, hdnP⟩ := Cond.laysAt hfound hk Y.supp (at0 (.lays X Bundle.tN "suppressedExceptions" Bundle.listD) (by simp [Bundle.ownAtoms]))
  obtain ⟨tyM, dM, hdM, hdnM⟩ := Cond.laysAt hfound hk hffM (at0 (.lays X Bundle.tN "detailMessage" "Ljava/lang/String;") (by simp [Bundle.ownAtoms]))
  obtain ⟨tyB, dB, hdB, hdnB⟩ := Cond.laysAt hfound hk hffB (at0 (.lays X Bundle.tN "backtrace" "Ljava/lang/Object;") (by simp [Bundle.ownAtoms]))
  have bC := Cond.laysApart hdB hdC hdnB hdnC (by rw [hnB, Y.causeName]; decide)
  have bS := Cond.laysApart hdB hdS hdnB hdnS (by rw [hnB, Y.stackName]; decide)
  have bP := Cond.laysApart hdB hdP hdnB hdnP (by rw [hnB, Y.suppName]; decide)
  have hskip : SkipFacts T e.platform s (fun u => u) u0 ((preparedCellV T.toThrowableT (freshCell P1.m.cls kX) a u0 sen).withEntry W0.cur) :=
    ⟨{ ci198 := ci198, i198 := i198, fBack := fB }, ⟨hk198, hg198, ha198, hsB⟩, by
      have hd0 := fresh_default (c := P1.m.cls) tyB
      rw [htB] at hd0
      simpa [preparedCellV, Cell.setSlot, Cell.withEntry, Array.getElem?_setIfInBounds, bC, bS, bP, bC.symm, bS.symm, bP.symm, defaultValue] using hd0, fun _ _ => rfl⟩
  obtain ⟨tm, methC, cdC, kC, vm₁, hnC, -, -, -, -, -, -, -, hW₁, st1⟩ := Steps.initColdS (tb := p.tables) (e := e) (below := below) (s := s) (U := W0) X0.here hexec X0.warmed hpl hown (t := Bundle.initS X) rfl rfl (Bundle.fit_spec hX).2
    (at0 (.methodLink own ic (Bundle.initS X)) (by simp [Bundle.ownAtoms])) (hat (.instanceMethod (Bundle.initS X)) (by cases names <;> simp [Bundle.ownAtoms, Bundle.chainSAtoms, Bundle.passSAtoms])) (bytes := Bundle.six) (maxL := 2) (hat (.code (Bundle.initS X) Bundle.six 2 none) (by cases names <;> simp [Bundle.ownAtoms, Bundle.chainSAtoms, Bundle.passSAtoms]))
    (f := F0 m pc ls (.ref q :: .ref a :: .ref a :: rest)) rfl (a := a) (msg := .ref q) (rest := .ref a :: rest) rfl (by rw [hb]; exact hdg)
  cases Option.some.inj (hnC.symm.trans hP1m)
  obtain ⟨vm₂, X₂, st2⟩ := (X0.noted hW₁).ctorMessageOffV hexec (g := F0 m pc ls (.ref a :: rest)) rfl (hls.trans hml.symm) T LT Z LZ M LM (P1 :: Ps)
    (fun P hP => by rcases List.mem_cons.mp hP with rfl | hP; exact L1; exact hL P hP) ⟨hlink1, hlink⟩ (u0 := u0) (sen := sen) (self := a) (msg := .ref q) rfl (cell := freshCell P1.m.cls kX) (cellS := cS)
    hcell (fun _ => by simp) (by simp) rfl rfl hsel0 hselF hcS hneS hknS (by rw [hkeep _ (hout _)]; exact hu0) (by rw [hkeep _ (hout _)]; exact hsen)
    (Takes.of_laid hk hord tyC (by rw [Y.causeType]; rfl)) (Takes.of_laid hk hord tyS (by rw [Y.stackType]; exact fits_refV_array _ u0)) (Takes.of_laid hk hord tyP (by rw [Y.suppType]; exact fits_refV_object _ sen))
    (Takes.of_laid hk hord tyM (by rw [Y.msgType]; rfl)) Y.objLocals hskip htr [] (by rw [hb]; exact hdg)
    (by simp only [List.length_cons, hlen]; omega) (by simp only [List.length_cons, hlen]; show 2 * 0 + ((Value.ref a :: rest).map fun v => v.category).sum + _ ≤ _; rw [show ((Value.ref a :: rest).map fun v => v.category).sum = 1 + (rest.map fun v => v.category).sum from rfl]; omega)
  obtain ⟨t, a1, b1⟩ := kk _ _ rfl rfl (fun y hy => by
    simp only [List.mem_cons, List.not_mem_nil, or_false] at hy
    rcases hy with rfl | rfl | rfl | rfl | rfl <;> rfl) _ rfl X₂
  exact ⟨t, st1 _ (fun acts => by rw [doInvoke_state]; exact st2 _ a1), b1⟩
end EM0
/-- what is made stays only where it throws -/
def em_k (o : Outcome) (n : Nat) : Nat := match o with | .threw _ => n | _ => 0
/-- the contract of a method that returns (ok) or throws one of Cs (bad), its cells W1 u behind either -/
def em_Q {S : Type} (D : va_G) (tys : List (ClassId × FieldType)) (A : Nat → Prop) (W1 : S → va_W) (ok : Option Value → S → Prop) (bad : String → S → Prop) (o : Outcome) (t : State) : Prop :=
  ∃ u : S, wp_post D tys A (W1 u) t ∧ ((∃ v, o = .returned v ∧ ok v u) ∨ ∃ (x : Nat) (C : String), o = .threw x ∧ bad C u ∧ tw_Ex C x t.vm t.heap)
def em_Met {S : Type} (l : Launch) (y : MethodName) (ws : List Cond) (rm : Room) (Pc : Array Value → State → Prop) (D : va_G) (tys : List (ClassId × FieldType)) (A : Nat → Prop) (W1 : S → va_W) (ok : Option Value → S → Prop) (bad : String → S → Prop) (mc ms : Nat) : Prop :=
  MetFree l y (headSpec ws rm) Pc (fun _ _ _ _ _ => True) (fun _ st o t => em_Q D tys A W1 ok bad o t ∧ ∃ L, tw_FE st t L (em_k o mc) (em_k o ms) ∧ ∀ q ∈ L, A q.base)
def em_MQ {S : Type} (below : List Frame) (D : va_G) (tys : List (ClassId × FieldType)) (A : Nat → Prop) (W1 : S → va_W) (ok : Option Value → S → Prop) (bad : String → S → Prop) (s : State) (mc ms : Nat) : State → Prop := fun t =>
  ∃ o, t.status = .running ∧ Ended t below o ∧ em_Q D tys A W1 ok bad o t ∧ ∃ L, tw_FE s t L (em_k o mc) (em_k o ms) ∧ ∀ q ∈ L, A q.base
section EM1
variable {l : Launch} {S : Type} {D : va_G} {tys : List (ClassId × FieldType)} {A : Nat → Prop} {W1 : S → va_W} {ok : Option Value → S → Prop} {bad : String → S → Prop}
theorem em_Met.ofW {y : MethodName} {ws ws' : List Cond} {rm : Room} {Pc : Array Value → State → Prop} {mc ms : Nat} {cc : ByteArray} {maxL : Nat} {ret : Option FieldType}
    (hy : plainName y.cls = true) (hw : ws = Cond.code y cc maxL ret :: ws')
    (body : ∀ p e s m args below meth c s₁, BodyLoose p l y (headSpec ws rm) cc maxL ret e s m args below meth c s₁ → c.maxLocals = maxL → Pc args s → c.exceptionTable.isEmpty = true →
      W p l e (headSpec ws rm).room s m args below meth c s.heap [] 0 0 (em_MQ below D tys A W1 ok bad s mc ms) (entryFrame m args maxL)) : em_Met l y ws rm Pc D tys A W1 ok bad mc ms := by
  refine MetFree.of_bodyS (code := cc) (maxLocals := maxL) (ret := ret) hy ?_ ?_
  · intro args s m h hn
    obtain ⟨meth, c, h1, h2, h3, h4, h5, h6, -, -⟩ := Cond.code_spec hn (atoms_spec (ws := ws) h _ (by rw [hw]; exact List.mem_cons_self))
    exact ⟨meth, c, h1, h2, h3, h4, h5, h6⟩
  · intro p e s m args below meth c s₁ B hml hP _
    have hh0 : s₁.heap = s.heap := by rw [B.state]; rfl
    have hex : c.exceptionTable.isEmpty = true := B.noHandlers (atoms_spec (ws := ws) B.pre _ (by rw [hw]; exact List.mem_cons_self))
    obtain ⟨t, a1, o, b1, b2, b3, b4⟩ := body p e s m args below meth c s₁ B hml hP hex s₁ hh0 (Stand.of_body B)
    exact ⟨t, o, a1, b1, b2, b3, b4⟩
end EM1
section EM2
variable {p : Program} {l : Launch} {e : Env} {R : Room} {s : State} {m : MethodId} {args : Array Value} {below : List Frame} {meth : Method} {c : Code} {H : Heap} {locs : List Loc} {cells slots : Nat} {Q : State → Prop}
variable {cc : ByteArray} {pc : Nat} {ls : Array Slot} {rest st0 : List Value} {S : Type} {D : va_G} {tys : List (ClassId × FieldType)} {A : Nat → Prop} {ws : va_W} {W1 : S → va_W} {ok : Option Value → S → Prop} {bad : String → S → Prop}
/-- a returning end, out of the kit's own -/
theorem em_of {mc ms : Nat} {v : Option Value} {g : JFrame} (hP : va_P D classes ws H) (hD : va_D A ws) (hK : va_K D classes tys s) (u : S) (is : List Nat) (hn : va_nd is = true) (hs : is.map (fun i => ws[i]?) = (W1 u).map some) (hok : ok v u)
    (k : W p l e R s m args below meth c H locs 0 0 (MQ below (fun _ _ o t => o = .returned v ∧ t.heap = H ∧ s.WarmedH t.vm) args s 0 0 A) g) : W p l e R s m args below meth c H locs 0 0 (em_MQ below D tys A W1 ok bad s mc ms) g := by
  refine W.mono (fun t ht => ?_) k
  obtain ⟨o, h1, h2, ⟨rfl, h4, h5⟩, L, h6, h7⟩ := ht
  exact ⟨_, h1, h2, ⟨u, ⟨by rw [h4]; exact hP.sub is (wp_fm hs), va_K.moved h5.alike hK, hD.sub is hn hs⟩, Or.inl ⟨v, rfl, hok⟩⟩, L, ⟨h6.2.1, h6.2.2⟩, h7⟩
theorem em_iret {mc ms : Nat} {v : Int32} (hexec : p.tables.exec = Jvm.exec) (hb : c.code = cc) (hr : meth.sig.returnType = some .int) (hlocks : meth.locks = false) (hP : va_P D classes ws H) (hD : va_D A ws) (hK : va_K D classes tys s) (hS : va_S A s.heap H locs) (u : S) (is : List Nat) (hn : va_nd is = true) (hs : is.map (fun i => ws[i]?) = (W1 u).map some) (hok : ok (some (.int v)) u) (hdg : decode cc pc = .ok (.ireturn, 1)) :
    W p l e R s m args below meth c H locs 0 0 (em_MQ below D tys A W1 ok bad s mc ms) (F0 m pc ls [.int v]) :=
  em_of hP hD hK u is hn hs hok (W.iret hexec hb hr (fun _ ht hW => ⟨rfl, ht, hW⟩) hS.2.2 hdg hlocks)
theorem em_zret {mc ms : Nat} {v : Int32} (hexec : p.tables.exec = Jvm.exec) (hb : c.code = cc) (hr : meth.sig.returnType = some .boolean) (hlocks : meth.locks = false) (hv : narrow .boolean (.int v) = .int v) (hP : va_P D classes ws H) (hD : va_D A ws) (hK : va_K D classes tys s) (hS : va_S A s.heap H locs) (u : S) (is : List Nat) (hn : va_nd is = true) (hs : is.map (fun i => ws[i]?) = (W1 u).map some) (hok : ok (some (.int v)) u) (hdg : decode cc pc = .ok (.ireturn, 1)) :
    W p l e R s m args below meth c H locs 0 0 (em_MQ below D tys A W1 ok bad s mc ms) (F0 m pc ls [.int v]) :=
  em_of hP hD hK u is hn hs hok (W.zret hexec hb hr hv (fun _ ht hW => ⟨rfl, ht, hW⟩) hS.2.2 hdg hlocks)
theorem em_lret {mc ms : Nat} {v : Int64} (hexec : p.tables.exec = Jvm.exec) (hb : c.code = cc) (hr : meth.sig.returnType = some .long) (hlocks : meth.locks = false) (hP : va_P D classes ws H) (hD : va_D A ws) (hK : va_K D classes tys s) (hS : va_S A s.heap H locs) (u : S) (is : List Nat) (hn : va_nd is = true) (hs : is.map (fun i => ws[i]?) = (W1 u).map some) (hok : ok (some (.long v)) u) (hdg : decode cc pc = .ok (.lreturn, 1)) :
    W p l e R s m args below meth c H locs 0 0 (em_MQ below D tys A W1 ok bad s mc ms) (F0 m pc ls [.long v]) :=
  em_of hP hD hK u is hn hs hok (W.lret hexec hb hr (fun _ ht hW => ⟨rfl, ht, hW⟩) hS.2.2 hdg hlocks)
theorem em_vret {mc ms : Nat} (hexec : p.tables.exec = Jvm.exec) (hb : c.code = cc) (hr : meth.sig.returnType = none) (hlocks : meth.locks = false) (hP : va_P D classes ws H) (hD : va_D A ws) (hK : va_K D classes tys s) (hS : va_S A s.heap H locs) (u : S) (is : List Nat) (hn : va_nd is = true) (hs : is.map (fun i => ws[i]?) = (W1 u).map some) (hok : ok none u) (hdg : decode cc pc = .ok (.return_, 1)) :
    W p l e R s m args below meth c H locs 0 0 (em_MQ below D tys A W1 ok bad s mc ms) (F0 m pc ls []) :=
  em_of hP hD hK u is hn hs hok (W.vret hexec hb hr (fun _ ht hW => ⟨rfl, ht, hW⟩) hS.2.2 hdg hlocks)
/-- throw new X("..") in a method without handlers: what its world holds stays -/
theorem em_throw {nL : Nat} (hexec : p.tables.exec = Jvm.exec) (hb : c.code = cc) (hml : c.maxLocals = nL) (hls : ls.size = nL) (hnt : l.stackTraces = false) (hlocks : meth.locks = false)
    {own X tx : String} {names : List String} {i ic k q : Nat} (hown : s.vm.findClass own = some m.cls) (hX : Bundle.fit X = true) (hnames : ∀ n ∈ names, Bundle.fit n = true)
    (hat : ∀ a ∈ Bundle.ownAtoms own ic X names, a.before args s = true) (hcl : (Cond.classLink own i X).before args s = true) (hini : (Cond.initialized X).before args s = true) (hZ : vk_R own k tx q s) (hno : c.exceptionTable.isEmpty = true)
    (hP : va_P D classes ws H) (hD : va_D A ws) (hK : va_K D classes tys s) (hS : va_S A s.heap H locs) (hA : ∀ q, s.heap.size ≤ q → A q) (hst : ∀ (q : Nat) (cell : Cell), A q → s.heap[q]? = some cell → cell.vm.isStatics = false)
    (u : S) (is : List Nat) (hn : va_nd is = true) (hs : is.map (fun i => ws[i]?) = (W1 u).map some) (hbad : bad X u)
    (hR1 : names.length + 3 < R.frames) (hR2 : 13 * (names.length + 1) + 43 ≤ R.locals) (hc : cells + 1 ≤ R.cells) (hsl : slots + 6 ≤ R.slots)
    (d1 : decode cc pc = .ok (.new i, 3)) (d2 : decode cc (pc + 3) = .ok (.dup, 1)) (d3 : decode cc (pc + 3 + 1) = .ok (.ldc k, 2)) (d4 : decode cc (pc + 3 + 1 + 2) = .ok (.invokespecial ic, 3)) (d5 : decode cc (pc + 3 + 1 + 2 + 3) = .ok (.athrow, 1)) :
    W p l e R s m args below meth c H locs cells slots (em_MQ below D tys A W1 ok bad s (cells + 1) (slots + 6)) (F0 m pc ls []) := by
  refine W.newc hexec hb hown hcl (hat (.instantiable X 6) (by simp [Bundle.ownAtoms])) hini rfl d1 hc hsl (fun cC kC h1 h2 _ _ => ?_)
  refine W.eq (g2 := F0 m (pc + 3) ls [.ref H.size]) rfl ?_
  refine lv_dup hexec hb d2 rfl ?_
  refine va_ldcS hexec hb hown hZ d3 ?_
  refine em_ctor hexec hb hml hls hnt hown hX hnames hat (fun y hy cell hcell => hst _ cell (hS.2.2 y hy) hcell) (a := H.size) (q := q) h1 h2 (by simp) hS.1 hR1 (rest := []) (by simp only [List.map_nil, List.sum_nil]; omega) d4 (fun ce L hce hvm hL => ?_)
  intro T hT X1
  obtain ⟨w, run, ended, warm, same⟩ := X1.athrowLeaves hexec (g := F0 m (pc + 3 + 1 + 2 + 3) ls [.ref H.size]) rfl rfl rfl (tw_out hno _) (a := H.size) (rest := []) rfl (by rw [hb]; exact d5) hlocks
  have hsz : ((H.push { cls := cC, slots := kC.instanceTypes.map defaultValue, vm := .none }).setIfInBounds H.size ce).size = H.size + 1 := by simp
  have hold : ∀ z : Nat, z < H.size → ((H.push { cls := cC, slots := kC.instanceTypes.map defaultValue, vm := .none }).setIfInBounds H.size ce)[z]? = H[z]? := fun z hz => by
    rw [Array.getElem?_setIfInBounds_ne (Nat.ne_of_gt hz), Array.getElem?_push, if_neg (Nat.ne_of_lt hz)]
  have hPz : va_P D classes ws T.heap := by
    rw [hT]
    exact hP.kept (fun k x hx => hold x.1 (hP k x hx).lt)
  refine ⟨_, w, .threw H.size, run, ended, ⟨u, ⟨hPz.sub is (wp_fm hs), va_K.moved warm.alike hK, hD.sub is hn hs⟩, Or.inr ⟨H.size, X, rfl, hbad, ce, ?_, by rw [hvm]; rfl, ?_⟩⟩, locs ++ L, ⟨warm, same⟩, fun y hy => ?_⟩
  · show T.heap[H.size]? = some ce
    rw [hT]
    simp
  · rw [warm.alike.findClass, h1, hce]
  · rcases List.mem_append.mp hy with h | h
    · exact hS.2.2 y h
    · rw [hL y h]
      exact hA _ hS.1
end EM2
section EM3
variable {p : Program} {l : Launch} {e : Env} {R : Room} {s : State} {m : MethodId} {args : Array Value} {below : List Frame} {meth : Method} {c : Code} {H : Heap} {locs : List Loc} {cells slots : Nat} {Q : State → Prop}
variable {S : Type} {D : va_G} {tys : List (ClassId × FieldType)} {A : Nat → Prop} {W1 : S → va_W} {ok : Option Value → S → Prop} {bad : String → S → Prop}
/-- a call of a method that returns or throws -/
theorem em_go {U : State} (X : Stand p l e R s m args below meth c U locs cells slots) {y : MethodName} {ws : List Cond} {rm : Room} {Pc : Array Value → State → Prop} {mc ms maxL len : Nat} {bytes : ByteArray} {ret : Option FieldType} {a : Array Value}
    (hM : em_Met l y ws rm Pc D tys A W1 ok bad mc ms) (hPc : ∀ (g : JFrame) (mk : MethodId), Pc a (U.calling g mk a)) (hrc : rm.cells = mc) (hrs : rm.slots = ms) (hframes : rm.frames + 1 ≤ R.frames) (hlocals : 8 + (maxL + 11) + rm.locals ≤ R.locals)
    (hws : ∀ w ∈ ws, w.before a U = true) (hcode : Cond.code y bytes maxL ret ∈ ws) (hinit : (Cond.initialized y.cls).before a U = true)
    {g : JFrame} (hg : g.method = m) (hsize : g.locals.size = c.maxLocals) {ig : Instr} (hdg : decode c.code g.pc = .ok (ig, len)) (hW : 2 * g.monitorRoom + (g.stack.map fun v => v.category).sum ≤ 8) {mk : MethodId} (hn : U.methodNamed? y = some mk)
    (hcells : cells + mc ≤ R.cells) (hslots : slots + ms ≤ R.slots) :
    ∃ (T' : State) (L : List Loc) (u : S), (∀ q ∈ L, A q.base) ∧ va_F A U T' ∧ wp_post D tys A (W1 u) T' ∧
      ((∃ v, ok v u ∧ Stand p l e R s m args below meth c T' (locs ++ L) cells slots ∧ Steps p.tables e below (doInvoke e (U.setTop g) [] mk a).1 (T'.setTop { g with pc := g.pc + len, stack := v.toList ++ g.stack })) ∨ ∃ (x : Nat) (C : String), bad C u ∧ tw_Ex C x s.vm T'.heap ∧ Stand p l e R s m args below meth c T' (locs ++ L) (cells + mc) (slots + ms) ∧ Steps p.tables e below (doInvoke e (U.setTop g) [] mk a).1 ((T'.setTop g).pushFrame (.throwing x))) := by
  obtain ⟨methY, cY, hmY, hcY, -, hlY, -, -, -, -⟩ := Cond.code_spec hn (hws _ hcode)
  obtain ⟨kY, hkY, -⟩ := className_of_methodNamed hn
  have hinitY : kY.init = .initialized := Cond.initialized_spec (findClass_of_methodNamed hn) hkY hinit
  have h : At U g.method c below := by rw [hg]; exact X.here
  have happ : (headSpec ws rm).appliesLoose y e.platform (U.calling g mk a) = true :=
    Spec.appliesLoose_calling (g := g) h hdg hn hkY hinitY
      (X.room_calling (g := g) (R' := rm) hsize hmY hcY hframes (by rw [hlY]; omega) (by rw [hrc]; exact hcells) (by rw [hrs]; exact hslots)) (atoms_intro hws)
  obtain ⟨mid, hmid⟩ := h.above
  have hfr : (U.setTop g).frames = (.java g :: mid) ++ below := by rw [State.frames_setTop' g h.top, hmid]; rfl
  obtain ⟨o, s₂, hsteps, -, hend, ⟨u, ⟨hp1, hp2, hp3⟩, ho⟩, L, hfe, hL⟩ := Steps.callFree hM p X.admits X.cas X.clock (acts := []) hfr happ (hPc g mk) trivial
  rw [State.frames_setTop' g h.top, X.tail] at hend
  rcases ho with ⟨v, rfl, hv⟩ | ⟨x, C, rfl, hbad, hx⟩
  · obtain ⟨T', X', hW', hsame, ht⟩ := X.outOf hg hdg (mk := mk) (a := a) hend hfe.1 hfe.2
    have e1 : s₂.heap = T'.heap := by rw [ht]; simp
    have e2 : s₂.vm = T'.vm := by rw [ht]; simp
    exact ⟨T', L, u, hL, tw_F (st := U) (t := T') (L := L) (k := 0) (n := 0) ⟨hW', hsame⟩ hL, ⟨by rw [← e1]; exact hp1, va_K.moved (u := s₂) (by rw [e2]; exact Vm.Alike.refl _) hp2, hp3⟩, Or.inl ⟨v, hv, X', by rw [← ht]; exact hsteps⟩⟩
  · obtain ⟨T', X', hW', hsame, ht⟩ := X.outOfThrown hg (mk := mk) (a := a) hend hfe.1 hfe.2
    have e1 : s₂.heap = T'.heap := by rw [ht]; exact Stand.throwing_heap T' g x
    have e2 : s₂.vm = T'.vm := by rw [ht]; exact Stand.throwing_vm T' g x
    obtain ⟨ce, g1, g2, g3⟩ := hx
    exact ⟨T', L, u, hL, tw_F (st := U) (t := T') (L := L) (k := mc) (n := ms) ⟨hW', hsame⟩ hL, ⟨by rw [← e1]; exact hp1, va_K.moved (u := s₂) (by rw [e2]; exact Vm.Alike.refl _) hp2, hp3⟩, Or.inr ⟨x, C, hbad, ⟨ce, by rw [← e1]; exact g1, g2, by rw [← X'.warmed.alike.findClass, ← e2]; exact g3⟩, X', by rw [← ht]; exact hsteps⟩⟩
def em_Run (p : Program) (l : Launch) (e : Env) (R : Room) (s : State) (m : MethodId) (args : Array Value) (below : List Frame) (meth : Method) (c : Code) (H : Heap) (locs : List Loc) (cells slots mc ms : Nat) (g : JFrame) (rest : List Value) (D : va_G) (tys : List (ClassId × FieldType)) (A : Nat → Prop) (W1 : S → va_W) (ok : Option Value → S → Prop) (bad : String → S → Prop) : Prop :=
  ∀ T : State, T.heap = H → Stand p l e R s m args below meth c T locs cells slots → ∃ (T' : State) (L : List Loc) (u : S), (∀ q ∈ L, A q.base) ∧ (H.size ≤ T'.heap.size ∧ ∀ q : Nat, q < H.size → ¬ A q → T'.heap[q]? = H[q]?) ∧ wp_post D tys A (W1 u) T' ∧
    ((∃ v, ok v u ∧ Stand p l e R s m args below meth c T' (locs ++ L) cells slots ∧ Goes p e below T g T' { g with pc := g.pc + 3, stack := v.toList ++ rest }) ∨ ∃ (x : Nat) (C : String), bad C u ∧ tw_Ex C x s.vm T'.heap ∧ Stand p l e R s m args below meth c T' (locs ++ L) (cells + mc) (slots + ms) ∧ ∀ tg, Steps p.tables e below ((T'.setTop { g with stack := rest }).pushFrame (.throwing x)) tg → Steps p.tables e below (T.setTop g) tg)
variable {y : MethodName} {bytes cc : ByteArray} {maxL nL mc ms n index : Nat} {ret : Option FieldType} {ws : List Cond} {rm : Room} {Pc : Array Value → State → Prop} {Ts : List Cond} {own C0 : String} {b : Addr} {As rest : List Value} {g : JFrame}
theorem em_runV (Sx : CallFix p m c cc nL s args Ts own) (hM : em_Met l y ws rm Pc D tys A W1 ok bad mc ms) (cw : CallW R s args own C0 index y bytes maxL ret ws rm mc ms n) (hp : PreV s H C0 b Pc As)
    (hg : g.method = m) (hn : As.length = n) (hsize : g.locals.size = nL) (hstack : g.stack = As.reverse ++ .ref b :: rest) (hW : 2 * g.monitorRoom + (rest.map fun v => v.category).sum ≤ 8) (hdg : decode cc g.pc = .ok (.invokevirtual index, 3)) (hf : cells + mc ≤ R.cells ∧ slots + ms ≤ R.slots) :
    em_Run p l e R s m args below meth c H locs cells slots mc ms g rest D tys A W1 ok bad := by
  obtain ⟨⟨hrc, hrs, hfr, hlo, hws, hcw, hcode, hini, hy, hlen, hl⟩, hin, hse⟩ := cw
  obtain ⟨hx, hb, hml, ho, -⟩ := Sx
  obtain ⟨hbl, ⟨cellB, hcB, hoB, hclB⟩, hPc⟩ := hp
  intro T hT X
  obtain ⟨mk, methM, hnamed, hmethM, hstM, habM⟩ := Cond.instanceMethod_spec hin
  obtain ⟨methM', cM, hmethM', -, -, -, -, -, -, hsigM⟩ := Cond.code_spec hnamed hcode
  cases hmethM.symm.trans hmethM'
  obtain ⟨c2, r2, m2, q1, q2, q3, q4, kP, hkP, hkPi⟩ := Cond.selects_spec hse
  cases hclB.symm.trans q1
  cases (State.methodFound?_of_named hnamed hy).symm.trans q2
  cases hnamed.symm.trans q3
  have hselP : selectMethod e.platform s.vm cellB.cls mk = .method mk := by rw [Launch.admits_selectMethod X.admits]; exact q4
  obtain ⟨vm₁, X₁, hstep₁⟩ := X.invokevirtual hx ho hl hnamed hmethM hstM hkP hkPi hy (a := b) (cell := cellB) (by rw [hT]; exact hcB)
    (fun z h => by rw [h] at hoB; cases hoB) hselP hmethM habM hkP hkPi (g := g) hg (argsL := As) (rest := rest) (hn.trans (hlen _ hsigM)) hstack (by rw [hb]; exact hdg)
  obtain ⟨T', L, u, hL, hF, hpo, st⟩ := em_go X₁ hM (a := (Value.ref b :: As).toArray) (fun g mk => hbl _ _ _ _ (hPc (T.setVm vm₁) hT X₁.warmed)) hrc hrs hfr hlo (fun w hw => hws w hw _ _ X₁.warmed) hcw
    (word_at X₁.warmed (Or.inl (by first | rfl | simp [Cond.onTables, Cond.keeps, Cond.steady])) hini) (g := { g with stack := rest }) hg (hsize.trans hml.symm) (by rw [hb]; exact hdg) hW (X₁.named hnamed) hf.1 hf.2
  subst hT
  refine ⟨T', L, u, hL, hF, hpo, ?_⟩
  rcases st with ⟨v, hv, X', st⟩ | ⟨x, C, hbad, hx, X', st⟩
  · exact Or.inl ⟨v, hv, X', fun tg h => hstep₁ _ fun acts => by rw [doInvoke_state]; exact st.trans h⟩
  · exact Or.inr ⟨x, C, hbad, hx, X', fun tg h => hstep₁ _ fun acts => by rw [doInvoke_state]; exact st.trans h⟩
/-- the machine, with an exception on its way over the frame g, comes to a state with Q -/
def WT (p : Program) (l : Launch) (e : Env) (R : Room) (s : State) (m : MethodId) (args : Array Value) (below : List Frame) (meth : Method) (c : Code) (H : Heap) (locs : List Loc) (cells slots : Nat) (Q : State → Prop) (g : JFrame) (x : Nat) : Prop :=
  ∀ T : State, T.heap = H → Stand p l e R s m args below meth c T locs cells slots → ∃ t, Steps p.tables e below ((T.setTop g).pushFrame (.throwing x)) t ∧ Q t
variable {pc : Nat} {ls : Array Slot} {st0 : List Value} {A0 : Nat → Prop} {wz0 W0 wr : va_W}
theorem em_call (hr : em_Run p l e R s m args below meth c H locs cells slots mc ms (F0 m pc ls st0) rest D tys (va_A W0 H.size) W1 ok bad)
    (hP : va_P D classes wz0 H) (hD : va_D A0 wz0) (hS : va_S A0 s.heap H locs) (hA : ∀ q, s.heap.size ≤ q → A0 q) (isC isR : List Nat) (hC : isC.map (fun i => wz0[i]?) = W0.map some) (hR : isR.map (fun i => wz0[i]?) = wr.map some) (hn : va_nd isR = true) (hdis : ∀ i ∈ isR, i ∉ isC)
    (kr : ∀ (v : Option Value) (u : S) (H1 : Heap) (locs1 : List Loc), ok v u → va_P D classes (wr ++ W1 u) H1 → va_D A0 (wr ++ W1 u) → va_S A0 s.heap H1 locs1 → W p l e R s m args below meth c H1 locs1 cells slots Q (F0 m (pc + 3) ls (v.toList ++ rest)))
    (kt : ∀ (x : Nat) (C : String) (u : S) (H1 : Heap) (locs1 : List Loc), bad C u → tw_Ex C x s.vm H1 → va_P D classes (wr ++ W1 u) H1 → va_D A0 (wr ++ W1 u) → va_S A0 s.heap H1 locs1 → WT p l e R s m args below meth c H1 locs1 (cells + mc) (slots + ms) Q (F0 m pc ls rest) x) :
    W p l e R s m args below meth c H locs cells slots Q (F0 m pc ls st0) := by
  have hFc := va_free (wc := W0) hD hS hA isC hC
  intro T hT X
  obtain ⟨T', L, u, hL, ⟨hz, hk⟩, ⟨hP1, hK1, hD1⟩, st⟩ := hr T hT X
  obtain ⟨hP2, hD2⟩ := va_join hP hD isC isR hC hR hn hdis hk hFc hP1 hD1
  have hS2 : va_S A0 s.heap T'.heap (locs ++ L) := ⟨Nat.le_trans hS.1 hz, fun q h1 h2 => by rw [hk q (Nat.lt_of_lt_of_le h1 hS.1) (fun w => h2 (hFc q w))]; exact hS.2.1 q h1 h2, fun q hq => by
    rcases List.mem_append.mp hq with h | h
    · exact hS.2.2 q h
    · exact hFc _ (hL q h)⟩
  rcases st with ⟨v, hv, X', st⟩ | ⟨x, C, hbad, hx, X', st⟩
  · obtain ⟨t, a1, b1⟩ := kr v u T'.heap (locs ++ L) hv hP2 hD2 hS2 T' rfl X'
    exact ⟨t, st t a1, b1⟩
  · obtain ⟨t, a1, b1⟩ := kt x C u T'.heap (locs ++ L) hbad hx hP2 hD2 hS2 T' rfl X'
    exact ⟨t, st t a1, b1⟩
/-- the exception leaves the method -/
theorem em_leave {S' : Type} {W2 : S' → va_W} {ok2 : Option Value → S' → Prop} {bad2 : String → S' → Prop} {x : Nat} {C : String} (hno : c.exceptionTable.isEmpty = true) (hlocks : meth.locks = false) (hx : tw_Ex C x s.vm H) (hP : va_P D classes wz0 H) (hD : va_D A0 wz0) (hK : va_K D classes tys s) (hS : va_S A0 s.heap H locs)
    (u : S') (is : List Nat) (hn : va_nd is = true) (hs : is.map (fun i => wz0[i]?) = (W2 u).map some) (hbad : bad2 C u) : WT p l e R s m args below meth c H locs cells slots (em_MQ below D tys A0 W2 ok2 bad2 s cells slots) (F0 m pc ls rest) x := by
  intro T hT X
  obtain ⟨w, run, ended, warm, same⟩ := X.leaveThrown x (g := F0 m pc ls rest) rfl rfl rfl (tw_out hno _) hlocks
  obtain ⟨ce, g1, g2, g3⟩ := hx
  exact ⟨_, w, .threw x, run, ended, ⟨u, ⟨by show va_P D classes (W2 u) T.heap; rw [hT]; exact hP.sub is (wp_fm hs), va_K.moved warm.alike hK, hD.sub is hn hs⟩, Or.inr ⟨x, C, rfl, hbad, ce, by show T.heap[x]? = _; rw [hT]; exact g1, g2, by rw [warm.alike.findClass]; exact g3⟩⟩, locs, ⟨warm, same⟩, hS.2.2⟩
end EM3
