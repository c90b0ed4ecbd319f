/-! Catching: a handler's class is resolved at the first look (the tables warm); a static call of a method with handlers. -/
/-- looking at one row of the handlers: the class that it names links to c, at the tables of S -/
theorem tw_look {e : Env} {S : State} {f : JFrame} {a : Addr} {x : ExceptionTableEntry} {rows : List ExceptionTableEntry} {k : ClassId} {cell : Cell} {Q : Handler → Pre} {E : CtlPost} {d : Bool} {acts : List Action}
    (hx : covers x f.pc = true) (h0 : x.catchType ≠ 0) (hl : S.vm.ClassLinks e.platform f.method.cls x.catchType k) (hcell : S.heap[a]? = some cell) (hobj : ∀ z, cell.vm ≠ .statics z)
    (hk : ∃ z, S.vm.classes[cell.cls]? = some z) (hc : ∃ z, S.vm.classes[k]? = some z) :
    wp (findHandler.go f a (x :: rows)) Q E e d acts S ↔ if S.vm.assignable cell.cls k = true then Q (.found x.handlerPc) d acts (S.setVm (S.vm.noted f.method.cls x.catchType (.cls k))) else wp (findHandler.go f a rows) Q E e d acts (S.setVm (S.vm.noted f.method.cls x.catchType (.cls k))) := by
  have hx' := hx
  simp only [covers] at hx'
  have hop := (resolveClass_links e.toSetting hl).op (op := VmOp.resolveClass f.method.cls x.catchType) rfl
  have hal : S.vm.Alike (S.vm.noted f.method.cls x.catchType (.cls k)) := (Vm.Alike.refl S.vm).noted _ _ _
  obtain ⟨z1, g1⟩ := hk
  obtain ⟨z2, g2⟩ := hc
  obtain ⟨w1, g3, -⟩ := hal.2.2 _ _ g1
  obtain ⟨w2, g4, -⟩ := hal.2.2 _ _ g2
  have hasg : (S.vm.noted f.method.cls x.catchType (.cls k)).assignable cell.cls k = S.vm.assignable cell.cls k := hal.assignable _ _
  cases hfit : S.vm.assignable cell.cls k <;> rw [hfit] at hasg <;> simp [findHandler.go, hx', h0, hop.1, hop.2, hcell, hobj, g3, g4, hasg, VmOp.dirties, VmOp.acts]
section TWC
variable {p : Program} {l : Launch} {e : Env} {R : Room} {s : State} {m : MethodId} {args : Array Value} {below : List Frame} {meth : Method} {c : Code} {H : Heap} {locs : List Loc} {cells slots : Nat} {Q : State → Prop}
/-- the search ends at a row of the method's own, with the tables vm' -/
def tw_Finds (e : Env) (S : State) (f : JFrame) (a : Addr) (pc : Nat) (vm' : Vm) : Prop := ∀ (Q : Handler → Pre) (E : CtlPost) (d : Bool) (acts : List Action), wp (findHandler f a) Q E e d acts S ↔ Q (.found pc) d acts (S.setVm vm')
theorem tw_caught {tb : Tables} {S target : State} {g : JFrame} {a : Addr} (h : At S g.method c below) {pc : Nat} {vm' : Vm} (hfind : tw_Finds e ((S.setTop g).pushFrame (.throwing a)) g a pc vm')
    (hrest : Steps tb e below ((S.setVm vm').setTop { g with pc := pc, stack := [.ref a] }) target) : Steps tb e below ((S.setTop g).pushFrame (.throwing a)) target := by
  obtain ⟨hgo, hw⟩ := h.throwing a
  refine Steps.head hgo hw ?_
  have hone : (stepThrowing e ((S.setTop g).pushFrame (.throwing a)) a (.java g :: S.frames.tail)).1 = (((S.setTop g).pushFrame (.throwing a)).setVm vm').setFrames (.java { g with pc := pc, stack := [.ref a] } :: S.frames.tail) := by
    simp only [stepThrowing, searchFrame, vmDo]
    generalize hr : Sem.go _ e false [] ((S.setTop g).pushFrame (.throwing a)) = res
    obtain ⟨as, rfl, ha⟩ := Sem.eq_ok_of hr (a := Handler.found pc) (s' := ((S.setTop g).pushFrame (.throwing a)).setVm vm') (acts' := []) (by simp [hfind _ _ _ _])
    rfl
  rw [stepThread_throwing (frames_entered h.top _), hone]
  obtain ⟨g₀, hg⟩ := Option.isSome_iff_exists.mp h.top
  obtain ⟨r, hr⟩ := State.topJava?_eq_some.mp hg
  have hr' : (S.setVm vm').frames = .java g₀ :: r := hr
  rw [State.setTop_of_frames _ hr'] at hrest
  have e1 : (((S.setTop g).pushFrame (.throwing a)).setVm vm').setFrames (.java { g with pc := pc, stack := [.ref a] } :: S.frames.tail) = (S.setVm vm').setFrames (.java { g with pc := pc, stack := [.ref a] } :: r) := by
    rw [hr, List.tail_cons, State.pushFrame, State.setTop_of_frames _ hr]
    have q : ∀ (u : State) (F1 F2 F3 : List Frame), (((u.setFrames F1).setFrames F2).setVm vm').setFrames F3 = (u.setVm vm').setFrames F3 := by
      intro u F1 F2 F3
      have z : ((u.setFrames F1).setFrames F2).setVm vm' = ((u.setVm vm').setFrames F1).setFrames F2 := rfl
      rw [z, State.setFrames_setFrames, State.setFrames_setFrames]
    exact q _ _ _ _
  rw [e1]
  exact hrest
variable {mc ms : Nat} {rest : List Value} {C : String} {A : Nat → Prop}
/-- the call throws, and the first row that covers it takes it -/
theorem tw_catch1 {pc hpc : Nat} {ls : Array Slot} {st0 : List Value} {A0 : Nat → Prop} {own : String} {x : ExceptionTableEntry} {rows : List ExceptionTableEntry} (hr : tw_Run p l e R s m args below meth c H locs cells slots mc ms (F0 m pc ls st0) rest C A)
    (hS : va_S A0 s.heap H locs) (hA : ∀ q, A q → A0 q) (hown : s.vm.findClass own = some m.cls) (htab : c.exceptionTable.toList = x :: rows) (hcov : covers x pc = true) (h0 : x.catchType ≠ 0) (hpe : x.handlerPc = hpc)
    (hlink : (Cond.classLink own x.catchType C).before args s = true) (hcast : (Cond.castable C C).before args s = true)
    (kk : ∀ (a : Nat) (H1 : Heap) (locs1 : List Loc), H.size ≤ H1.size → (∀ q : Nat, q < H.size → ¬ A q → H1[q]? = H[q]?) → va_S A0 s.heap H1 locs1 → W p l e R s m args below meth c H1 locs1 (cells + mc) (slots + ms) Q (F0 m hpc ls [.ref a])) :
    W p l e R s m args below meth c H locs cells slots Q (F0 m pc ls st0) := by
  intro T hT X
  obtain ⟨a, T', L, X', hL, ⟨ce, hce, hobj, hcls⟩, ⟨hz, hk⟩, st⟩ := hr T hT X
  have hpl : e.platform.magicAccessors = ({} : Platform).magicAccessors := by rw [X'.admits.platform]
  obtain ⟨k, hk', hcl⟩ := Cond.classLink_spec hown hlink e.platform hpl
  obtain ⟨k1, k2, g1, g2, hasg⟩ := Cond.castable_spec hcast
  cases g1.symm.trans g2
  cases hk'.symm.trans g1
  have hal := X'.warmed.alike
  have hcls' : s.vm.findClass C = some ce.cls := by rw [← hal.findClass]; exact hcls
  cases hcls'.symm.trans hk'
  obtain ⟨dk, _, _, kt, hd, _, _, _, _, hkt, _, hopen⟩ := hcl.here
  obtain ⟨kt', hkt', -⟩ := hal.2.2 _ _ hkt
  have hW' : s.WarmedH (T'.vm.noted m.cls x.catchType (.cls ce.cls)) := X'.warmed.noted hd hopen (State.rightAt_cls hcl)
  have hfind : tw_Finds e ((T'.setTop { F0 m pc ls st0 with stack := rest }).pushFrame (.throwing a)) { F0 m pc ls st0 with stack := rest } a hpc (T'.vm.noted m.cls x.catchType (.cls ce.cls)) := by
    intro Q E d acts
    rw [W.findHandler_eq (meth := meth) (code := c) X'.method' X'.code, htab, tw_look (e := e) (S := (T'.setTop { F0 m pc ls st0 with stack := rest }).pushFrame (.throwing a)) (f := { F0 m pc ls st0 with stack := rest }) (k := ce.cls) (cell := ce) hcov h0 (X'.warmed.classLinks hcl) hce (VmData.ne_statics_of hobj) ⟨kt', hkt'⟩ ⟨kt', hkt'⟩, hpe, if_pos (by show T'.vm.assignable ce.cls ce.cls = true; rw [hal.assignable]; exact hasg)]
    exact Iff.rfl
  obtain ⟨t, a1, b1⟩ := kk a T'.heap (locs ++ L) hz hk ⟨Nat.le_trans hS.1 hz, fun q h1 h2 => by rw [hk q (Nat.lt_of_lt_of_le h1 hS.1) (fun w => h2 (hA q w))]; exact hS.2.1 q h1 h2, fun q hq => by
      rcases List.mem_append.mp hq with h | h
      · exact hS.2.2 q h
      · exact hA _ (hL q h)⟩ (T'.setVm (T'.vm.noted m.cls x.catchType (.cls ce.cls))) rfl (X'.noted hW')
  exact ⟨t, st t (tw_caught X'.here hfind a1), b1⟩
/-- the first row passes it (its class B isn't above C), the second takes it -/
theorem tw_catch2 {pc hpc : Nat} {ls : Array Slot} {st0 : List Value} {A0 : Nat → Prop} {own B : String} {x y : ExceptionTableEntry} {rows : List ExceptionTableEntry} (hr : tw_Run p l e R s m args below meth c H locs cells slots mc ms (F0 m pc ls st0) rest C A)
    (hS : va_S A0 s.heap H locs) (hA : ∀ q, A q → A0 q) (hown : s.vm.findClass own = some m.cls) (htab : c.exceptionTable.toList = y :: x :: rows) (hcovy : covers y pc = true) (h0y : y.catchType ≠ 0) (hcov : covers x pc = true) (h0 : x.catchType ≠ 0) (hpe : x.handlerPc = hpc)
    (hlinky : (Cond.classLink own y.catchType B).before args s = true) (hnot : va_Nc C B s) (hlink : (Cond.classLink own x.catchType C).before args s = true) (hcast : (Cond.castable C C).before args s = true)
    (kk : ∀ (a : Nat) (H1 : Heap) (locs1 : List Loc), H.size ≤ H1.size → (∀ q : Nat, q < H.size → ¬ A q → H1[q]? = H[q]?) → va_S A0 s.heap H1 locs1 → W p l e R s m args below meth c H1 locs1 (cells + mc) (slots + ms) Q (F0 m hpc ls [.ref a])) :
    W p l e R s m args below meth c H locs cells slots Q (F0 m pc ls st0) := by
  intro T hT X
  obtain ⟨a, T', L, X', hL, ⟨ce, hce, hobj, hcls⟩, ⟨hz, hk⟩, st⟩ := hr T hT X
  have hpl : e.platform.magicAccessors = ({} : Platform).magicAccessors := by rw [X'.admits.platform]
  obtain ⟨k, hk', hcl⟩ := Cond.classLink_spec hown hlink e.platform hpl
  obtain ⟨ky, hky', hcly⟩ := Cond.classLink_spec hown hlinky e.platform hpl
  obtain ⟨k1, k2, g1, g2, hasg⟩ := Cond.castable_spec hcast
  cases g1.symm.trans g2
  cases hk'.symm.trans g1
  have hal := X'.warmed.alike
  have hcls' : s.vm.findClass C = some ce.cls := by rw [← hal.findClass]; exact hcls
  cases hcls'.symm.trans hk'
  obtain ⟨n1, n2, hn1, hn2, hno⟩ := hnot
  cases hcls'.symm.trans hn1
  cases hky'.symm.trans hn2
  obtain ⟨dk, _, _, kt, hd, _, _, _, _, hkt, _, hopen⟩ := hcl.here
  obtain ⟨dky, _, _, kty, hdy, _, _, _, _, hkty, _, hopeny⟩ := hcly.here
  have hW1 : s.WarmedH (T'.vm.noted m.cls y.catchType (.cls ky)) := X'.warmed.noted hdy hopeny (State.rightAt_cls hcly)
  have hW' : s.WarmedH ((T'.vm.noted m.cls y.catchType (.cls ky)).noted m.cls x.catchType (.cls ce.cls)) := hW1.noted hd hopen (State.rightAt_cls hcl)
  obtain ⟨kt', hkt', -⟩ := hal.2.2 _ _ hkt
  obtain ⟨kty', hkty', -⟩ := hal.2.2 _ _ hkty
  obtain ⟨kt2, hkt2, -⟩ := hW1.alike.2.2 _ _ hkt
  have hfind : tw_Finds e ((T'.setTop { F0 m pc ls st0 with stack := rest }).pushFrame (.throwing a)) { F0 m pc ls st0 with stack := rest } a hpc ((T'.vm.noted m.cls y.catchType (.cls ky)).noted m.cls x.catchType (.cls ce.cls)) := by
    intro Q E d acts
    rw [W.findHandler_eq (meth := meth) (code := c) X'.method' X'.code, htab, tw_look (e := e) (S := (T'.setTop { F0 m pc ls st0 with stack := rest }).pushFrame (.throwing a)) (f := { F0 m pc ls st0 with stack := rest }) (k := ky) (cell := ce) hcovy h0y (X'.warmed.classLinks hcly) hce (VmData.ne_statics_of hobj) ⟨kt', hkt'⟩ ⟨kty', hkty'⟩,
      if_neg (by show ¬ T'.vm.assignable ce.cls ky = true; rw [hal.assignable, hno]; decide)]
    refine Iff.trans (tw_look (e := e) (S := ((T'.setTop { F0 m pc ls st0 with stack := rest }).pushFrame (.throwing a)).setVm (T'.vm.noted m.cls y.catchType (.cls ky))) (f := { F0 m pc ls st0 with stack := rest }) (k := ce.cls) (cell := ce) hcov h0 (hW1.classLinks hcl) hce (VmData.ne_statics_of hobj) ⟨kt2, hkt2⟩ ⟨kt2, hkt2⟩) ?_
    rw [hpe, if_pos (by show (T'.vm.noted m.cls y.catchType (.cls ky)).assignable ce.cls ce.cls = true; rw [hW1.alike.assignable]; exact hasg)]
    exact Iff.rfl
  obtain ⟨t, a1, b1⟩ := kk a T'.heap (locs ++ L) hz hk ⟨Nat.le_trans hS.1 hz, fun q h1 h2 => by rw [hk q (Nat.lt_of_lt_of_le h1 hS.1) (fun w => h2 (hA q w))]; exact hS.2.1 q h1 h2, fun q hq => by
      rcases List.mem_append.mp hq with h | h
      · exact hS.2.2 q h
      · exact hA _ (hL q h)⟩ (T'.setVm ((T'.vm.noted m.cls y.catchType (.cls ky)).noted m.cls x.catchType (.cls ce.cls))) rfl (X'.noted hW')
  exact ⟨t, st t (tw_caught X'.here hfind a1), b1⟩
end TWC
section TWS
variable {p : Program} {l : Launch} {e : Env} {R : Room} {s : State} {m : MethodId} {args : Array Value} {below : List Frame} {meth : Method} {c : Code} {H : Heap} {locs : List Loc} {cells slots : Nat}
/-- invokestatic of a method with handlers, which returns -/
theorem tw_runSW {y : MethodName} {bytes cc : ByteArray} {maxL nL mc ms n index : Nat} {ret : Option FieldType} {hh : List (Nat × Nat × Nat × Nat)} {ws : List Cond} {rm : Room} {Pc : Array Value → State → Prop} {Qc : Array Value → State → Outcome → State → Prop} {free : Addr → Prop} {Ts : List Cond} {own : String} {As rest : List Value} {g : JFrame}
    (S : CallFix p m c cc nL s args Ts own) (hM : Met l y ws rm Pc Qc mc ms free) (hrc : rm.cells = mc) (hrs : rm.slots = ms) (hR : rm.frames + 1 ≤ R.frames ∧ 8 + (maxL + 11) + rm.locals ≤ R.locals) (hws : GoodIn Ts ws) (hcw : Cond.codeWith y bytes maxL ret hh ∈ ws)
    (hini : (Cond.initialized y.cls).before args s = true) (hy : y.cls ≠ "java/lang/invoke/MethodHandle" ∧ y.cls ≠ "java/lang/invoke/VarHandle" ∧ (parseMethodDescriptor y.desc).map (fun d => d.parameters.length) = some n) (hl : (Cond.methodLink own index y).before args s = true) (hstt : (Cond.static y).before args s = true)
    (hp : PreS s H Pc As) (hg : g.method = m) (hn : As.length = n) (hsize : g.locals.size = nL) (hstack : g.stack = As.reverse ++ rest) (hW : 2 * g.monitorRoom + (rest.map fun v => v.category).sum ≤ 8) (hdg : decode cc g.pc = .ok (.invokestatic index, 3)) (hf : cells + mc ≤ R.cells ∧ slots + ms ≤ R.slots) :
    va_Run p l e R s m args below meth c H locs cells slots mc ms g rest (Qc As.toArray) free := by
  obtain ⟨hx, hb, hml, ho, hts⟩ := S
  have hcode : (Cond.codeWith y bytes maxL ret hh).before args s = true := hts _ (hws _ hcw).1
  have hK : Back l R p e below s args y 3 8 (PreOf R mc ms Pc) (PostOf Qc mc ms free) := va_backW (hh := hh) (bytes := bytes) (maxL := maxL) (ret := ret) hM hp.1 hrc hrs hR.1 hR.2 (pay_in hts hws) hcw (fun a' U hW => word_at hW (Or.inl (by first | rfl | simp [Cond.onTables, Cond.keeps, Cond.steady])) hini)
  intro T hT X
  obtain ⟨mk, methM, cM, hnamed, hmethM, -, -, -, -, -, -, hsigM⟩ := Cond.codeWith_spec hcode
  have hstatic : methM.isStatic = true := Cond.static_spec hnamed hmethM hstt
  obtain ⟨kP, hkP, -⟩ := className_of_methodNamed hnamed
  have hinitP : kP.init = .initialized := Cond.initialized_spec (findClass_of_methodNamed hnamed) hkP hini
  have hlen : n = methM.sig.parameters.length := by
    have h2 := hy.2.2
    rw [hsigM] at h2
    exact (Option.some.inj h2).symm
  obtain ⟨vm₁, X₁, hstep₁⟩ := X.invokestatic hx ho hl hnamed hmethM hstatic hkP hinitP ⟨hy.1, hy.2.1⟩ (g := g) hg (argsL := As) (rest := rest) (hn.trans hlen) hstack (by rw [hb]; exact hdg)
  obtain ⟨v, ⟨U', l2, c2, s2⟩, X', ⟨g', mk', t, L, e1, e2, hq, h1, hL, h2, h3⟩, st⟩ := hK m meth c ⟨T.setVm vm₁, locs, cells, slots⟩ { g with stack := rest } (.invokestatic index) mk As.toArray X₁ hg (hsize.trans hml.symm) (by rw [hb]; exact hdg) hW (X₁.named hnamed) ⟨hf.1, hf.2, hp.2 (T.setVm vm₁) hT X₁.warmed⟩
  dsimp only [Pt.U, Pt.locs, Pt.cells, Pt.slots] at X' e1 e2 h1 h2 h3 st
  subst h1; subst h2; subst h3
  exact ⟨v, (T.setVm vm₁).calling g' mk' As.toArray, t, U', L, hT, X', hL, e1, e2, hq, fun target h => hstep₁ _ fun acts => by rw [doInvoke_state]; exact st.trans h⟩
end TWS
