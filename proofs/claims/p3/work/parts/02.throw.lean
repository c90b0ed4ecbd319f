/-! Methods that throw: contracts (tw_Met), 'throw new X("..")', calls of such methods, and their catching. -/
/-- how a method's end lies to its start: the tables warmer, nothing moved but the slots L and new cells -/
def tw_FE (st t : State) (L : List Loc) (k n : Nat) : Prop := st.WarmedH t.vm ∧ st.sameButNew ({ t with vm := st.vm } : State) L k n
/-- an object of the class C lies at x -/
def tw_Ex (C : String) (x : Nat) (v : Vm) (H : Heap) : Prop := ∃ ce : Cell, H[x]? = some ce ∧ ce.vm.isStatics = false ∧ v.findClass C = some ce.cls
/-- the contract of a method that throws an object of the class C, and writes only in A -/
def tw_Met (l : Launch) (y : MethodName) (ws : List Cond) (rm : Room) (Pc : Array Value → State → Prop) (C : String) (A : Nat → Prop) (mc ms : Nat) : Prop :=
  MetFree l y (headSpec ws rm) Pc (fun _ _ _ _ _ => True) (fun _ st o t => (∃ x, o = .threw x ∧ tw_Ex C x t.vm t.heap) ∧ ∃ L, tw_FE st t L mc ms ∧ ∀ q ∈ L, A q.base)
/-- where the walk of such a method comes to -/
def tw_MQ (below : List Frame) (C : String) (A : Nat → Prop) (s : State) (mc ms : Nat) : State → Prop := fun t =>
  ∃ x, t.status = .running ∧ Ended t below (.threw x) ∧ tw_Ex C x t.vm t.heap ∧ ∃ L, tw_FE s t L mc ms ∧ ∀ q ∈ L, A q.base
theorem tw_F {st t : State} {L : List Loc} {k n : Nat} {A : Nat → Prop} (h : tw_FE st t L k n) (hL : ∀ q ∈ L, A q.base) : va_F A st t := by
  refine ⟨h.2.2.1, fun q hq hA => ?_⟩
  obtain ⟨c0, hc⟩ : ∃ c0, st.heap[q]? = some c0 := ⟨_, Array.getElem?_eq_getElem hq⟩
  obtain ⟨c', h1, h2, h3, h4⟩ := h.2.2.2.2.2.2 q c0 hc
  have h1' : t.heap[q]? = some c' := h1
  have hs : c'.slots = c0.slots := Array.ext_getElem? (fun i => h4 i (fun hm => hA (hL _ hm)))
  rw [hc, h1', h2, hs]
section TWM
variable {l : Launch}
theorem tw_Met.ofW {y : MethodName} {ws ws' : List Cond} {rm : Room} {Pc : Array Value → State → Prop} {C : String} {A : Nat → Prop} {mc ms : Nat} {cc : ByteArray} {maxL : Nat} {ret : Option FieldType}
    (hy : plainName y.cls = true) (hw : ws = Cond.code y cc maxL ret :: ws')
    (body : ∀ p e s m args below meth c s₁, BodyLoose p l y (headSpec ws rm) cc maxL ret e s m args below meth c s₁ → c.maxLocals = maxL → Pc args s → c.exceptionTable.isEmpty = true →
      W p l e (headSpec ws rm).room s m args below meth c s.heap [] 0 0 (tw_MQ below C A s mc ms) (entryFrame m args maxL)) : tw_Met l y ws rm Pc C A mc ms := by
  refine MetFree.of_bodyS (code := cc) (maxLocals := maxL) (ret := ret) hy ?_ ?_
  · intro args s m h hn
    obtain ⟨meth, c, h1, h2, h3, h4, h5, h6, -, -⟩ := Cond.code_spec hn (atoms_spec (ws := ws) h _ (by rw [hw]; exact List.mem_cons_self))
    exact ⟨meth, c, h1, h2, h3, h4, h5, h6⟩
  · intro p e s m args below meth c s₁ B hml hP _
    have hh0 : s₁.heap = s.heap := by rw [B.state]; rfl
    have hex : c.exceptionTable.isEmpty = true := B.noHandlers (atoms_spec (ws := ws) B.pre _ (by rw [hw]; exact List.mem_cons_self))
    obtain ⟨t, a1, x, b1, b2, b3, b4⟩ := body p e s m args below meth c s₁ B hml hP hex s₁ hh0 (Stand.of_body B)
    exact ⟨t, .threw x, a1, b1, b2, ⟨x, rfl, b3⟩, b4⟩
end TWM
theorem tw_out {c : Code} (h : c.exceptionTable.isEmpty = true) (pc : Nat) : ∀ x ∈ c.exceptionTable.toList, covers x pc = false := by
  have h0 : c.exceptionTable.size = 0 := by simpa [Array.isEmpty] using h
  have h1 : c.exceptionTable.toList = [] := List.eq_nil_of_length_eq_zero (by simpa using h0)
  intro x hx
  rw [h1] at hx
  cases hx
section TWT
variable {p : Program} {l : Launch} {e : Env} {R : Room} {s : State} {m : MethodId} {args : Array Value} {below : List Frame} {meth : Method} {c : Code} {H : Heap} {locs : List Loc} {cells slots : Nat} {Q : State → Prop}
/-- throw new X("..") with nothing else on the stack, in a method without handlers -/
theorem tw_throw {cc : ByteArray} {pc nL : Nat} {ls : Array Slot} {A : Nat → Prop} (hexec : p.tables.exec = Jvm.exec) (hb : c.code = cc) (hml : c.maxLocals = nL) (hls : ls.size = nL) (hnt : l.stackTraces = false) (hlocks : meth.locks = false)
    {own X tx : String} {names : List String} {i ic k q : Nat} (hown : s.vm.findClass own = some m.cls) (hX : Bundle.fit X = true) (hnames : ∀ n ∈ names, Bundle.fit n = true)
    (hat : ∀ a ∈ Bundle.ownAtoms own ic X names, a.before args s = true) (hcl : (Cond.classLink own i X).before args s = true) (hini : (Cond.initialized X).before args s = true) (hZ : vk_R own k tx q s) (hno : c.exceptionTable.isEmpty = true)
    (hS : va_S A s.heap H locs) (hA : ∀ q, s.heap.size ≤ q → A q) (hst : ∀ (q : Nat) (cell : Cell), A q → s.heap[q]? = some cell → cell.vm.isStatics = false)
    (hR1 : names.length + 3 < R.frames) (hR2 : 13 * (names.length + 1) + 43 ≤ R.locals) (hc : cells + 1 ≤ R.cells) (hs : slots + 6 ≤ R.slots)
    (d1 : decode cc pc = .ok (.new i, 3)) (d2 : decode cc (pc + 3) = .ok (.dup, 1)) (d3 : decode cc (pc + 3 + 1) = .ok (.ldc k, 2)) (d4 : decode cc (pc + 3 + 1 + 2) = .ok (.invokespecial ic, 3)) (d5 : decode cc (pc + 3 + 1 + 2 + 3) = .ok (.athrow, 1)) :
    W p l e R s m args below meth c H locs cells slots (tw_MQ below X A s (cells + 1) (slots + 6)) (F0 m pc ls []) := by
  refine W.newc hexec hb hown hcl (hat (.instantiable X 6) (by simp [Bundle.ownAtoms])) hini rfl d1 hc hs (fun cC kC h1 h2 _ _ => ?_)
  refine W.eq (g2 := F0 m (pc + 3) ls [.ref H.size]) rfl ?_
  refine lv_dup hexec hb d2 rfl ?_
  refine va_ldcS hexec hb hown hZ d3 ?_
  intro T hT Xs
  have htr : e.platform.stackTraces = false := by
    have := Xs.admits.2.2.2.2.1
    rw [this]
    exact hnt
  obtain ⟨U, st, run, ended, warm, same, ce, hce, K⟩ := Xs.ctorThrowS hexec htr hown hX hnames hat (fun y hy cell hcell => hst _ cell (hS.2.2 y hy) hcell) (a := H.size) h1 h2 (by rw [hT]; simp) hS.1 (msg := .ref q) rfl (g := F0 m (pc + 3 + 1 + 2) ls [.ref q, .ref H.size, .ref H.size]) rfl (hls.trans hml.symm) rfl rfl (rest := []) rfl
    (by rw [hb]; exact d4) (by rw [hb]; exact d5) (tw_out hno _) hR1 (by show 2 * 0 + 1 + _ ≤ _; omega) hlocks
  exact ⟨U, st, H.size, run, ended, ⟨ce, hce, by rw [K.vm]; rfl, by rw [warm.alike.findClass]; exact K.cls⟩, locs, ⟨warm, same⟩, hS.2.2⟩
end TWT
section TWG
variable {p : Program} {l : Launch} {e : Env} {R : Room} {s : State} {m : MethodId} {args : Array Value} {below : List Frame} {meth : Method} {c : Code} {H : Heap} {locs : List Loc} {cells slots : Nat} {Q : State → Prop}
/-- a call of a method that throws: to the state in which its exception lies over the caller's frame -/
theorem tw_go {U : State} (X : Stand p l e R s m args below meth c U locs cells slots) {y : MethodName} {ws : List Cond} {rm : Room} {Pc : Array Value → State → Prop} {C : String} {A : Nat → Prop} {mc ms maxL len : Nat} {bytes : ByteArray} {ret : Option FieldType} {a : Array Value}
    (hM : tw_Met l y ws rm Pc C A mc ms) (hPc : ∀ (g : JFrame) (mk : MethodId), Pc a (U.calling g mk a)) (hrc : rm.cells = mc) (hrs : rm.slots = ms) (hframes : rm.frames + 1 ≤ R.frames) (hlocals : 8 + (maxL + 11) + rm.locals ≤ R.locals)
    (hws : ∀ w ∈ ws, w.before a U = true) (hcode : Cond.code y bytes maxL ret ∈ ws) (hinit : (Cond.initialized y.cls).before a U = true)
    {g : JFrame} (hg : g.method = m) (hsize : g.locals.size = c.maxLocals) {ig : Instr} (hdg : decode c.code g.pc = .ok (ig, len)) (hW : 2 * g.monitorRoom + (g.stack.map fun v => v.category).sum ≤ 8) {mk : MethodId} (hn : U.methodNamed? y = some mk)
    (hcells : cells + mc ≤ R.cells) (hslots : slots + ms ≤ R.slots) :
    ∃ (x : Nat) (T' : State) (L : List Loc), Stand p l e R s m args below meth c T' (locs ++ L) (cells + mc) (slots + ms) ∧ (∀ q ∈ L, A q.base) ∧ tw_Ex C x T'.vm T'.heap ∧ va_F A U T' ∧ Steps p.tables e below (doInvoke e (U.setTop g) [] mk a).1 ((T'.setTop g).pushFrame (.throwing x)) := by
  obtain ⟨methY, cY, hmY, hcY, -, hlY, -, -, -, -⟩ := Cond.code_spec hn (hws _ hcode)
  obtain ⟨kY, hkY, -⟩ := className_of_methodNamed hn
  have hinitY : kY.init = .initialized := Cond.initialized_spec (findClass_of_methodNamed hn) hkY hinit
  have h : At U g.method c below := by rw [hg]; exact X.here
  have happ : (headSpec ws rm).appliesLoose y e.platform (U.calling g mk a) = true :=
    Spec.appliesLoose_calling (g := g) h hdg hn hkY hinitY
      (X.room_calling (g := g) (R' := rm) hsize hmY hcY hframes (by rw [hlY]; omega) (by rw [hrc]; exact hcells) (by rw [hrs]; exact hslots)) (atoms_intro hws)
  obtain ⟨mid, hmid⟩ := h.above
  have hfr : (U.setTop g).frames = (.java g :: mid) ++ below := by rw [State.frames_setTop' g h.top, hmid]; rfl
  obtain ⟨o, s₂, hsteps, -, hend, ⟨x, rfl, hx⟩, L, hfe, hL⟩ := Steps.callFree hM p X.admits X.cas X.clock (acts := []) hfr happ (hPc g mk) trivial
  rw [State.frames_setTop' g h.top, X.tail] at hend
  obtain ⟨T', X', hW', hsame, ht⟩ := X.outOfThrown hg (mk := mk) (a := a) hend hfe.1 hfe.2
  have e1 : s₂.heap = T'.heap := by rw [ht]; exact Stand.throwing_heap T' g x
  have e2 : s₂.vm = T'.vm := by rw [ht]; exact Stand.throwing_vm T' g x
  refine ⟨x, T', L, X', hL, ?_, ?_, by rw [← ht]; exact hsteps⟩
  · rw [← e1, ← e2]; exact hx
  · exact tw_F (st := U) (t := T') (L := L) (k := mc) (n := ms) ⟨hW', hsame⟩ hL
/-- a call that throws, seen from the caller -/
def tw_Run (p : Program) (l : Launch) (e : Env) (R : Room) (s : State) (m : MethodId) (args : Array Value) (below : List Frame) (meth : Method) (c : Code) (H : Heap) (locs : List Loc) (cells slots mc ms : Nat) (g : JFrame) (rest : List Value) (C : String) (A : Nat → Prop) : Prop :=
  ∀ T : State, T.heap = H → Stand p l e R s m args below meth c T locs cells slots → ∃ (x : Nat) (T' : State) (L : List Loc), Stand p l e R s m args below meth c T' (locs ++ L) (cells + mc) (slots + ms) ∧ (∀ q ∈ L, A q.base) ∧ tw_Ex C x T'.vm T'.heap ∧
    (H.size ≤ T'.heap.size ∧ ∀ q : Nat, q < H.size → ¬ A q → T'.heap[q]? = H[q]?) ∧ ∀ tg, Steps p.tables e below ((T'.setTop { g with stack := rest }).pushFrame (.throwing x)) tg → Steps p.tables e below (T.setTop g) tg
variable {y : MethodName} {bytes cc : ByteArray} {maxL nL mc ms n index : Nat} {ret : Option FieldType} {ws : List Cond} {rm : Room} {Pc : Array Value → State → Prop} {C : String} {A : Nat → Prop} {Ts : List Cond} {own C0 : String} {b : Addr} {As rest : List Value} {g : JFrame}
theorem tw_runV (S : CallFix p m c cc nL s args Ts own) (hM : tw_Met l y ws rm Pc C A mc ms) (cw : CallW R s args own C0 index y bytes maxL ret ws rm mc ms n) (hp : PreV s H C0 b Pc As)
    (hg : g.method = m) (hn : As.length = n) (hsize : g.locals.size = nL) (hstack : g.stack = As.reverse ++ .ref b :: rest) (hW : 2 * g.monitorRoom + (rest.map fun v => v.category).sum ≤ 8) (hdg : decode cc g.pc = .ok (.invokevirtual index, 3)) (hf : cells + mc ≤ R.cells ∧ slots + ms ≤ R.slots) :
    tw_Run p l e R s m args below meth c H locs cells slots mc ms g rest C A := by
  obtain ⟨⟨hrc, hrs, hfr, hlo, hws, hcw, hcode, hini, hy, hlen, hl⟩, hin, hse⟩ := cw
  obtain ⟨hx, hb, hml, ho, -⟩ := S
  obtain ⟨hbl, ⟨cellB, hcB, hoB, hclB⟩, hPc⟩ := hp
  intro T hT X
  obtain ⟨mk, methM, hnamed, hmethM, hstM, habM⟩ := Cond.instanceMethod_spec hin
  obtain ⟨methM', cM, hmethM', -, -, -, -, -, -, hsigM⟩ := Cond.code_spec hnamed hcode
  cases hmethM.symm.trans hmethM'
  obtain ⟨c2, r2, m2, q1, q2, q3, q4, kP, hkP, hkPi⟩ := Cond.selects_spec hse
  cases hclB.symm.trans q1
  cases (State.methodFound?_of_named hnamed hy).symm.trans q2
  cases hnamed.symm.trans q3
  have hselP : selectMethod e.platform s.vm cellB.cls mk = .method mk := by rw [Launch.admits_selectMethod X.admits]; exact q4
  obtain ⟨vm₁, X₁, hstep₁⟩ := X.invokevirtual hx ho hl hnamed hmethM hstM hkP hkPi hy (a := b) (cell := cellB) (by rw [hT]; exact hcB)
    (fun z h => by rw [h] at hoB; cases hoB) hselP hmethM habM hkP hkPi (g := g) hg (argsL := As) (rest := rest) (hn.trans (hlen _ hsigM)) hstack (by rw [hb]; exact hdg)
  obtain ⟨x, T', L, X', hL, hxx, hF, st⟩ := tw_go X₁ hM (a := (Value.ref b :: As).toArray) (fun g mk => hbl _ _ _ _ (hPc (T.setVm vm₁) hT X₁.warmed)) hrc hrs hfr hlo (fun w hw => hws w hw _ _ X₁.warmed) hcw
    (word_at X₁.warmed (Or.inl (by first | rfl | simp [Cond.onTables, Cond.keeps, Cond.steady])) hini) (g := { g with stack := rest }) hg (hsize.trans hml.symm) (by rw [hb]; exact hdg) hW (X₁.named hnamed) hf.1 hf.2
  subst hT
  exact ⟨x, T', L, X', hL, hxx, hF, fun tg h => hstep₁ _ fun acts => by rw [doInvoke_state]; exact st.trans h⟩
/-- the exception goes on out of the caller -/
theorem tw_leave {pc : Nat} {ls : Array Slot} {st0 : List Value} {A0 : Nat → Prop} (hr : tw_Run p l e R s m args below meth c H locs cells slots mc ms (F0 m pc ls st0) rest C A) (hloc : ∀ q ∈ locs, A0 q.base) (hA : ∀ q, A q → A0 q) (hno : c.exceptionTable.isEmpty = true) (hlocks : meth.locks = false) :
    W p l e R s m args below meth c H locs cells slots (tw_MQ below C A0 s (cells + mc) (slots + ms)) (F0 m pc ls st0) := by
  intro T hT X
  obtain ⟨x, T', L, X', hL, hxx, hF, st⟩ := hr T hT X
  obtain ⟨w, run, ended, warm, same⟩ := X'.leaveThrown x (g := { F0 m pc ls st0 with stack := rest }) rfl rfl rfl (tw_out hno _) hlocks
  refine ⟨_, st _ w, x, run, ended, hxx, locs ++ L, ⟨warm, same⟩, fun q hq => ?_⟩
  rcases List.mem_append.mp hq with h | h
  · exact hloc q h
  · exact hA _ (hL q h)
end TWG
