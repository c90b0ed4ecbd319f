/-! What a method that throws needs of its start: the literals, the statics of Throwable, what is castable. -/
def xnames : List String := ["java/lang/RuntimeException", "java/lang/Exception"]
def XS : List String := ["java/lang/IllegalArgumentException", "java/lang/IllegalStateException", "java/lang/UnsupportedOperationException", "java/lang/IndexOutOfBoundsException"]
def NCP : List (String × String) := [("java/lang/IllegalStateException", "java/lang/IllegalArgumentException"), ("java/lang/UnsupportedOperationException", "java/lang/IllegalArgumentException"), ("java/lang/UnsupportedOperationException", "java/lang/IllegalStateException")]
/-- a static of Throwable's: laid, and holding a reference or null -/
def tw_Z0 (n d : String) (U : State) (H : Heap) : Prop := va_Zq Bundle.tN n d (fun _ => False) U H
def tw_L0 (n d : String) (U : State) : Prop := (Cond.laysStatic Bundle.tN n d).before #[] U = true
def tw_Zs (U : State) : Prop := (tw_Z0 "UNASSIGNED_STACK" Bundle.steD U U.heap ∧ tw_Z0 "SUPPRESSED_SENTINEL" Bundle.listD U U.heap) ∧ tw_L0 "UNASSIGNED_STACK" Bundle.steD U ∧ tw_L0 "SUPPRESSED_SENTINEL" Bundle.listD U
/-- the class's two static tables of numbers: where they lie is kept in D -/
def tw_N (D : va_G) (U : State) : Prop := va_Z rn_MC "NEEDED" "[I" (.ref (D.2 100 0)) (fun _ => False) U U.heap ∧ va_Z rn_MC "NEW_CELLS" "[I" (.ref (D.2 100 1)) (fun _ => False) U U.heap
def tw_E (D : va_G) (U : State) : Prop := (∀ x ∈ LITS, ∃ q, vk_R x.1 x.2.1 x.2.2 q U) ∧ tw_Zs U ∧ (∀ X ∈ XS, (Cond.castable X X).before #[] U = true) ∧ (∀ q ∈ NCP, va_Nc q.1 q.2 U) ∧ tw_N D U
def tw_pre (D : va_G) (tys : List (ClassId × FieldType)) (W0 : va_W) (sz : Nat) (U : State) : Prop := wp_pre D tys W0 sz U ∧ tw_E D U
theorem tw_st {D : va_G} {W0 : va_W} {H : Heap} (hP : va_P D classes W0 H) : ∀ (q : Nat) (cell : Cell), va_A W0 H.size q → H[q]? = some cell → cell.vm.isStatics = false := by
  intro q cell hA hc
  rcases hA with ⟨k, e, hk⟩ | h
  · have h1 := hP k (q, e) hk
    cases e with
    | inl a =>
      have h2 : H[q]? = some (vp_cell a.1 a.2) := h1
      rw [hc] at h2
      obtain rfl := Option.some.inj h2
      obtain ⟨cA, n, z⟩ := a
      rcases z with f | f | f | f | f <;> rfl
    | inr o =>
      obtain ⟨r, -, cell', q1, q2, q3, -⟩ := h1
      have q1' : H[q]? = some cell' := q1
      rw [hc] at q1'
      obtain rfl := Option.some.inj q1'
      rw [q3]
      rfl
  · have := (Array.getElem?_eq_some_iff.mp hc).1
    omega
section TWE
variable {s U : State} {A : Nat → Prop} {H : Heap} {locs : List Loc}
theorem tw_keep (hst : ∀ (q : Nat) (cell : Cell), A q → s.heap[q]? = some cell → cell.vm.isStatics = false) (hS : va_S A s.heap H locs) {a : Nat} {cell : Cell} (h : s.heap[a]? = some cell) (hi : cell.vm.isStatics = true) : H[a]? = some cell := by
  have hlt := (Array.getElem?_eq_some_iff.mp h).1
  have hnA : ¬ A a := fun q => by
    have := hst a cell q h
    rw [hi] at this
    cases this
  rw [hS.2.1 a hlt hnA]
  exact h
theorem tw_Z1 {C n d : String} {v : Value} (h : va_Z C n d v (fun _ => False) s s.heap) (hst : ∀ (q : Nat) (cell : Cell), A q → s.heap[q]? = some cell → cell.vm.isStatics = false) (hS : va_S A s.heap H locs) (hvm : s.vm.Alike U.vm) (hU : U.heap = H) : va_Z C n d v (fun _ => False) U U.heap := by
  obtain ⟨cf, kf, fi, f, a, cell, h1, h2, h3, h4, h5, h6, h7, h8⟩ := h
  rw [hU]
  exact va_Z.moved hvm ⟨cf, kf, fi, f, a, cell, h1, h2, h3, h4, tw_keep hst hS h5 h6, h6, h7, h8⟩
theorem tw_Zq1 {n d : String} (h : tw_Z0 n d s s.heap) (hst : ∀ (q : Nat) (cell : Cell), A q → s.heap[q]? = some cell → cell.vm.isStatics = false) (hS : va_S A s.heap H locs) (hvm : s.vm.Alike U.vm) (hU : U.heap = H) : tw_Z0 n d U U.heap := by
  rcases h with h | ⟨t, h⟩
  · exact Or.inl (tw_Z1 h hst hS hvm hU)
  · exact Or.inr ⟨t, tw_Z1 h hst hS hvm hU⟩
theorem tw_L1 {n d : String} (h : tw_L0 n d s) (hst : ∀ (q : Nat) (cell : Cell), A q → s.heap[q]? = some cell → cell.vm.isStatics = false) (hS : va_S A s.heap H locs) (hvm : s.vm.Alike U.vm) (hU : U.heap = H) : tw_L0 n d U := by
  obtain ⟨c, k, i, f, a, cell, hc, hi, hs, ha, hcell, hiss, hcls, hlt, hty⟩ := Cond.laysStatic_spec h
  obtain ⟨k', hi', hek⟩ := State.fieldFound?_setVm hvm hi
  exact Cond.laysStatic_of (s := U) (by rw [hvm.findClass]; exact hc) hi' hs (by rw [hek]; exact ha) (by rw [hU]; exact tw_keep hst hS hcell hiss) hiss hcls hlt (by rw [hek]; exact hty)
theorem tw_cast {X Y : String} (hvm : s.vm.Alike U.vm) {a1 a2 : Array Value} (h : (Cond.castable X Y).before a1 s = true) : (Cond.castable X Y).before a2 U = true := by
  obtain ⟨c, t, h1, h2, h3⟩ := Cond.castable_spec h
  have g1 : U.vm.findClass X = some c := by rw [hvm.findClass]; exact h1
  have g2 : U.vm.findClass Y = some t := by rw [hvm.findClass]; exact h2
  have g3 : U.vm.assignable c t = true := by rw [hvm.assignable]; exact h3
  simp [Cond.before, Cond.holds, Cond.value, g1, g2, g3]
theorem tw_E.to {D : va_G} (h : tw_E D s) (hst : ∀ (q : Nat) (cell : Cell), A q → s.heap[q]? = some cell → cell.vm.isStatics = false) (hS : va_S A s.heap H locs) (hW : s.WarmedH U.vm) (hU : U.heap = H) : tw_E D U :=
  ⟨fun x hx => by obtain ⟨q, hq⟩ := h.1 x hx; exact ⟨q, vk_R.warm hW hq⟩, ⟨⟨tw_Zq1 h.2.1.1.1 hst hS hW.alike hU, tw_Zq1 h.2.1.1.2 hst hS hW.alike hU⟩, tw_L1 h.2.1.2.1 hst hS hW.alike hU, tw_L1 h.2.1.2.2 hst hS hW.alike hU⟩, fun X hX => tw_cast hW.alike (h.2.2.1 X hX), fun q hq => (h.2.2.2.1 q hq).moved hW.alike, tw_Z1 h.2.2.2.2.1 hst hS hW.alike hU, tw_Z1 h.2.2.2.2.2 hst hS hW.alike hU⟩
theorem tw_E.calling {D : va_G} (h : tw_E D U) (g : JFrame) (mk : MethodId) (a : Array Value) : tw_E D (U.calling g mk a) :=
  ⟨fun x hx => by obtain ⟨z, hz⟩ := h.1 x hx; exact ⟨z, vk_R.same (u := U) rfl hz⟩, ⟨⟨va_Zq.moved (u := U) (U := U.calling g mk a) (Vm.Alike.refl U.vm) h.2.1.1.1, va_Zq.moved (u := U) (U := U.calling g mk a) (Vm.Alike.refl U.vm) h.2.1.1.2⟩, h.2.1.2.1, h.2.1.2.2⟩, h.2.2.1, fun q hq => (h.2.2.2.1 q hq).moved (u := U) (U := U.calling g mk a) (Vm.Alike.refl U.vm), va_Z.moved (u := U) (U := U.calling g mk a) (Vm.Alike.refl U.vm) h.2.2.2.2.1, va_Z.moved (u := U) (U := U.calling g mk a) (Vm.Alike.refl U.vm) h.2.2.2.2.2⟩
end TWE
section TWV
variable {s : State} {H : Heap} {locs : List Loc} {D : va_G} {A : Nat → Prop} {tys : List (ClassId × FieldType)} {ws W0 : va_W} {As : List Value}
theorem tw_blind {av : List Value} {sz : Nat} : FrameBlind (va_Pc av (tw_pre D tys W0 sz)) := fun a U g mk q =>
  ⟨q.1, (wp_blind (av := av) a U g mk ⟨q.1, q.2.1⟩).2, q.2.2.calling g mk a⟩
theorem tw_S (hP : va_P D classes ws H) (hD : va_D A ws) (hK : va_K D classes tys s) (hE : tw_E D s) (hst : ∀ (q : Nat) (cell : Cell), A q → s.heap[q]? = some cell → cell.vm.isStatics = false) (hS : va_S A s.heap H locs) (isC : List Nat) (hC : isC.map (fun i => ws[i]?) = W0.map some) (hn : va_nd isC = true) :
    PreS s H (va_Pc As (tw_pre D tys W0 H.size)) As :=
  ⟨tw_blind, fun U hU hW => ⟨rfl, ((wp_S (As := As) hP hD hK isC hC hn).2 U hU hW).2, hE.to hst hS hW hU⟩⟩
theorem tw_V {b q0 ci N : Nat} {C : String} {T : u_T} {fs : List Value} (hP : va_P D classes ws H) (hD : va_D A ws) (hK : va_K D classes tys s) (hE : tw_E D s) (hst : ∀ (q : Nat) (cell : Cell), A q → s.heap[q]? = some cell → cell.vm.isStatics = false) (hS : va_S A s.heap H locs) (hc : classes[ci]? = some (C, T, N)) (he : ws[q0]? = some (b, .inr (ci, fs))) (isC : List Nat) (hC : isC.map (fun i => ws[i]?) = W0.map some) (hn : va_nd isC = true) :
    PreV s H C b (va_Pc (.ref b :: As) (tw_pre D tys W0 H.size)) As :=
  ⟨tw_blind, va_recv hK hP hc he, (tw_S (As := .ref b :: As) hP hD hK hE hst hS isC hC hn).2⟩
end TWV
theorem tw_isRef {C n d : String} {A : Nat → Prop} {s : State} {args : Array Value} (h : va_Zq C n d A s s.heap) : (Cond.isRef (.static C n d)).before args s = true := by
  rcases h with ⟨cf, kf, fi, f, a, cell, h1, h2, h3, h4, h5, h6, h7, h8⟩ | ⟨t, cf, kf, fi, f, a, cell, h1, h2, h3, h4, h5, h6, h7, h8⟩ <;>
    simp [Cond.before, Cond.holds, Cond.value, Term.eval, State.fieldNamed?, h1, h2, h4, h5, h6, h7]
/-- the words on exceptions that aren't of the tables alone -/
def tw_rest (X : String) : List Cond := [.isRef (.static Bundle.tN "UNASSIGNED_STACK" Bundle.steD), .isRef (.static Bundle.tN "SUPPRESSED_SENTINEL" Bundle.listD), .laysStatic Bundle.tN "UNASSIGNED_STACK" Bundle.steD, .laysStatic Bundle.tN "SUPPRESSED_SENTINEL" Bundle.listD, .castable X X]
theorem tw_at {D : va_G} {own X : String} {ic : Nat} {names : List String} {s : State} {args : Array Value} (hX : X ∈ XS) (h : ∀ a ∈ Bundle.ownAtoms own ic X names, a ∈ tw_rest X ∨ a ∈ G) (hG : ∀ w ∈ G, w.before args s = true) (hE : tw_E D s) : ∀ a ∈ Bundle.ownAtoms own ic X names, a.before args s = true := by
  intro a ha
  rcases h a ha with h1 | h1
  · simp only [tw_rest, List.mem_cons, List.not_mem_nil, or_false] at h1
    rcases h1 with rfl | rfl | rfl | rfl | rfl
    · exact tw_isRef hE.2.1.1.1
    · exact tw_isRef hE.2.1.1.2
    · exact hE.2.1.2.1
    · exact hE.2.1.2.2
    · exact tw_cast (Vm.Alike.refl s.vm) (hE.2.2.1 X hX)
  · exact hG a h1
theorem wp_nil {D : va_G} {H : Heap} : va_P D classes [] H := fun k q h => by simp at h
theorem wd_nil {A : Nat → Prop} : va_D A [] := ⟨fun i j p q h => by simp at h, fun k q h => by simp at h⟩
