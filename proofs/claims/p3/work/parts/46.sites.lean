section EMS
variable {p : Program} {l : Launch} {e : Env} {R : Room} {s : State} {m : MethodId} {args : Array Value} {below : List Frame} {meth : Method} {c : Code} {H : Heap} {locs : List Loc} {cells slots : Nat}
variable {S : Type} {D : va_G} {tys : List (ClassId × FieldType)} {A : Nat → Prop} {W1 : S → va_W} {ok : Option Value → S → Prop} {bad : String → S → Prop}
variable {y : MethodName} {bytes cc : ByteArray} {maxL nL mc ms n index : Nat} {ret : Option FieldType} {ws : List Cond} {rm : Room} {Pc : Array Value → State → Prop} {Ts : List Cond} {own : String} {As rest : List Value} {g : JFrame}
theorem em_runS (Sx : CallFix p m c cc nL s args Ts own) (hM : em_Met l y ws rm Pc D tys A W1 ok bad mc ms) (cw : CallB R s args own index y bytes maxL ret ws rm mc ms n ∧ (Cond.static y).before args s = true) (hp : PreS s H Pc As)
    (hg : g.method = m) (hn : As.length = n) (hsize : g.locals.size = nL) (hstack : g.stack = As.reverse ++ rest) (hW : 2 * g.monitorRoom + (rest.map fun v => v.category).sum ≤ 8) (hdg : decode cc g.pc = .ok (.invokestatic index, 3)) (hf : cells + mc ≤ R.cells ∧ slots + ms ≤ R.slots) :
    em_Run p l e R s m args below meth c H locs cells slots mc ms g rest D tys A W1 ok bad := by
  obtain ⟨⟨hrc, hrs, hfr, hlo, hws, hcw, hcode, hini, hy, hlen, hl⟩, hstt⟩ := cw
  obtain ⟨hx, hb, hml, ho, -⟩ := Sx
  obtain ⟨hbl, hPc⟩ := hp
  intro T hT X
  obtain ⟨mk, hnamed⟩ := Cond.code_named hcode
  obtain ⟨methM, cM, hmethM, -, -, -, -, -, -, hsigM⟩ := Cond.code_spec hnamed hcode
  have hstatic : methM.isStatic = true := Cond.static_spec hnamed hmethM hstt
  obtain ⟨kP, hkP, -⟩ := className_of_methodNamed hnamed
  have hinitP : kP.init = .initialized := Cond.initialized_spec (findClass_of_methodNamed hnamed) hkP hini
  obtain ⟨vm₁, X₁, hstep₁⟩ := X.invokestatic hx ho hl hnamed hmethM hstatic hkP hinitP hy (g := g) hg (argsL := As) (rest := rest) (hn.trans (hlen _ hsigM)) hstack (by rw [hb]; exact hdg)
  obtain ⟨T', L, u, hL, hF, hpo, st⟩ := em_go X₁ hM (a := As.toArray) (fun g mk => hbl _ _ _ _ (hPc (T.setVm vm₁) hT X₁.warmed)) hrc hrs hfr hlo (fun w hw => hws w hw _ _ X₁.warmed) hcw
    (word_at X₁.warmed (Or.inl (by first | rfl | simp [Cond.onTables, Cond.keeps, Cond.steady])) hini) (g := { g with stack := rest }) hg (hsize.trans hml.symm) (by rw [hb]; exact hdg) hW (X₁.named hnamed) hf.1 hf.2
  subst hT
  refine ⟨T', L, u, hL, hF, hpo, ?_⟩
  rcases st with ⟨v, hv, X', st⟩ | ⟨x, C, hbad, hx, X', st⟩
  · exact Or.inl ⟨v, hv, X', fun tg h => hstep₁ _ fun acts => by rw [doInvoke_state]; exact st.trans h⟩
  · exact Or.inr ⟨x, C, hbad, hx, X', fun tg h => hstep₁ _ fun acts => by rw [doInvoke_state]; exact st.trans h⟩
end EMS
theorem nI_int {n : Nat} (h : n < 2 ^ 31) : (nI n).toInt = (n : Int) := by
  rw [show (nI n) = Int32.ofNat n from rfl, Int32.toInt_ofNat_of_lt (by omega)]
theorem dn_ge2 {k n : Nat} (hn : n < 2 ^ 31) (h : ¬ nI k - 1 < nI n) : 1 ≤ k := by
  rcases Nat.eq_zero_or_pos k with rfl | h1
  · refine absurd (Int32.lt_iff_toInt_lt.mpr ?_) h
    rw [nI_int hn, show (nI 0 - 1 : Int32).toInt = -1 by decide]
    omega
  · exact h1
def isw (k v w : Int32) : Int32 := if k = 1 then (if v = w then 1 else 0) else 0

theorem tw_decl {y : MethodName} {b : ByteArray} {n : Nat} {r : Option FieldType} (h1 : Cond.instanceMethod y ∈ G) (h2 : Cond.code y b n r ∈ G) {s : State} {args : Array Value} (hG : ∀ w ∈ G, w.before args s = true) : (Cond.declares y).before args s = true := by
  obtain ⟨mk, methM, hnamed, hmeth, hst, -⟩ := Cond.instanceMethod_spec (hG _ h1)
  obtain ⟨methM', cM, hm', -, -, -, -, -, -, hsig⟩ := Cond.code_spec hnamed (hG _ h2)
  cases hmeth.symm.trans hm'
  simp [Cond.before, Cond.holds, Cond.value, hnamed, hmeth, hst, hsig]
def DECL : List Cond := [.declares ⟨"java/lang/RuntimeException", "<init>", "(Ljava/lang/String;)V"⟩, .declares ⟨"java/lang/Exception", "<init>", "(Ljava/lang/String;)V"⟩, .declares ⟨"java/lang/Throwable", "<init>", "(Ljava/lang/String;)V"⟩]
theorem tw_DECL {s : State} {args : Array Value} (hG : ∀ w ∈ G, w.before args s = true) : ∀ a ∈ DECL, a.before args s = true := by
  intro a ha
  simp only [DECL, List.mem_cons, List.not_mem_nil, or_false] at ha
  rcases ha with rfl | rfl | rfl
  · exact tw_decl k_478 k_479 hG
  · exact tw_decl k_481 k_482 hG
  · exact tw_decl k_484 k_485 hG
theorem tw_at2 {D : va_G} {own X : String} {ic : Nat} {names : List String} {s : State} {args : Array Value} (hX : X ∈ XS) (h : ∀ a ∈ Bundle.ownAtoms own ic X names, a ∈ tw_rest X ++ DECL ∨ a ∈ G) (hG : ∀ w ∈ G, w.before args s = true) (hE : tw_E D s) : ∀ a ∈ Bundle.ownAtoms own ic X names, a.before args s = true := by
  intro a ha
  rcases h a ha with h1 | h1
  · rcases List.mem_append.mp h1 with h1 | h1
    · simp only [tw_rest, List.mem_cons, List.not_mem_nil, or_false] at h1
      rcases h1 with rfl | rfl | rfl | rfl | rfl
      · exact tw_isRef hE.2.1.1.1
      · exact tw_isRef hE.2.1.1.2
      · exact hE.2.1.2.1
      · exact hE.2.1.2.2
      · exact tw_cast (Vm.Alike.refl s.vm) (hE.2.2.1 X hX)
    · exact tw_DECL hG a h1
  · exact hG a h1
theorem tw_at_LX_IAE {D : va_G} {s : State} {args : Array Value} (hG : ∀ w ∈ G, w.before args s = true) (hE : tw_E D s) : ∀ a ∈ Bundle.ownAtoms rn_LX 60 "java/lang/IllegalArgumentException" xnames, a.before args s = true := tw_at2 (by decide) (by decide +kernel) hG hE
theorem tw_at_LX_ISE {D : va_G} {s : State} {args : Array Value} (hG : ∀ w ∈ G, w.before args s = true) (hE : tw_E D s) : ∀ a ∈ Bundle.ownAtoms rn_LX 67 "java/lang/IllegalStateException" xnames, a.before args s = true := tw_at2 (by decide) (by decide +kernel) hG hE
theorem tw_at_RD_ISE {D : va_G} {s : State} {args : Array Value} (hG : ∀ w ∈ G, w.before args s = true) (hE : tw_E D s) : ∀ a ∈ Bundle.ownAtoms rn_RD 95 "java/lang/IllegalStateException" xnames, a.before args s = true := tw_at2 (by decide) (by decide +kernel) hG hE
theorem tw_at_RD_IAE {D : va_G} {s : State} {args : Array Value} (hG : ∀ w ∈ G, w.before args s = true) (hE : tw_E D s) : ∀ a ∈ Bundle.ownAtoms rn_RD 109 "java/lang/IllegalArgumentException" xnames, a.before args s = true := tw_at2 (by decide) (by decide +kernel) hG hE
set_option maxHeartbeats 8000000 in
set_option maxRecDepth 100000 in
theorem lx_add (l : Launch) (D : va_G) (cI cL cZ cC : ClassId) (f : Nat → Nat) (lz : Nat) (lk : Nat → Int32) (lv : Nat → Int32) (a : Int32) (b : Int32) (sz : Nat) (hlz : lz ≤ 100) (hnt : l.stackTraces = false) : em_Met l y_LX_add (wz y_LX_add b_LX_add 3 none) ({ frames := 6, cells := 1, slots := 6, locals := 82 }) (va_Pc [.ref (f 1), .int a, .int b] (tw_pre D (tys4 cI cL cZ cC) [((f 1), .inr (1, [.ref (f 2), .ref (f 3), .int (nI lz)])), ((f 2), .inl (cI, 100, .inl lk)), ((f 3), .inl (cI, 100, .inl lv))] sz)) D (tys4 cI cL cZ cC) (va_A [((f 1), .inr (1, [.ref (f 2), .ref (f 3), .int (nI lz)])), ((f 2), .inl (cI, 100, .inl lk)), ((f 3), .inl (cI, 100, .inl lv))] sz) (fun (u : Nat × (Nat → Int32) × (Nat → Int32)) => [((f 1), .inr (1, [.ref (f 2), .ref (f 3), .int (nI u.1)])), ((f 2), .inl (cI, 100, .inl u.2.1)), ((f 3), .inl (cI, 100, .inl u.2.2))]) (fun v (u : Nat × (Nat → Int32) × (Nat → Int32)) => v = none ∧ (u.1 ≤ 100)) (fun C (u : Nat × (Nat → Int32) × (Nat → Int32)) => (C = "java/lang/IllegalArgumentException" ∨ C = "java/lang/IllegalStateException") ∧ u.1 ≤ 100) 1 6 := by
  refine em_Met.ofW (cc := b_LX_add) (maxL := 3) (ret := none) (by decide) rfl ?_
  intro p e s m args below meth c s₁ B hml hv hno
  obtain ⟨rfl, ⟨hsz, hP, hK, hD0⟩, hE⟩ := hv
  have hx := B.exec
  have hb := B.bytes
  have hr := B.returns
  have hts := atoms_spec (ws := wz y_LX_add b_LX_add 3 none) B.pre
  have hG := wz_G hts
  have hown : s.vm.findClass rn_LX = some m.cls := findClass_of_methodNamed B.named
  have hlocks := B.notSynchronized
  subst hsz
  have hD := hD0.self (sz := s.heap.size)
  have hst := tw_st hP
  generalize hAe : va_A [((f 1), .inr (1, [.ref (f 2), .ref (f 3), .int (nI lz)])), ((f 2), .inl (cI, 100, .inl lk)), ((f 3), .inl (cI, 100, .inl lv))] s.heap.size = A at hD hst ⊢
  have hA : ∀ q : Nat, s.heap.size ≤ q → A q := fun q h => by rw [← hAe]; exact Or.inr h
  have hS : va_S A s.heap s.heap [] := va_S.rf
  have hl := lv_entry ([.ref (f 1), .int a, .int b]) (n := 3) (Nat.le_of_ble_eq_true rfl)
  rw [lg_entry_eq]
  generalize (lg_sl ([.ref (f 1), .int a, .int b]) ++ List.replicate (3 - (lg_sl ([.ref (f 1), .int a, .int b])).length) Slot.unset).toArray = ls at hl ⊢
  have hl : lv_has ls 3 [(0, .ref (f 1)), (1, .int a), (2, .int b)] := hl
  refine lv_aload_n hx hb d_LX_add_0 rfl (lv_at hl 0 rfl) ?_
  refine va_get (D := D) (ci := 1) (v := .int (nI lz)) (C := rn_LX) (T := fl_LX) (N := 3) hx hb hG in_LX hown hK hP 0 rfl rfl 2 (by decide) (hG _ k_146) (fun _ h9 => h9) rfl d_LX_add_1 ?_
  refine lv_bipush (v := 100) hx hb d_LX_add_4 (by decide) ?_
  refine lv_icmp_lt (tgt := 19) hx hb d_LX_add_6 (by decide) (fun hb_1 => ?_) (fun hb_1 => ?_)
  · skip
    have hn_2 : lz < 100 := (nI_ltI (a := lz) (b := 100) (by omega) (by omega)).mp hb_1
    refine lv_aload_n hx hb d_LX_add_19 rfl (lv_at hl 0 rfl) ?_
    refine va_get (D := D) (ci := 1) (v := .ref (f 2)) (C := rn_LX) (T := fl_LX) (N := 3) hx hb hG in_LX hown hK hP 0 rfl rfl 0 (by decide) (hG _ k_144) (fun _ h9 => h9) rfl d_LX_add_20 ?_
    refine lv_aload_n hx hb d_LX_add_23 rfl (lv_at hl 0 rfl) ?_
    refine va_get (D := D) (ci := 1) (v := .int (nI lz)) (C := rn_LX) (T := fl_LX) (N := 3) hx hb hG in_LX hown hK hP 0 rfl rfl 2 (by decide) (hG _ k_146) (fun _ h9 => h9) rfl d_LX_add_24 ?_
    refine lv_iload_n hx hb d_LX_add_27 rfl (lv_at hl 1 rfl) ?_
    refine va_iast hx hb hK hP hD hS 1 0 rfl rfl (vp_in_nI (n := lz) (N := 100) (by omega) (by omega)) d_LX_add_28 (fun H locs hP hD hS => ?_)
    have hP : va_P D classes [((f 1), .inr (1, [.ref (f 2), .ref (f 3), .int (nI lz)])), ((f 2), .inl (cI, 100, .inl (upd lk (nI lz).toNatClampNeg a))), ((f 3), .inl (cI, 100, .inl lv))] H := hP
    have hD : va_D A [((f 1), .inr (1, [.ref (f 2), .ref (f 3), .int (nI lz)])), ((f 2), .inl (cI, 100, .inl (upd lk (nI lz).toNatClampNeg a))), ((f 3), .inl (cI, 100, .inl lv))] := hD
    obtain ⟨g_3, eg_3⟩ : ∃ z, z = upd lk (nI lz).toNatClampNeg a := ⟨_, rfl⟩
    rw [← eg_3] at hP hD
    refine lv_aload_n hx hb d_LX_add_29 rfl (lv_at hl 0 rfl) ?_
    refine va_get (D := D) (ci := 1) (v := .ref (f 3)) (C := rn_LX) (T := fl_LX) (N := 3) hx hb hG in_LX hown hK hP 0 rfl rfl 1 (by decide) (hG _ k_145) (fun _ h9 => h9) rfl d_LX_add_30 ?_
    refine lv_aload_n hx hb d_LX_add_33 rfl (lv_at hl 0 rfl) ?_
    refine va_get (D := D) (ci := 1) (v := .int (nI lz)) (C := rn_LX) (T := fl_LX) (N := 3) hx hb hG in_LX hown hK hP 0 rfl rfl 2 (by decide) (hG _ k_146) (fun _ h9 => h9) rfl d_LX_add_34 ?_
    refine lv_iload_n hx hb d_LX_add_37 rfl (lv_at hl 2 rfl) ?_
    refine va_iast hx hb hK hP hD hS 2 0 rfl rfl (vp_in_nI (n := lz) (N := 100) (by omega) (by omega)) d_LX_add_38 (fun H locs hP hD hS => ?_)
    have hP : va_P D classes [((f 1), .inr (1, [.ref (f 2), .ref (f 3), .int (nI lz)])), ((f 2), .inl (cI, 100, .inl g_3)), ((f 3), .inl (cI, 100, .inl (upd lv (nI lz).toNatClampNeg b)))] H := hP
    have hD : va_D A [((f 1), .inr (1, [.ref (f 2), .ref (f 3), .int (nI lz)])), ((f 2), .inl (cI, 100, .inl g_3)), ((f 3), .inl (cI, 100, .inl (upd lv (nI lz).toNatClampNeg b)))] := hD
    obtain ⟨g_4, eg_4⟩ : ∃ z, z = upd lv (nI lz).toNatClampNeg b := ⟨_, rfl⟩
    rw [← eg_4] at hP hD
    refine lv_aload_n hx hb d_LX_add_39 rfl (lv_at hl 0 rfl) ?_
    refine lv_dup hx hb d_LX_add_40 rfl ?_
    refine va_get (D := D) (ci := 1) (v := .int (nI lz)) (C := rn_LX) (T := fl_LX) (N := 3) hx hb hG in_LX hown hK hP 0 rfl rfl 2 (by decide) (hG _ k_146) (fun _ h9 => h9) rfl d_LX_add_41 ?_
    refine lv_iconst (v := 1) hx hb d_LX_add_44 (by decide) ?_
    refine lw_iadd (a := lz) (b := 1) hx hb d_LX_add_45 ?_
    refine va_put (D := D) (ci := 1) (v := .int (nI (lz + 1))) (ty := .int) (C := rn_LX) (T := fl_LX) (N := 3) hx hb hG in_LX tt_LX tk_LX nn_LX hown hK hP hD hS 0 rfl rfl 2 (by decide) (hG _ k_146) (fun _ h9 => h9) rfl (by decide +kernel) rfl rfl (Nat.le_of_ble_eq_true rfl) d_LX_add_46 (fun H locs hP hD hS => ?_)
    have hP : va_P D classes [((f 1), .inr (1, [.ref (f 2), .ref (f 3), .int (nI (lz + 1))])), ((f 2), .inl (cI, 100, .inl g_3)), ((f 3), .inl (cI, 100, .inl g_4))] H := hP
    have hD : va_D A [((f 1), .inr (1, [.ref (f 2), .ref (f 3), .int (nI (lz + 1))])), ((f 2), .inl (cI, 100, .inl g_3)), ((f 3), .inl (cI, 100, .inl g_4))] := hD
    exact em_vret hx hb hr hlocks hP hD hK hS (lz + 1, g_3, g_4) [0, 1, 2] (by decide) rfl ⟨rfl, (show (lz + 1) ≤ 100 by omega)⟩ d_LX_add_49
  · skip
    have hn_5 : ¬ lz < 100 := fun h => hb_1 ((nI_ltI (a := lz) (b := 100) (by omega) (by omega)).mpr h)
    obtain ⟨qs, hz⟩ := hE.1 (rn_LX, 65, "too many lexemes") (by decide)
    exact em_throw (names := xnames) hx hb hml hl.1 hnt hlocks hown (by decide +kernel) (by decide +kernel) (tw_at_LX_ISE hG hE) (hG _ k_560) (hG _ k_121) hz hno hP hD hK hS hA hst (lz, lk, lv) [0, 1, 2] (by decide) rfl ⟨(Or.inr rfl), (show lz ≤ 100 by omega)⟩ (Nat.le_of_ble_eq_true rfl) (Nat.le_of_ble_eq_true rfl) (Nat.le_of_ble_eq_true rfl) (Nat.le_of_ble_eq_true rfl) d_LX_add_9 d_LX_add_12 d_LX_add_13 d_LX_add_15 d_LX_add_18
