set_option maxHeartbeats 8000000 in
set_option maxRecDepth 100000 in
theorem pp_clear (l : Launch) (D : va_G) (cI cL cZ cC : ClassId) (f : Nat → Nat) (pn : Nat) (pf : Nat → Int32) (pd : Nat → Int32) (sz : Nat) (hnt : l.stackTraces = false) : em_Met l y_PP_clear (wz y_PP_clear b_PP_clear 1 none) ({ frames := 0, cells := 0, slots := 0, locals := 0 }) (va_Pc [.ref (f 26)] (tw_pre D (tys4 cI cL cZ cC) [((f 26), .inr (6, [.ref (f 27), .ref (f 28), .int (nI pn)])), ((f 27), .inl (cC, 200, .inl pf)), ((f 28), .inl (cC, 10, .inl pd))] sz)) D (tys4 cI cL cZ cC) (va_A [((f 26), .inr (6, [.ref (f 27), .ref (f 28), .int (nI pn)])), ((f 27), .inl (cC, 200, .inl pf)), ((f 28), .inl (cC, 10, .inl pd))] sz) (fun (u : Nat × (Nat → Int32) × (Nat → Int32)) => [((f 26), .inr (6, [.ref (f 27), .ref (f 28), .int (nI u.1)])), ((f 27), .inl (cC, 200, .inl u.2.1)), ((f 28), .inl (cC, 10, .inl u.2.2))]) (fun v (u : Nat × (Nat → Int32) × (Nat → Int32)) => v = none ∧ (u.1 = 0)) (fun C (u : Nat × (Nat → Int32) × (Nat → Int32)) => False) 0 0 := by
  refine em_Met.ofW (cc := b_PP_clear) (maxL := 1) (ret := none) (by decide) rfl ?_
  intro p e s m args below meth c s₁ B hml hv hno
  obtain ⟨rfl, ⟨hsz, hP, hK, hD0⟩, hE⟩ := hv
  have hx := B.exec
  have hb := B.bytes
  have hr := B.returns
  have hts := atoms_spec (ws := wz y_PP_clear b_PP_clear 1 none) B.pre
  have hG := wz_G hts
  have hown : s.vm.findClass rn_PP = some m.cls := findClass_of_methodNamed B.named
  have hlocks := B.notSynchronized
  subst hsz
  have hD := hD0.self (sz := s.heap.size)
  have hst := tw_st hP
  generalize hAe : va_A [((f 26), .inr (6, [.ref (f 27), .ref (f 28), .int (nI pn)])), ((f 27), .inl (cC, 200, .inl pf)), ((f 28), .inl (cC, 10, .inl pd))] s.heap.size = A at hD hst ⊢
  have hA : ∀ q : Nat, s.heap.size ≤ q → A q := fun q h => by rw [← hAe]; exact Or.inr h
  have hS : va_S A s.heap s.heap [] := va_S.rf
  have hl := lv_entry ([.ref (f 26)]) (n := 1) (Nat.le_of_ble_eq_true rfl)
  rw [lg_entry_eq]
  generalize (lg_sl ([.ref (f 26)]) ++ List.replicate (1 - (lg_sl ([.ref (f 26)])).length) Slot.unset).toArray = ls at hl ⊢
  have hl : lv_has ls 1 [(0, .ref (f 26))] := hl
  refine lv_aload_n hx hb d_PP_clear_0 rfl (lv_at hl 0 rfl) ?_
  refine lv_iconst (v := 0) hx hb d_PP_clear_1 (by decide) ?_
  refine va_put (D := D) (ci := 6) (v := .int 0) (ty := .int) (C := rn_PP) (T := fl_PP) (N := 3) hx hb hG in_PP tt_PP tk_PP nn_PP hown hK hP hD hS 0 rfl rfl 2 (by decide) (hG _ k_299) (fun _ h9 => h9) rfl (by decide +kernel) rfl rfl (Nat.le_of_ble_eq_true rfl) d_PP_clear_2 (fun H locs hP hD hS => ?_)
  have hP : va_P D classes [((f 26), .inr (6, [.ref (f 27), .ref (f 28), .int 0])), ((f 27), .inl (cC, 200, .inl pf)), ((f 28), .inl (cC, 10, .inl pd))] H := hP
  have hD : va_D A [((f 26), .inr (6, [.ref (f 27), .ref (f 28), .int 0])), ((f 27), .inl (cC, 200, .inl pf)), ((f 28), .inl (cC, 10, .inl pd))] := hD
  exact em_vret hx hb hr hlocks hP hD hK hS (0, pf, pd) [0, 1, 2] (by decide) rfl ⟨rfl, (show 0 = 0 by omega)⟩ d_PP_clear_5
set_option maxHeartbeats 8000000 in
set_option maxRecDepth 100000 in
theorem pp_printed (l : Launch) (D : va_G) (cI cL cZ cC : ClassId) (f : Nat → Nat) (pn : Nat) (pf : Nat → Int32) (pd : Nat → Int32) : Met l y_PP_printed (wz y_PP_printed b_PP_printed 1 (some .int)) ({ frames := 0, cells := 0, slots := 0, locals := 0 }) (va_Pc [.ref (f 26)] (wq_pre D (tys4 cI cL cZ cC) [((f 26), .inr (6, [.ref (f 27), .ref (f 28), .int (nI pn)])), ((f 27), .inl (cC, 200, .inl pf)), ((f 28), .inl (cC, 10, .inl pd))])) (QcRead (nI pn)) 0 0 (fun _ => False) := by
  refine Met.ofW (cc := b_PP_printed) (maxL := 1) (ret := (some .int)) (by decide) rfl ?_
  intro p e s m args below meth c s₁ B hml hv
  obtain ⟨rfl, hP, hK⟩ := hv
  have hx := B.exec
  have hb := B.bytes
  have hr := B.returns
  have hts := atoms_spec (ws := wz y_PP_printed b_PP_printed 1 (some .int)) B.pre
  have hG := wz_G hts
  have hown : s.vm.findClass rn_PP = some m.cls := findClass_of_methodNamed B.named
  have hlocks := B.notSynchronized
  have hl := lv_entry ([.ref (f 26)]) (n := 1) (Nat.le_of_ble_eq_true rfl)
  rw [lg_entry_eq]
  generalize (lg_sl ([.ref (f 26)]) ++ List.replicate (1 - (lg_sl ([.ref (f 26)])).length) Slot.unset).toArray = ls at hl ⊢
  have hl : lv_has ls 1 [(0, .ref (f 26))] := hl
  refine lv_aload_n hx hb d_PP_printed_0 rfl (lv_at hl 0 rfl) ?_
  refine va_get (D := D) (ci := 6) (v := .int (nI pn)) (C := rn_PP) (T := fl_PP) (N := 3) hx hb hG in_PP hown hK hP 0 rfl rfl 2 (by decide) (hG _ k_299) (fun _ h9 => h9) rfl d_PP_printed_1 ?_
  exact W.iret hx hb hr (fun t ht hW => ⟨rfl, ht⟩) (fun q h => by cases h) d_PP_printed_4 hlocks
set_option maxHeartbeats 8000000 in
set_option maxRecDepth 100000 in
theorem pp_kept (l : Launch) (D : va_G) (cI cL cZ cC : ClassId) (f : Nat → Nat) (pn : Nat) (pf : Nat → Int32) (pd : Nat → Int32) (sz : Nat) (hpb : pn + 0 < 2147483648) (hnt : l.stackTraces = false) : em_Met l y_PP_kept (wz y_PP_kept b_PP_kept 1 (some .int)) ({ frames := 1, cells := 0, slots := 0, locals := 13 }) (va_Pc [.ref (f 26)] (tw_pre D (tys4 cI cL cZ cC) [((f 26), .inr (6, [.ref (f 27), .ref (f 28), .int (nI pn)])), ((f 27), .inl (cC, 200, .inl pf)), ((f 28), .inl (cC, 10, .inl pd))] sz)) D (tys4 cI cL cZ cC) (va_A [((f 26), .inr (6, [.ref (f 27), .ref (f 28), .int (nI pn)])), ((f 27), .inl (cC, 200, .inl pf)), ((f 28), .inl (cC, 10, .inl pd))] sz) (fun (_ : Unit) => [((f 26), .inr (6, [.ref (f 27), .ref (f 28), .int (nI pn)])), ((f 27), .inl (cC, 200, .inl pf)), ((f 28), .inl (cC, 10, .inl pd))]) (fun v (_ : Unit) => ∃ r : Int32, v = some (.int r) ∧ ((∃ j : Nat, j ≤ 200 ∧ r = nI j))) (fun C (_ : Unit) => False) 0 0 := by
  refine em_Met.ofW (cc := b_PP_kept) (maxL := 1) (ret := (some .int)) (by decide) rfl ?_
  intro p e s m args below meth c s₁ B hml hv hno
  obtain ⟨rfl, ⟨hsz, hP, hK, hD0⟩, hE⟩ := hv
  have hx := B.exec
  have hb := B.bytes
  have hr := B.returns
  have hts := atoms_spec (ws := wz y_PP_kept b_PP_kept 1 (some .int)) B.pre
  have hG := wz_G hts
  have hown : s.vm.findClass rn_PP = some m.cls := findClass_of_methodNamed B.named
  have hlocks := B.notSynchronized
  subst hsz
  have hD := hD0.self (sz := s.heap.size)
  have hst := tw_st hP
  generalize hAe : va_A [((f 26), .inr (6, [.ref (f 27), .ref (f 28), .int (nI pn)])), ((f 27), .inl (cC, 200, .inl pf)), ((f 28), .inl (cC, 10, .inl pd))] s.heap.size = A at hD hst ⊢
  have hA : ∀ q : Nat, s.heap.size ≤ q → A q := fun q h => by rw [← hAe]; exact Or.inr h
  have hS : va_S A s.heap s.heap [] := va_S.rf
  have hl := lv_entry ([.ref (f 26)]) (n := 1) (Nat.le_of_ble_eq_true rfl)
  rw [lg_entry_eq]
  generalize (lg_sl ([.ref (f 26)]) ++ List.replicate (1 - (lg_sl ([.ref (f 26)])).length) Slot.unset).toArray = ls at hl ⊢
  have hl : lv_has ls 1 [(0, .ref (f 26))] := hl
  refine lv_aload_n hx hb d_PP_kept_0 rfl (lv_at hl 0 rfl) ?_
  refine va_get (D := D) (ci := 6) (v := .int (nI pn)) (C := rn_PP) (T := fl_PP) (N := 3) hx hb hG in_PP hown hK hP 0 rfl rfl 2 (by decide) (hG _ k_299) (fun _ h9 => h9) rfl d_PP_kept_1 ?_
  refine lv_sipush (v := 200) hx hb d_PP_kept_4 (by decide) ?_
  refine va_mmin hx hb (by rw [hml]; exact hl.1.symm) hown (hG _ k_1123) (hG _ k_245) (hG _ k_113) (hG _ k_246) (Nat.le_of_ble_eq_true rfl) (Nat.le_of_ble_eq_true rfl) (Nat.le_of_ble_eq_true rfl) (Nat.le_of_ble_eq_true rfl) d_PP_kept_7 ?_
  refine W.eq (g2 := F0 m 10 ls [.int (nI (min pn 200))]) (by rw [show (if (200 : Int32) < (nI pn) then (200 : Int32) else (nI pn)) = nI (min pn 200) from lw_min (x := pn) (y := 200) (by omega) (by omega)]) ?_
  exact em_iret hx hb hr hlocks hP hD hK hS () [0, 1, 2] (by decide) rfl ⟨_, rfl, ⟨min pn 200, (by omega), rfl⟩⟩ d_PP_kept_10
set_option maxHeartbeats 8000000 in
set_option maxRecDepth 100000 in
theorem pp_print (l : Launch) (D : va_G) (cI cL cZ cC : ClassId) (f : Nat → Nat) (pn : Nat) (pf : Nat → Int32) (pd : Nat → Int32) (ch : Int32) (sz : Nat) (hpb : pn + 1 < 2147483648) (hnt : l.stackTraces = false) : em_Met l y_PP_print (wz y_PP_print b_PP_print 2 none) ({ frames := 0, cells := 0, slots := 0, locals := 0 }) (va_Pc [.ref (f 26), .int ch] (tw_pre D (tys4 cI cL cZ cC) [((f 26), .inr (6, [.ref (f 27), .ref (f 28), .int (nI pn)])), ((f 27), .inl (cC, 200, .inl pf)), ((f 28), .inl (cC, 10, .inl pd))] sz)) D (tys4 cI cL cZ cC) (va_A [((f 26), .inr (6, [.ref (f 27), .ref (f 28), .int (nI pn)])), ((f 27), .inl (cC, 200, .inl pf)), ((f 28), .inl (cC, 10, .inl pd))] sz) (fun (u : Nat × (Nat → Int32) × (Nat → Int32)) => [((f 26), .inr (6, [.ref (f 27), .ref (f 28), .int (nI u.1)])), ((f 27), .inl (cC, 200, .inl u.2.1)), ((f 28), .inl (cC, 10, .inl u.2.2))]) (fun v (u : Nat × (Nat → Int32) × (Nat → Int32)) => v = none ∧ (u.1 = pn + 1)) (fun C (u : Nat × (Nat → Int32) × (Nat → Int32)) => False) 0 0 := by
  refine em_Met.ofW (cc := b_PP_print) (maxL := 2) (ret := none) (by decide) rfl ?_
  intro p e s m args below meth c s₁ B hml hv hno
  obtain ⟨rfl, ⟨hsz, hP, hK, hD0⟩, hE⟩ := hv
  have hx := B.exec
  have hb := B.bytes
  have hr := B.returns
  have hts := atoms_spec (ws := wz y_PP_print b_PP_print 2 none) B.pre
  have hG := wz_G hts
  have hown : s.vm.findClass rn_PP = some m.cls := findClass_of_methodNamed B.named
  have hlocks := B.notSynchronized
  subst hsz
  have hD := hD0.self (sz := s.heap.size)
  have hst := tw_st hP
  generalize hAe : va_A [((f 26), .inr (6, [.ref (f 27), .ref (f 28), .int (nI pn)])), ((f 27), .inl (cC, 200, .inl pf)), ((f 28), .inl (cC, 10, .inl pd))] s.heap.size = A at hD hst ⊢
  have hA : ∀ q : Nat, s.heap.size ≤ q → A q := fun q h => by rw [← hAe]; exact Or.inr h
  have hS : va_S A s.heap s.heap [] := va_S.rf
  have hl := lv_entry ([.ref (f 26), .int ch]) (n := 2) (Nat.le_of_ble_eq_true rfl)
  rw [lg_entry_eq]
  generalize (lg_sl ([.ref (f 26), .int ch]) ++ List.replicate (2 - (lg_sl ([.ref (f 26), .int ch])).length) Slot.unset).toArray = ls at hl ⊢
  have hl : lv_has ls 2 [(0, .ref (f 26)), (1, .int ch)] := hl
  refine lv_aload_n hx hb d_PP_print_0 rfl (lv_at hl 0 rfl) ?_
  refine va_get (D := D) (ci := 6) (v := .int (nI pn)) (C := rn_PP) (T := fl_PP) (N := 3) hx hb hG in_PP hown hK hP 0 rfl rfl 2 (by decide) (hG _ k_299) (fun _ h9 => h9) rfl d_PP_print_1 ?_
  refine lv_sipush (v := 200) hx hb d_PP_print_4 (by decide) ?_
  refine lv_icmp_ge (tgt := 20) hx hb d_PP_print_7 (by decide) (fun hb_1 => ?_) (fun hb_1 => ?_)
  · skip
    have hn_2 : 200 ≤ pn := (nI_leI (a := 200) (b := pn) (by omega) (by omega)).mp hb_1
    refine lv_aload_n hx hb d_PP_print_20 rfl (lv_at hl 0 rfl) ?_
    refine lv_dup hx hb d_PP_print_21 rfl ?_
    refine va_get (D := D) (ci := 6) (v := .int (nI pn)) (C := rn_PP) (T := fl_PP) (N := 3) hx hb hG in_PP hown hK hP 0 rfl rfl 2 (by decide) (hG _ k_299) (fun _ h9 => h9) rfl d_PP_print_22 ?_
    refine lv_iconst (v := 1) hx hb d_PP_print_25 (by decide) ?_
    refine lw_iadd (a := pn) (b := 1) hx hb d_PP_print_26 ?_
    refine va_put (D := D) (ci := 6) (v := .int (nI (pn + 1))) (ty := .int) (C := rn_PP) (T := fl_PP) (N := 3) hx hb hG in_PP tt_PP tk_PP nn_PP hown hK hP hD hS 0 rfl rfl 2 (by decide) (hG _ k_299) (fun _ h9 => h9) rfl (by decide +kernel) rfl rfl (Nat.le_of_ble_eq_true rfl) d_PP_print_27 (fun H locs hP hD hS => ?_)
    have hP : va_P D classes [((f 26), .inr (6, [.ref (f 27), .ref (f 28), .int (nI (pn + 1))])), ((f 27), .inl (cC, 200, .inl pf)), ((f 28), .inl (cC, 10, .inl pd))] H := hP
    have hD : va_D A [((f 26), .inr (6, [.ref (f 27), .ref (f 28), .int (nI (pn + 1))])), ((f 27), .inl (cC, 200, .inl pf)), ((f 28), .inl (cC, 10, .inl pd))] := hD
    exact em_vret hx hb hr hlocks hP hD hK hS (pn + 1, pf, pd) [0, 1, 2] (by decide) rfl ⟨rfl, (show (pn + 1) = pn + 1 by omega)⟩ d_PP_print_30
  · skip
    have hn_3 : ¬ 200 ≤ pn := fun h => hb_1 ((nI_leI (a := 200) (b := pn) (by omega) (by omega)).mpr h)
    refine lv_aload_n hx hb d_PP_print_10 rfl (lv_at hl 0 rfl) ?_
    refine va_get (D := D) (ci := 6) (v := .ref (f 27)) (C := rn_PP) (T := fl_PP) (N := 3) hx hb hG in_PP hown hK hP 0 rfl rfl 0 (by decide) (hG _ k_297) (fun _ h9 => h9) rfl d_PP_print_11 ?_
    refine lv_aload_n hx hb d_PP_print_14 rfl (lv_at hl 0 rfl) ?_
    refine va_get (D := D) (ci := 6) (v := .int (nI pn)) (C := rn_PP) (T := fl_PP) (N := 3) hx hb hG in_PP hown hK hP 0 rfl rfl 2 (by decide) (hG _ k_299) (fun _ h9 => h9) rfl d_PP_print_15 ?_
    refine lv_iload_n hx hb d_PP_print_18 rfl (lv_at hl 1 rfl) ?_
    refine va_cast hx hb hK hP hD hS 1 3 rfl rfl (vp_in_nI (n := pn) (N := 200) (by omega) (by omega)) d_PP_print_19 (fun H locs hP hD hS => ?_)
    have hP : va_P D classes [((f 26), .inr (6, [.ref (f 27), .ref (f 28), .int (nI pn)])), ((f 27), .inl (cC, 200, .inl (upd pf (nI pn).toNatClampNeg (vp_nar .char ch)))), ((f 28), .inl (cC, 10, .inl pd))] H := hP
    have hD : va_D A [((f 26), .inr (6, [.ref (f 27), .ref (f 28), .int (nI pn)])), ((f 27), .inl (cC, 200, .inl (upd pf (nI pn).toNatClampNeg (vp_nar .char ch)))), ((f 28), .inl (cC, 10, .inl pd))] := hD
    obtain ⟨g_4, eg_4⟩ : ∃ z, z = upd pf (nI pn).toNatClampNeg (vp_nar .char ch) := ⟨_, rfl⟩
    rw [← eg_4] at hP hD
    refine lv_aload_n hx hb d_PP_print_20 rfl (lv_at hl 0 rfl) ?_
    refine lv_dup hx hb d_PP_print_21 rfl ?_
    refine va_get (D := D) (ci := 6) (v := .int (nI pn)) (C := rn_PP) (T := fl_PP) (N := 3) hx hb hG in_PP hown hK hP 0 rfl rfl 2 (by decide) (hG _ k_299) (fun _ h9 => h9) rfl d_PP_print_22 ?_
    refine lv_iconst (v := 1) hx hb d_PP_print_25 (by decide) ?_
    refine lw_iadd (a := pn) (b := 1) hx hb d_PP_print_26 ?_
    refine va_put (D := D) (ci := 6) (v := .int (nI (pn + 1))) (ty := .int) (C := rn_PP) (T := fl_PP) (N := 3) hx hb hG in_PP tt_PP tk_PP nn_PP hown hK hP hD hS 0 rfl rfl 2 (by decide) (hG _ k_299) (fun _ h9 => h9) rfl (by decide +kernel) rfl rfl (Nat.le_of_ble_eq_true rfl) d_PP_print_27 (fun H locs hP hD hS => ?_)
    have hP : va_P D classes [((f 26), .inr (6, [.ref (f 27), .ref (f 28), .int (nI (pn + 1))])), ((f 27), .inl (cC, 200, .inl g_4)), ((f 28), .inl (cC, 10, .inl pd))] H := hP
    have hD : va_D A [((f 26), .inr (6, [.ref (f 27), .ref (f 28), .int (nI (pn + 1))])), ((f 27), .inl (cC, 200, .inl g_4)), ((f 28), .inl (cC, 10, .inl pd))] := hD
    exact em_vret hx hb hr hlocks hP hD hK hS (pn + 1, g_4, pd) [0, 1, 2] (by decide) rfl ⟨rfl, (show (pn + 1) = pn + 1 by omega)⟩ d_PP_print_30
set_option maxHeartbeats 8000000 in
set_option maxRecDepth 100000 in
theorem pp_printNumber (l : Launch) (D : va_G) (cI cL cZ cC : ClassId) (f : Nat → Nat) (pn : Nat) (pf : Nat → Int32) (pd : Nat → Int32) (w : Int32) (sz : Nat) (hpb : pn + 11 < 2147483648) (hnt : l.stackTraces = false) : em_Met l y_PP_printNumber (wz y_PP_printNumber b_PP_printNumber 6 none) ({ frames := 1, cells := 0, slots := 0, locals := 21 }) (va_Pc [.ref (f 26), .int w] (tw_pre D (tys4 cI cL cZ cC) [((f 26), .inr (6, [.ref (f 27), .ref (f 28), .int (nI pn)])), ((f 27), .inl (cC, 200, .inl pf)), ((f 28), .inl (cC, 10, .inl pd))] sz)) D (tys4 cI cL cZ cC) (va_A [((f 26), .inr (6, [.ref (f 27), .ref (f 28), .int (nI pn)])), ((f 27), .inl (cC, 200, .inl pf)), ((f 28), .inl (cC, 10, .inl pd))] sz) (fun (u : Nat × (Nat → Int32) × (Nat → Int32)) => [((f 26), .inr (6, [.ref (f 27), .ref (f 28), .int (nI u.1)])), ((f 27), .inl (cC, 200, .inl u.2.1)), ((f 28), .inl (cC, 10, .inl u.2.2))]) (fun v (u : Nat × (Nat → Int32) × (Nat → Int32)) => v = none ∧ (u.1 ≤ pn + 11)) (fun C (u : Nat × (Nat → Int32) × (Nat → Int32)) => False) 0 0 := by
  refine em_Met.ofW (cc := b_PP_printNumber) (maxL := 6) (ret := none) (by decide) rfl ?_
  intro p e s m args below meth c s₁ B hml hv hno
  obtain ⟨rfl, ⟨hsz, hP, hK, hD0⟩, hE⟩ := hv
  have hx := B.exec
  have hb := B.bytes
  have hr := B.returns
  have hts := atoms_spec (ws := wz y_PP_printNumber b_PP_printNumber 6 none) B.pre
  have hG := wz_G hts
  have hown : s.vm.findClass rn_PP = some m.cls := findClass_of_methodNamed B.named
  have hlocks := B.notSynchronized
  subst hsz
  have hD := hD0.self (sz := s.heap.size)
  have hst := tw_st hP
  generalize hAe : va_A [((f 26), .inr (6, [.ref (f 27), .ref (f 28), .int (nI pn)])), ((f 27), .inl (cC, 200, .inl pf)), ((f 28), .inl (cC, 10, .inl pd))] s.heap.size = A at hD hst ⊢
  have hA : ∀ q : Nat, s.heap.size ≤ q → A q := fun q h => by rw [← hAe]; exact Or.inr h
  have hS : va_S A s.heap s.heap [] := va_S.rf
  have hl := lv_entry ([.ref (f 26), .int w]) (n := 6) (Nat.le_of_ble_eq_true rfl)
  rw [lg_entry_eq]
  generalize (lg_sl ([.ref (f 26), .int w]) ++ List.replicate (6 - (lg_sl ([.ref (f 26), .int w])).length) Slot.unset).toArray = ls at hl ⊢
  have hl : lv_has ls 6 [(0, .ref (f 26)), (1, .int w)] := hl
  have loop_2 : ∀ (k_1 : Nat) (x1 : Int64) (i : Nat) (pn1 : Nat) (pf1 : Nat → Int32) (pd1 : Nat → Int32) (H : Heap) (locs : List Loc) (ls : Array Slot), 10 - i < k_1 → (i < 10) → (pn1 ≤ pn + 1) → lv_has ls 6 [(0, .ref (f 26)), (2, .long x1), (4, .int (nI i))] → va_P D classes [((f 26), .inr (6, [.ref (f 27), .ref (f 28), .int (nI pn1)])), ((f 27), .inl (cC, 200, .inl pf1)), ((f 28), .inl (cC, 10, .inl pd1))] H → va_D A [((f 26), .inr (6, [.ref (f 27), .ref (f 28), .int (nI pn1)])), ((f 27), .inl (cC, 200, .inl pf1)), ((f 28), .inl (cC, 10, .inl pd1))] → va_S A s.heap H locs → W p l e (headSpec (wz y_PP_printNumber b_PP_printNumber 6 none) ({ frames := 1, cells := 0, slots := 0, locals := 21 })).room s m ([.ref (f 26), .int w] : List Value).toArray below meth c H locs 0 0 (em_MQ below D (tys4 cI cL cZ cC) A (fun (u : Nat × (Nat → Int32) × (Nat → Int32)) => [((f 26), .inr (6, [.ref (f 27), .ref (f 28), .int (nI u.1)])), ((f 27), .inl (cC, 200, .inl u.2.1)), ((f 28), .inl (cC, 10, .inl u.2.2))]) (fun v (u : Nat × (Nat → Int32) × (Nat → Int32)) => v = none ∧ (u.1 ≤ pn + 11)) (fun C (u : Nat × (Nat → Int32) × (Nat → Int32)) => False) s 0 0) (F0 m 21 ls []) := by
    intro k_1
    induction k_1 with
    | zero => intro x1 i pn1 pf1 pd1 H locs ls hm; exact absurd hm (Nat.not_lt_zero _)
    | succ k_1 ih_3 =>
      intro x1 i pn1 pf1 pd1 H locs ls hm hi hp1 hl hP hD hS
      refine lv_aload_n hx hb d_PP_printNumber_21 rfl (lv_at hl 0 rfl) ?_
      refine va_get (D := D) (ci := 6) (v := .ref (f 28)) (C := rn_PP) (T := fl_PP) (N := 3) hx hb hG in_PP hown hK hP 0 rfl rfl 1 (by decide) (hG _ k_298) (fun _ h9 => h9) rfl d_PP_printNumber_22 ?_
      refine lv_iload hx hb d_PP_printNumber_25 (lv_at hl 2 rfl) ?_
      refine lv_ldc2 (v := 48) hx hb hown (hG _ k_1042) d_PP_printNumber_27 ?_
      refine lv_lload_n hx hb d_PP_printNumber_30 rfl (lv_at hl 1 rfl) ?_
      refine lv_ldc2 (v := 10) hx hb hown (hG _ k_1043) d_PP_printNumber_31 ?_
      refine lv_lrem hx hb d_PP_printNumber_34 (by decide) ?_
      refine lv_ladd hx hb d_PP_printNumber_35 ?_
      refine lv_l2i hx hb d_PP_printNumber_36 rfl ?_
      refine lv_i2c hx hb d_PP_printNumber_37 rfl ?_
      refine va_cast hx hb hK hP hD hS 2 3 rfl rfl (vp_in_nI (n := i) (N := 10) (by omega) (by omega)) d_PP_printNumber_38 (fun H locs hP hD hS => ?_)
      have hP : va_P D classes [((f 26), .inr (6, [.ref (f 27), .ref (f 28), .int (nI pn1)])), ((f 27), .inl (cC, 200, .inl pf1)), ((f 28), .inl (cC, 10, .inl (upd pd1 (nI i).toNatClampNeg (vp_nar .char ((((48 + (x1 - x1 / 10 * 10)).toInt32).toUInt32 % 65536).toInt32)))))] H := hP
      have hD : va_D A [((f 26), .inr (6, [.ref (f 27), .ref (f 28), .int (nI pn1)])), ((f 27), .inl (cC, 200, .inl pf1)), ((f 28), .inl (cC, 10, .inl (upd pd1 (nI i).toNatClampNeg (vp_nar .char ((((48 + (x1 - x1 / 10 * 10)).toInt32).toUInt32 % 65536).toInt32)))))] := hD
      obtain ⟨g_4, eg_4⟩ : ∃ z, z = upd pd1 (nI i).toNatClampNeg (vp_nar .char ((((48 + (x1 - x1 / 10 * 10)).toInt32).toUInt32 % 65536).toInt32)) := ⟨_, rfl⟩
      rw [← eg_4] at hP hD
      refine lv_lload_n hx hb d_PP_printNumber_39 rfl (lv_at hl 1 rfl) ?_
      refine lv_ldc2 (v := 10) hx hb hown (hG _ k_1043) d_PP_printNumber_40 ?_
      refine lv_ldiv hx hb d_PP_printNumber_43 (by decide) ?_
      refine lv_lstore_n (lv' := [(2, .long (x1 / 10)), (0, .ref (f 26)), (4, .int (nI i))]) hx hb d_PP_printNumber_44 rfl hl (Nat.le_of_ble_eq_true rfl) rfl (fun ls hl => ?_)
      refine lv_iinc (k := 2) (v := nI (i + 1)) (lv' := [(4, .int (nI (i + 1))), (2, .long (x1 / 10)), (0, .ref (f 26))]) hx hb d_PP_printNumber_45 hl rfl (lw_inc i 1) (Nat.le_of_ble_eq_true rfl) rfl (fun ls hl => ?_)
      refine lv_lload_n hx hb d_PP_printNumber_48 rfl (lv_at hl 1 rfl) ?_
      refine lv_lconst (v := 0) hx hb d_PP_printNumber_49 (by decide) ?_
      refine W.lcmp hx hb d_PP_printNumber_50 ?_
      refine lv_if_le (tgt := 61) hx hb d_PP_printNumber_51 (by decide) (fun hb_5 => ?_) (fun hb_5 => ?_)
      · skip
        have loop_7 : ∀ (k_6 : Nat) (k : Nat) (pn2 : Nat) (pf2 : Nat → Int32) (pd2 : Nat → Int32) (H : Heap) (locs : List Loc) (ls : Array Slot), k < k_6 → (k ≤ 10) → (pn2 + k ≤ pn + 11) → lv_has ls 6 [(0, .ref (f 26)), (5, .int (nI k - 1))] → va_P D classes [((f 26), .inr (6, [.ref (f 27), .ref (f 28), .int (nI pn2)])), ((f 27), .inl (cC, 200, .inl pf2)), ((f 28), .inl (cC, 10, .inl pd2))] H → va_D A [((f 26), .inr (6, [.ref (f 27), .ref (f 28), .int (nI pn2)])), ((f 27), .inl (cC, 200, .inl pf2)), ((f 28), .inl (cC, 10, .inl pd2))] → va_S A s.heap H locs → W p l e (headSpec (wz y_PP_printNumber b_PP_printNumber 6 none) ({ frames := 1, cells := 0, slots := 0, locals := 21 })).room s m ([.ref (f 26), .int w] : List Value).toArray below meth c H locs 0 0 (em_MQ below D (tys4 cI cL cZ cC) A (fun (u : Nat × (Nat → Int32) × (Nat → Int32)) => [((f 26), .inr (6, [.ref (f 27), .ref (f 28), .int (nI u.1)])), ((f 27), .inl (cC, 200, .inl u.2.1)), ((f 28), .inl (cC, 10, .inl u.2.2))]) (fun v (u : Nat × (Nat → Int32) × (Nat → Int32)) => v = none ∧ (u.1 ≤ pn + 11)) (fun C (u : Nat × (Nat → Int32) × (Nat → Int32)) => False) s 0 0) (F0 m 67 ls []) := by
          intro k_6
          induction k_6 with
          | zero => intro k pn2 pf2 pd2 H locs ls hm; exact absurd hm (Nat.not_lt_zero _)
          | succ k_6 ih_8 =>
            intro k pn2 pf2 pd2 H locs ls hm hk hpk hl hP hD hS
            refine lv_iload hx hb d_PP_printNumber_67 (lv_at hl 1 rfl) ?_
            refine lv_if_lt (tgt := 89) hx hb d_PP_printNumber_69 (by decide) (fun hb_9 => ?_) (fun hb_9 => ?_)
            · skip
              exact em_vret hx hb hr hlocks hP hD hK hS (pn2, pf2, pd2) [0, 1, 2] (by decide) rfl ⟨rfl, (show pn2 ≤ pn + 11 by omega)⟩ d_PP_printNumber_89
            · skip
              have hk_10 : 1 ≤ k := dn_ge (by omega) hb_9
              have hl : lv_has ls 6 [(0, .ref (f 26)), (5, .int (nI (k - 1)))] := by rw [← dn_eq hk_10]; exact hl
              refine lv_aload_n hx hb d_PP_printNumber_72 rfl (lv_at hl 0 rfl) ?_
              refine lv_aload_n hx hb d_PP_printNumber_73 rfl (lv_at hl 0 rfl) ?_
              refine va_get (D := D) (ci := 6) (v := .ref (f 28)) (C := rn_PP) (T := fl_PP) (N := 3) hx hb hG in_PP hown hK hP 0 rfl rfl 1 (by decide) (hG _ k_298) (fun _ h9 => h9) rfl d_PP_printNumber_74 ?_
              refine lv_iload hx hb d_PP_printNumber_77 (lv_at hl 1 rfl) ?_
              refine va_cald hx hb hK hP 2 3 rfl rfl (vp_in_nI (n := k - 1) (N := 10) (by omega) (by omega)) d_PP_printNumber_79 ?_
              refine lv_topi (fun v_11 ev_11 => ?_)
              refine em_call (wr := []) (em_runV (As := [.int v_11]) (rest := []) ⟨hx, hb, hml, hown, hG⟩ (pp_print l D cI cL cZ cC f pn2 pf2 pd2 v_11 _ (by omega) hnt) (cwV 1 hG (gd_V k_1038 k_1039 k_1040 k_114 k_1041) rfl rfl rfl (by decide +kernel) ⟨Nat.le_of_ble_eq_true rfl, Nat.le_of_ble_eq_true rfl⟩) (tw_V (q0 := 0) hP hD hK hE hst hS rfl rfl [0, 1, 2] rfl (by decide)) rfl rfl hl.1 rfl (lv_room (Nat.le_of_ble_eq_true rfl)) d_PP_printNumber_80 ⟨Nat.le_of_ble_eq_true rfl, Nat.le_of_ble_eq_true rfl⟩) hP hD hS hA [0, 1, 2] [] rfl rfl (by decide) (by decide) (fun v u H locs hok hP hD hS => ?_) (fun x C u H locs hbad hxx hP hD hS => ?_)
              · skip
                obtain ⟨pn_12, pf_13, pd_14⟩ := u
                obtain ⟨rfl, hp_16⟩ := hok
                have hpo_18 : pn_12 = pn2 + 1 := hp_16
                have hP : va_P D classes [((f 26), .inr (6, [.ref (f 27), .ref (f 28), .int (nI pn_12)])), ((f 27), .inl (cC, 200, .inl pf_13)), ((f 28), .inl (cC, 10, .inl pd_14))] H := hP
                have hD : va_D A [((f 26), .inr (6, [.ref (f 27), .ref (f 28), .int (nI pn_12)])), ((f 27), .inl (cC, 200, .inl pf_13)), ((f 28), .inl (cC, 10, .inl pd_14))] := hD
                refine W.eq (g2 := F0 m 83 ls []) rfl ?_
                refine lv_iinc (k := 1) (v := nI (k - 1) - 1) (lv' := [(5, .int (nI (k - 1) - 1)), (0, .ref (f 26))]) hx hb d_PP_printNumber_83 hl rfl (dn_dec _) (Nat.le_of_ble_eq_true rfl) rfl (fun ls hl => ?_)
                refine lv_goto (tgt := 67) hx hb d_PP_printNumber_86 (by decide) ?_
                have hl := lv_sub (l' := [(0, .ref (f 26)), (5, .int (nI (k - 1) - 1))]) hl [1, 0] rfl
                exact ih_8 (k - 1) pn_12 pf_13 pd_14 _ _ _ (by omega) (by omega) (by omega) hl hP hD hS
              · skip
                exact hbad.elim
        refine lv_iload hx hb d_PP_printNumber_61 (lv_at hl 0 rfl) ?_
        refine lv_iconst (v := 1) hx hb d_PP_printNumber_63 (by decide) ?_
        refine lv_isub hx hb d_PP_printNumber_64 ?_
        refine lv_istore (lv' := [(5, .int ((nI (i + 1)) - 1)), (4, .int (nI (i + 1))), (2, .long (x1 / 10)), (0, .ref (f 26))]) hx hb d_PP_printNumber_65 hl (Nat.le_of_ble_eq_true rfl) rfl (fun ls hl => ?_)
        have hl := lv_sub (l' := [(0, .ref (f 26)), (5, .int ((nI (i + 1)) - 1))]) hl [3, 0] rfl
        exact loop_7 _ (i + 1) pn1 pf1 g_4 _ _ _ (Nat.lt_succ_self _) (by omega) (by omega) hl hP hD hS
      · skip
        refine lv_iload hx hb d_PP_printNumber_54 (lv_at hl 0 rfl) ?_
        refine lv_bipush (v := 10) hx hb d_PP_printNumber_56 (by decide) ?_
        refine lv_icmp_lt (tgt := 21) hx hb d_PP_printNumber_58 (by decide) (fun hb_19 => ?_) (fun hb_19 => ?_)
        · skip
          have hn_20 : (i + 1) < 10 := (nI_ltI (a := i + 1) (b := 10) (by omega) (by omega)).mp hb_19
          have hl := lv_sub (l' := [(0, .ref (f 26)), (2, .long (x1 / 10)), (4, .int (nI (i + 1)))]) hl [2, 1, 0] rfl
          exact ih_3 (x1 / 10) (i + 1) pn1 pf1 g_4 _ _ _ (by omega) (by omega) (by omega) hl hP hD hS
        · skip
          have hn_21 : ¬ (i + 1) < 10 := fun h => hb_19 ((nI_ltI (a := i + 1) (b := 10) (by omega) (by omega)).mpr h)
          have loop_23 : ∀ (k_22 : Nat) (k : Nat) (pn2 : Nat) (pf2 : Nat → Int32) (pd2 : Nat → Int32) (H : Heap) (locs : List Loc) (ls : Array Slot), k < k_22 → (k ≤ 10) → (pn2 + k ≤ pn + 11) → lv_has ls 6 [(0, .ref (f 26)), (5, .int (nI k - 1))] → va_P D classes [((f 26), .inr (6, [.ref (f 27), .ref (f 28), .int (nI pn2)])), ((f 27), .inl (cC, 200, .inl pf2)), ((f 28), .inl (cC, 10, .inl pd2))] H → va_D A [((f 26), .inr (6, [.ref (f 27), .ref (f 28), .int (nI pn2)])), ((f 27), .inl (cC, 200, .inl pf2)), ((f 28), .inl (cC, 10, .inl pd2))] → va_S A s.heap H locs → W p l e (headSpec (wz y_PP_printNumber b_PP_printNumber 6 none) ({ frames := 1, cells := 0, slots := 0, locals := 21 })).room s m ([.ref (f 26), .int w] : List Value).toArray below meth c H locs 0 0 (em_MQ below D (tys4 cI cL cZ cC) A (fun (u : Nat × (Nat → Int32) × (Nat → Int32)) => [((f 26), .inr (6, [.ref (f 27), .ref (f 28), .int (nI u.1)])), ((f 27), .inl (cC, 200, .inl u.2.1)), ((f 28), .inl (cC, 10, .inl u.2.2))]) (fun v (u : Nat × (Nat → Int32) × (Nat → Int32)) => v = none ∧ (u.1 ≤ pn + 11)) (fun C (u : Nat × (Nat → Int32) × (Nat → Int32)) => False) s 0 0) (F0 m 67 ls []) := by
            intro k_22
            induction k_22 with
            | zero => intro k pn2 pf2 pd2 H locs ls hm; exact absurd hm (Nat.not_lt_zero _)
            | succ k_22 ih_24 =>
              intro k pn2 pf2 pd2 H locs ls hm hk hpk hl hP hD hS
              refine lv_iload hx hb d_PP_printNumber_67 (lv_at hl 1 rfl) ?_
              refine lv_if_lt (tgt := 89) hx hb d_PP_printNumber_69 (by decide) (fun hb_25 => ?_) (fun hb_25 => ?_)
              · skip
                exact em_vret hx hb hr hlocks hP hD hK hS (pn2, pf2, pd2) [0, 1, 2] (by decide) rfl ⟨rfl, (show pn2 ≤ pn + 11 by omega)⟩ d_PP_printNumber_89
              · skip
                have hk_26 : 1 ≤ k := dn_ge (by omega) hb_25
                have hl : lv_has ls 6 [(0, .ref (f 26)), (5, .int (nI (k - 1)))] := by rw [← dn_eq hk_26]; exact hl
                refine lv_aload_n hx hb d_PP_printNumber_72 rfl (lv_at hl 0 rfl) ?_
                refine lv_aload_n hx hb d_PP_printNumber_73 rfl (lv_at hl 0 rfl) ?_
                refine va_get (D := D) (ci := 6) (v := .ref (f 28)) (C := rn_PP) (T := fl_PP) (N := 3) hx hb hG in_PP hown hK hP 0 rfl rfl 1 (by decide) (hG _ k_298) (fun _ h9 => h9) rfl d_PP_printNumber_74 ?_
                refine lv_iload hx hb d_PP_printNumber_77 (lv_at hl 1 rfl) ?_
                refine va_cald hx hb hK hP 2 3 rfl rfl (vp_in_nI (n := k - 1) (N := 10) (by omega) (by omega)) d_PP_printNumber_79 ?_
                refine lv_topi (fun v_27 ev_27 => ?_)
                refine em_call (wr := []) (em_runV (As := [.int v_27]) (rest := []) ⟨hx, hb, hml, hown, hG⟩ (pp_print l D cI cL cZ cC f pn2 pf2 pd2 v_27 _ (by omega) hnt) (cwV 1 hG (gd_V k_1038 k_1039 k_1040 k_114 k_1041) rfl rfl rfl (by decide +kernel) ⟨Nat.le_of_ble_eq_true rfl, Nat.le_of_ble_eq_true rfl⟩) (tw_V (q0 := 0) hP hD hK hE hst hS rfl rfl [0, 1, 2] rfl (by decide)) rfl rfl hl.1 rfl (lv_room (Nat.le_of_ble_eq_true rfl)) d_PP_printNumber_80 ⟨Nat.le_of_ble_eq_true rfl, Nat.le_of_ble_eq_true rfl⟩) hP hD hS hA [0, 1, 2] [] rfl rfl (by decide) (by decide) (fun v u H locs hok hP hD hS => ?_) (fun x C u H locs hbad hxx hP hD hS => ?_)
                · skip
                  obtain ⟨pn_28, pf_29, pd_30⟩ := u
                  obtain ⟨rfl, hp_32⟩ := hok
                  have hpo_34 : pn_28 = pn2 + 1 := hp_32
                  have hP : va_P D classes [((f 26), .inr (6, [.ref (f 27), .ref (f 28), .int (nI pn_28)])), ((f 27), .inl (cC, 200, .inl pf_29)), ((f 28), .inl (cC, 10, .inl pd_30))] H := hP
                  have hD : va_D A [((f 26), .inr (6, [.ref (f 27), .ref (f 28), .int (nI pn_28)])), ((f 27), .inl (cC, 200, .inl pf_29)), ((f 28), .inl (cC, 10, .inl pd_30))] := hD
                  refine W.eq (g2 := F0 m 83 ls []) rfl ?_
                  refine lv_iinc (k := 1) (v := nI (k - 1) - 1) (lv' := [(5, .int (nI (k - 1) - 1)), (0, .ref (f 26))]) hx hb d_PP_printNumber_83 hl rfl (dn_dec _) (Nat.le_of_ble_eq_true rfl) rfl (fun ls hl => ?_)
                  refine lv_goto (tgt := 67) hx hb d_PP_printNumber_86 (by decide) ?_
                  have hl := lv_sub (l' := [(0, .ref (f 26)), (5, .int (nI (k - 1) - 1))]) hl [1, 0] rfl
                  exact ih_24 (k - 1) pn_28 pf_29 pd_30 _ _ _ (by omega) (by omega) (by omega) hl hP hD hS
                · skip
                  exact hbad.elim
          refine lv_iload hx hb d_PP_printNumber_61 (lv_at hl 0 rfl) ?_
          refine lv_iconst (v := 1) hx hb d_PP_printNumber_63 (by decide) ?_
          refine lv_isub hx hb d_PP_printNumber_64 ?_
          refine lv_istore (lv' := [(5, .int ((nI (i + 1)) - 1)), (4, .int (nI (i + 1))), (2, .long (x1 / 10)), (0, .ref (f 26))]) hx hb d_PP_printNumber_65 hl (Nat.le_of_ble_eq_true rfl) rfl (fun ls hl => ?_)
          have hl := lv_sub (l' := [(0, .ref (f 26)), (5, .int ((nI (i + 1)) - 1))]) hl [3, 0] rfl
          exact loop_23 _ (i + 1) pn1 pf1 g_4 _ _ _ (Nat.lt_succ_self _) (by omega) (by omega) hl hP hD hS
  refine lv_iload_n hx hb d_PP_printNumber_0 rfl (lv_at hl 1 rfl) ?_
  refine lv_i2l hx hb d_PP_printNumber_1 rfl ?_
  refine lv_lstore_n (lv' := [(2, .long w.toInt64), (0, .ref (f 26)), (1, .int w)]) hx hb d_PP_printNumber_2 rfl hl (Nat.le_of_ble_eq_true rfl) rfl (fun ls hl => ?_)
  refine lv_lload_n hx hb d_PP_printNumber_3 rfl (lv_at hl 0 rfl) ?_
  refine lv_lconst (v := 0) hx hb d_PP_printNumber_4 (by decide) ?_
  refine W.lcmp hx hb d_PP_printNumber_5 ?_
  refine lv_if_ge (tgt := 18) hx hb d_PP_printNumber_6 (by decide) (fun hb_35 => ?_) (fun hb_35 => ?_)
  · skip
    refine lv_iconst (v := 0) hx hb d_PP_printNumber_18 (by decide) ?_
    refine lv_istore (lv' := [(4, .int 0), (2, .long w.toInt64), (0, .ref (f 26)), (1, .int w)]) hx hb d_PP_printNumber_19 hl (Nat.le_of_ble_eq_true rfl) rfl (fun ls hl => ?_)
    have hl := lv_sub (l' := [(0, .ref (f 26)), (2, .long w.toInt64), (4, .int 0)]) hl [2, 1, 0] rfl
    exact loop_2 _ w.toInt64 0 pn pf pd _ _ _ (Nat.lt_succ_self _) (by omega) (by omega) hl hP hD hS
  · skip
    refine lv_aload_n hx hb d_PP_printNumber_9 rfl (lv_at hl 1 rfl) ?_
    refine lv_bipush (v := 45) hx hb d_PP_printNumber_10 (by decide) ?_
    refine em_call (wr := []) (em_runV (As := [.int 45]) (rest := []) ⟨hx, hb, hml, hown, hG⟩ (pp_print l D cI cL cZ cC f pn pf pd 45 _ (by omega) hnt) (cwV 1 hG (gd_V k_1038 k_1039 k_1040 k_114 k_1041) rfl rfl rfl (by decide +kernel) ⟨Nat.le_of_ble_eq_true rfl, Nat.le_of_ble_eq_true rfl⟩) (tw_V (q0 := 0) hP hD hK hE hst hS rfl rfl [0, 1, 2] rfl (by decide)) rfl rfl hl.1 rfl (lv_room (Nat.le_of_ble_eq_true rfl)) d_PP_printNumber_12 ⟨Nat.le_of_ble_eq_true rfl, Nat.le_of_ble_eq_true rfl⟩) hP hD hS hA [0, 1, 2] [] rfl rfl (by decide) (by decide) (fun v u H locs hok hP hD hS => ?_) (fun x C u H locs hbad hxx hP hD hS => ?_)
    · skip
      obtain ⟨pn_36, pf_37, pd_38⟩ := u
      obtain ⟨rfl, hp_40⟩ := hok
      have hpo_42 : pn_36 = pn + 1 := hp_40
      have hP : va_P D classes [((f 26), .inr (6, [.ref (f 27), .ref (f 28), .int (nI pn_36)])), ((f 27), .inl (cC, 200, .inl pf_37)), ((f 28), .inl (cC, 10, .inl pd_38))] H := hP
      have hD : va_D A [((f 26), .inr (6, [.ref (f 27), .ref (f 28), .int (nI pn_36)])), ((f 27), .inl (cC, 200, .inl pf_37)), ((f 28), .inl (cC, 10, .inl pd_38))] := hD
      refine W.eq (g2 := F0 m 15 ls []) rfl ?_
      refine lv_lload_n hx hb d_PP_printNumber_15 rfl (lv_at hl 0 rfl) ?_
      refine lv_lneg hx hb d_PP_printNumber_16 ?_
      refine lv_lstore_n (lv' := [(2, .long (-w.toInt64)), (0, .ref (f 26)), (1, .int w)]) hx hb d_PP_printNumber_17 rfl hl (Nat.le_of_ble_eq_true rfl) rfl (fun ls hl => ?_)
      refine lv_iconst (v := 0) hx hb d_PP_printNumber_18 (by decide) ?_
      refine lv_istore (lv' := [(4, .int 0), (2, .long (-w.toInt64)), (0, .ref (f 26)), (1, .int w)]) hx hb d_PP_printNumber_19 hl (Nat.le_of_ble_eq_true rfl) rfl (fun ls hl => ?_)
      have hl := lv_sub (l' := [(0, .ref (f 26)), (2, .long (-w.toInt64)), (4, .int 0)]) hl [2, 1, 0] rfl
      exact loop_2 _ (-w.toInt64) 0 pn_36 pf_37 pd_38 _ _ _ (Nat.lt_succ_self _) (by omega) (by omega) hl hP hD hS
    · skip
      exact hbad.elim
