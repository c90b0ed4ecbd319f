set_option maxHeartbeats 4000000 in
set_option maxRecDepth 100000 in
theorem c_LX_init (l : Launch) (D : va_G) (cI cL cZ cC : ClassId) (h0 : Nat) (sz : Nat) : Met l y_LX_init (wz y_LX_init b_LX_init 1 none) ({ frames := 1, cells := 2, slots := 200, locals := 12 }) (va_Pc [.ref h0] (wp_pre D (tys4 cI cL cZ cC) [(h0, .inr (1, [.null, .null, .int 0]))] sz)) (va_Qv (fun _ : Nat → Nat => True) (fun (u : Nat → Nat) t => wp_post D (tys4 cI cL cZ cC) (va_A [(h0, .inr (1, [.null, .null, .int 0]))] sz) [(h0, .inr (1, [.ref (u 0), .ref (u 1), .int 0])), ((u 0), .inl (cI, 100, .inl (fun _ => 0))), ((u 1), .inl (cI, 100, .inl (fun _ => 0)))] t) (va_A [(h0, .inr (1, [.null, .null, .int 0]))] sz)) 2 200 (va_A [(h0, .inr (1, [.null, .null, .int 0]))] sz) := by
  refine Met.ofW (cc := b_LX_init) (maxL := 1) (ret := none) (by decide) rfl ?_
  intro p e s m args below meth c s₁ B hml hv
  obtain ⟨rfl, hsz, hP, hK, hD0⟩ := hv
  have hx := B.exec
  have hb := B.bytes
  have hr := B.returns
  have hts := atoms_spec (ws := wz y_LX_init b_LX_init 1 none) B.pre
  have hG := wz_G hts
  have hown : s.vm.findClass rn_LX = some m.cls := findClass_of_methodNamed B.named
  have hlocks := B.notSynchronized
  have hin : meth.name = "<init>" := (name_of_methodNamed B.named B.method).1
  subst hsz
  have hD := hD0.self (sz := s.heap.size)
  generalize hAe : va_A [(h0, .inr (1, [.null, .null, .int 0]))] s.heap.size = A at hD ⊢
  have hA : ∀ q : Nat, s.heap.size ≤ q → A q := fun q h => by rw [← hAe]; exact Or.inr h
  have hS : va_S A s.heap s.heap [] := va_S.rf
  have hl := lv_entry ([.ref h0]) (n := 1) (Nat.le_of_ble_eq_true rfl)
  rw [lg_entry_eq]
  generalize (lg_sl ([.ref h0]) ++ List.replicate (1 - (lg_sl ([.ref h0])).length) Slot.unset).toArray = ls at hl ⊢
  have hl : lv_has ls 1 [(0, .ref h0)] := hl
  refine lv_aload_n hx hb d_LX_init_0 rfl (lv_at hl 0 rfl) ?_
  refine W.objInit hx hb hown (hG _ k_143) (hG _ k_136) (hG _ k_137) rfl (by rw [hml]; exact hl.1) rfl d_LX_init_1 (Nat.le_of_ble_eq_true rfl) (Nat.le_of_ble_eq_true rfl) ?_
  refine W.eq (g2 := F0 m 4 ls []) rfl ?_
  refine lv_aload_n hx hb d_LX_init_4 rfl (lv_at hl 0 rfl) ?_
  refine lv_bipush (v := 100) hx hb d_LX_init_5 (by decide) ?_
  refine wp_newa (atype := .int) (ty := .int) (a0 := (100, .inl (fun _ => 0))) (N' := 100) hx hb (hG _ k_155) rfl (fun _ h => h) hK 0 rfl hP hD hS hA (fun _ => rfl) (by decide) (by decide) (by decide) (Nat.le_of_ble_eq_true rfl) (Nat.le_of_ble_eq_true rfl) d_LX_init_7 (fun q_1 H hP hD hS => ?_)
  refine W.widen (k := 1) (n := 100) (Nat.le_of_ble_eq_true rfl) (Nat.le_of_ble_eq_true rfl) ?_
  have hP : va_P D classes [(h0, .inr (1, [.null, .null, .int 0])), (q_1, .inl (cI, 100, .inl (fun _ => 0)))] H := hP
  have hD : va_D A [(h0, .inr (1, [.null, .null, .int 0])), (q_1, .inl (cI, 100, .inl (fun _ => 0)))] := hD
  refine va_putF (D := D) (ci := 1) (v := .ref q_1) (ty := (.array .int)) (C := rn_LX) (T := fl_LX) (N := 3) hx hb hG in_LX tt_LX tk_LX nn_LX hown hK hP hD hS 0 rfl rfl 0 (by decide) (hG _ k_144) (fun _ h9 => h9) rfl hin rfl (by decide +kernel) rfl rfl (Nat.le_of_ble_eq_true rfl) d_LX_init_9 (fun H locs hP hD hS => ?_)
  have hP : va_P D classes [(h0, .inr (1, [.ref q_1, .null, .int 0])), (q_1, .inl (cI, 100, .inl (fun _ => 0)))] H := hP
  have hD : va_D A [(h0, .inr (1, [.ref q_1, .null, .int 0])), (q_1, .inl (cI, 100, .inl (fun _ => 0)))] := hD
  refine lv_aload_n hx hb d_LX_init_12 rfl (lv_at hl 0 rfl) ?_
  refine lv_bipush (v := 100) hx hb d_LX_init_13 (by decide) ?_
  refine wp_newa (atype := .int) (ty := .int) (a0 := (100, .inl (fun _ => 0))) (N' := 100) hx hb (hG _ k_155) rfl (fun _ h => h) hK 0 rfl hP hD hS hA (fun _ => rfl) (by decide) (by decide) (by decide) (Nat.le_of_ble_eq_true rfl) (Nat.le_of_ble_eq_true rfl) d_LX_init_15 (fun q_2 H hP hD hS => ?_)
  refine W.widen (k := 2) (n := 200) (Nat.le_of_ble_eq_true rfl) (Nat.le_of_ble_eq_true rfl) ?_
  have hP : va_P D classes [(h0, .inr (1, [.ref q_1, .null, .int 0])), (q_1, .inl (cI, 100, .inl (fun _ => 0))), (q_2, .inl (cI, 100, .inl (fun _ => 0)))] H := hP
  have hD : va_D A [(h0, .inr (1, [.ref q_1, .null, .int 0])), (q_1, .inl (cI, 100, .inl (fun _ => 0))), (q_2, .inl (cI, 100, .inl (fun _ => 0)))] := hD
  refine va_putF (D := D) (ci := 1) (v := .ref q_2) (ty := (.array .int)) (C := rn_LX) (T := fl_LX) (N := 3) hx hb hG in_LX tt_LX tk_LX nn_LX hown hK hP hD hS 0 rfl rfl 1 (by decide) (hG _ k_145) (fun _ h9 => h9) rfl hin rfl (by decide +kernel) rfl rfl (Nat.le_of_ble_eq_true rfl) d_LX_init_17 (fun H locs hP hD hS => ?_)
  have hP : va_P D classes [(h0, .inr (1, [.ref q_1, .ref q_2, .int 0])), (q_1, .inl (cI, 100, .inl (fun _ => 0))), (q_2, .inl (cI, 100, .inl (fun _ => 0)))] H := hP
  have hD : va_D A [(h0, .inr (1, [.ref q_1, .ref q_2, .int 0])), (q_1, .inl (cI, 100, .inl (fun _ => 0))), (q_2, .inl (cI, 100, .inl (fun _ => 0)))] := hD
  refine lv_aload_n hx hb d_LX_init_20 rfl (lv_at hl 0 rfl) ?_
  refine lv_iconst (v := 0) hx hb d_LX_init_21 (by decide) ?_
  refine va_put (D := D) (ci := 1) (v := .int 0) (ty := .int) (C := rn_LX) (T := fl_LX) (N := 3) hx hb hG in_LX tt_LX tk_LX nn_LX hown hK hP hD hS 0 rfl rfl 2 (by decide) (hG _ k_146) (fun _ h9 => h9) rfl (by decide +kernel) rfl rfl (Nat.le_of_ble_eq_true rfl) d_LX_init_22 (fun H locs hP hD hS => ?_)
  have hP : va_P D classes [(h0, .inr (1, [.ref q_1, .ref q_2, .int 0])), (q_1, .inl (cI, 100, .inl (fun _ => 0))), (q_2, .inl (cI, 100, .inl (fun _ => 0)))] H := hP
  have hD : va_D A [(h0, .inr (1, [.ref q_1, .ref q_2, .int 0])), (q_1, .inl (cI, 100, .inl (fun _ => 0))), (q_2, .inl (cI, 100, .inl (fun _ => 0)))] := hD
  refine W.widen (k := 2) (n := 200) (Nat.le_of_ble_eq_true rfl) (Nat.le_of_ble_eq_true rfl) ?_
  exact wp_vret hx hb hr hlocks hP hD hK hS (fun i => [q_1, q_2].getD i 0) [0, 1, 2] (by decide) rfl trivial d_LX_init_25
set_option maxHeartbeats 4000000 in
set_option maxRecDepth 100000 in
theorem c_TM_init (l : Launch) (D : va_G) (cI cL cZ cC : ClassId) (h0 : Nat) (sz : Nat) : Met l y_TM_init (wz y_TM_init b_TM_init 1 none) ({ frames := 1, cells := 6, slots := 6144, locals := 12 }) (va_Pc [.ref h0] (wp_pre D (tys4 cI cL cZ cC) [(h0, .inr (2, [.null, .null, .null, .int 0, .null, .null, .null, .int 0]))] sz)) (va_Qv (fun _ : Nat → Nat => True) (fun (u : Nat → Nat) t => wp_post D (tys4 cI cL cZ cC) (va_A [(h0, .inr (2, [.null, .null, .null, .int 0, .null, .null, .null, .int 0]))] sz) [(h0, .inr (2, [.ref (u 0), .ref (u 1), .ref (u 2), .int 0, .ref (u 3), .ref (u 4), .ref (u 5), .int 0])), ((u 0), .inl (cL, 1024, .inr (.inl (fun _ => 0)))), ((u 1), .inl (cL, 1024, .inr (.inl (fun _ => 0)))), ((u 2), .inl (cI, 1024, .inl (fun _ => 0))), ((u 3), .inl (cI, 1024, .inl (fun _ => 0))), ((u 4), .inl (cZ, 1024, .inl (fun _ => 0))), ((u 5), .inl (cL, 1024, .inr (.inl (fun _ => 0))))] t) (va_A [(h0, .inr (2, [.null, .null, .null, .int 0, .null, .null, .null, .int 0]))] sz)) 6 6144 (va_A [(h0, .inr (2, [.null, .null, .null, .int 0, .null, .null, .null, .int 0]))] sz) := by
  refine Met.ofW (cc := b_TM_init) (maxL := 1) (ret := none) (by decide) rfl ?_
  intro p e s m args below meth c s₁ B hml hv
  obtain ⟨rfl, hsz, hP, hK, hD0⟩ := hv
  have hx := B.exec
  have hb := B.bytes
  have hr := B.returns
  have hts := atoms_spec (ws := wz y_TM_init b_TM_init 1 none) B.pre
  have hG := wz_G hts
  have hown : s.vm.findClass rn_TM = some m.cls := findClass_of_methodNamed B.named
  have hlocks := B.notSynchronized
  have hin : meth.name = "<init>" := (name_of_methodNamed B.named B.method).1
  subst hsz
  have hD := hD0.self (sz := s.heap.size)
  generalize hAe : va_A [(h0, .inr (2, [.null, .null, .null, .int 0, .null, .null, .null, .int 0]))] s.heap.size = A at hD ⊢
  have hA : ∀ q : Nat, s.heap.size ≤ q → A q := fun q h => by rw [← hAe]; exact Or.inr h
  have hS : va_S A s.heap s.heap [] := va_S.rf
  have hl := lv_entry ([.ref h0]) (n := 1) (Nat.le_of_ble_eq_true rfl)
  rw [lg_entry_eq]
  generalize (lg_sl ([.ref h0]) ++ List.replicate (1 - (lg_sl ([.ref h0])).length) Slot.unset).toArray = ls at hl ⊢
  have hl : lv_has ls 1 [(0, .ref h0)] := hl
  refine lv_aload_n hx hb d_TM_init_0 rfl (lv_at hl 0 rfl) ?_
  refine W.objInit hx hb hown (hG _ k_161) (hG _ k_136) (hG _ k_137) rfl (by rw [hml]; exact hl.1) rfl d_TM_init_1 (Nat.le_of_ble_eq_true rfl) (Nat.le_of_ble_eq_true rfl) ?_
  refine W.eq (g2 := F0 m 4 ls []) rfl ?_
  refine lv_aload_n hx hb d_TM_init_4 rfl (lv_at hl 0 rfl) ?_
  refine lv_sipush (v := 1024) hx hb d_TM_init_5 (by decide) ?_
  refine wp_newa (atype := .long) (ty := .long) (a0 := (1024, .inr (.inl (fun _ => 0)))) (N' := 1024) hx hb (hG _ k_187) rfl (fun _ h => h) hK 1 rfl hP hD hS hA (fun _ => rfl) (by decide) (by decide) (by decide) (Nat.le_of_ble_eq_true rfl) (Nat.le_of_ble_eq_true rfl) d_TM_init_8 (fun q_1 H hP hD hS => ?_)
  refine W.widen (k := 1) (n := 1024) (Nat.le_of_ble_eq_true rfl) (Nat.le_of_ble_eq_true rfl) ?_
  have hP : va_P D classes [(h0, .inr (2, [.null, .null, .null, .int 0, .null, .null, .null, .int 0])), (q_1, .inl (cL, 1024, .inr (.inl (fun _ => 0))))] H := hP
  have hD : va_D A [(h0, .inr (2, [.null, .null, .null, .int 0, .null, .null, .null, .int 0])), (q_1, .inl (cL, 1024, .inr (.inl (fun _ => 0))))] := hD
  refine va_putF (D := D) (ci := 2) (v := .ref q_1) (ty := (.array .long)) (C := rn_TM) (T := fl_TM) (N := 8) hx hb hG in_TM tt_TM tk_TM nn_TM hown hK hP hD hS 0 rfl rfl 0 (by decide) (hG _ k_162) (fun _ h9 => h9) rfl hin rfl (by decide +kernel) rfl rfl (Nat.le_of_ble_eq_true rfl) d_TM_init_10 (fun H locs hP hD hS => ?_)
  have hP : va_P D classes [(h0, .inr (2, [.ref q_1, .null, .null, .int 0, .null, .null, .null, .int 0])), (q_1, .inl (cL, 1024, .inr (.inl (fun _ => 0))))] H := hP
  have hD : va_D A [(h0, .inr (2, [.ref q_1, .null, .null, .int 0, .null, .null, .null, .int 0])), (q_1, .inl (cL, 1024, .inr (.inl (fun _ => 0))))] := hD
  refine lv_aload_n hx hb d_TM_init_13 rfl (lv_at hl 0 rfl) ?_
  refine lv_sipush (v := 1024) hx hb d_TM_init_14 (by decide) ?_
  refine wp_newa (atype := .long) (ty := .long) (a0 := (1024, .inr (.inl (fun _ => 0)))) (N' := 1024) hx hb (hG _ k_187) rfl (fun _ h => h) hK 1 rfl hP hD hS hA (fun _ => rfl) (by decide) (by decide) (by decide) (Nat.le_of_ble_eq_true rfl) (Nat.le_of_ble_eq_true rfl) d_TM_init_17 (fun q_2 H hP hD hS => ?_)
  refine W.widen (k := 2) (n := 2048) (Nat.le_of_ble_eq_true rfl) (Nat.le_of_ble_eq_true rfl) ?_
  have hP : va_P D classes [(h0, .inr (2, [.ref q_1, .null, .null, .int 0, .null, .null, .null, .int 0])), (q_1, .inl (cL, 1024, .inr (.inl (fun _ => 0)))), (q_2, .inl (cL, 1024, .inr (.inl (fun _ => 0))))] H := hP
  have hD : va_D A [(h0, .inr (2, [.ref q_1, .null, .null, .int 0, .null, .null, .null, .int 0])), (q_1, .inl (cL, 1024, .inr (.inl (fun _ => 0)))), (q_2, .inl (cL, 1024, .inr (.inl (fun _ => 0))))] := hD
  refine va_putF (D := D) (ci := 2) (v := .ref q_2) (ty := (.array .long)) (C := rn_TM) (T := fl_TM) (N := 8) hx hb hG in_TM tt_TM tk_TM nn_TM hown hK hP hD hS 0 rfl rfl 1 (by decide) (hG _ k_163) (fun _ h9 => h9) rfl hin rfl (by decide +kernel) rfl rfl (Nat.le_of_ble_eq_true rfl) d_TM_init_19 (fun H locs hP hD hS => ?_)
  have hP : va_P D classes [(h0, .inr (2, [.ref q_1, .ref q_2, .null, .int 0, .null, .null, .null, .int 0])), (q_1, .inl (cL, 1024, .inr (.inl (fun _ => 0)))), (q_2, .inl (cL, 1024, .inr (.inl (fun _ => 0))))] H := hP
  have hD : va_D A [(h0, .inr (2, [.ref q_1, .ref q_2, .null, .int 0, .null, .null, .null, .int 0])), (q_1, .inl (cL, 1024, .inr (.inl (fun _ => 0)))), (q_2, .inl (cL, 1024, .inr (.inl (fun _ => 0))))] := hD
  refine lv_aload_n hx hb d_TM_init_22 rfl (lv_at hl 0 rfl) ?_
  refine lv_sipush (v := 1024) hx hb d_TM_init_23 (by decide) ?_
  refine wp_newa (atype := .int) (ty := .int) (a0 := (1024, .inl (fun _ => 0))) (N' := 1024) hx hb (hG _ k_155) rfl (fun _ h => h) hK 0 rfl hP hD hS hA (fun _ => rfl) (by decide) (by decide) (by decide) (Nat.le_of_ble_eq_true rfl) (Nat.le_of_ble_eq_true rfl) d_TM_init_26 (fun q_3 H hP hD hS => ?_)
  refine W.widen (k := 3) (n := 3072) (Nat.le_of_ble_eq_true rfl) (Nat.le_of_ble_eq_true rfl) ?_
  have hP : va_P D classes [(h0, .inr (2, [.ref q_1, .ref q_2, .null, .int 0, .null, .null, .null, .int 0])), (q_1, .inl (cL, 1024, .inr (.inl (fun _ => 0)))), (q_2, .inl (cL, 1024, .inr (.inl (fun _ => 0)))), (q_3, .inl (cI, 1024, .inl (fun _ => 0)))] H := hP
  have hD : va_D A [(h0, .inr (2, [.ref q_1, .ref q_2, .null, .int 0, .null, .null, .null, .int 0])), (q_1, .inl (cL, 1024, .inr (.inl (fun _ => 0)))), (q_2, .inl (cL, 1024, .inr (.inl (fun _ => 0)))), (q_3, .inl (cI, 1024, .inl (fun _ => 0)))] := hD
  refine va_putF (D := D) (ci := 2) (v := .ref q_3) (ty := (.array .int)) (C := rn_TM) (T := fl_TM) (N := 8) hx hb hG in_TM tt_TM tk_TM nn_TM hown hK hP hD hS 0 rfl rfl 2 (by decide) (hG _ k_164) (fun _ h9 => h9) rfl hin rfl (by decide +kernel) rfl rfl (Nat.le_of_ble_eq_true rfl) d_TM_init_28 (fun H locs hP hD hS => ?_)
  have hP : va_P D classes [(h0, .inr (2, [.ref q_1, .ref q_2, .ref q_3, .int 0, .null, .null, .null, .int 0])), (q_1, .inl (cL, 1024, .inr (.inl (fun _ => 0)))), (q_2, .inl (cL, 1024, .inr (.inl (fun _ => 0)))), (q_3, .inl (cI, 1024, .inl (fun _ => 0)))] H := hP
  have hD : va_D A [(h0, .inr (2, [.ref q_1, .ref q_2, .ref q_3, .int 0, .null, .null, .null, .int 0])), (q_1, .inl (cL, 1024, .inr (.inl (fun _ => 0)))), (q_2, .inl (cL, 1024, .inr (.inl (fun _ => 0)))), (q_3, .inl (cI, 1024, .inl (fun _ => 0)))] := hD
  refine lv_aload_n hx hb d_TM_init_31 rfl (lv_at hl 0 rfl) ?_
  refine lv_iconst (v := 0) hx hb d_TM_init_32 (by decide) ?_
  refine va_put (D := D) (ci := 2) (v := .int 0) (ty := .int) (C := rn_TM) (T := fl_TM) (N := 8) hx hb hG in_TM tt_TM tk_TM nn_TM hown hK hP hD hS 0 rfl rfl 3 (by decide) (hG _ k_165) (fun _ h9 => h9) rfl (by decide +kernel) rfl rfl (Nat.le_of_ble_eq_true rfl) d_TM_init_33 (fun H locs hP hD hS => ?_)
  have hP : va_P D classes [(h0, .inr (2, [.ref q_1, .ref q_2, .ref q_3, .int 0, .null, .null, .null, .int 0])), (q_1, .inl (cL, 1024, .inr (.inl (fun _ => 0)))), (q_2, .inl (cL, 1024, .inr (.inl (fun _ => 0)))), (q_3, .inl (cI, 1024, .inl (fun _ => 0)))] H := hP
  have hD : va_D A [(h0, .inr (2, [.ref q_1, .ref q_2, .ref q_3, .int 0, .null, .null, .null, .int 0])), (q_1, .inl (cL, 1024, .inr (.inl (fun _ => 0)))), (q_2, .inl (cL, 1024, .inr (.inl (fun _ => 0)))), (q_3, .inl (cI, 1024, .inl (fun _ => 0)))] := hD
  refine lv_aload_n hx hb d_TM_init_36 rfl (lv_at hl 0 rfl) ?_
  refine lv_sipush (v := 1024) hx hb d_TM_init_37 (by decide) ?_
  refine wp_newa (atype := .int) (ty := .int) (a0 := (1024, .inl (fun _ => 0))) (N' := 1024) hx hb (hG _ k_155) rfl (fun _ h => h) hK 0 rfl hP hD hS hA (fun _ => rfl) (by decide) (by decide) (by decide) (Nat.le_of_ble_eq_true rfl) (Nat.le_of_ble_eq_true rfl) d_TM_init_40 (fun q_4 H hP hD hS => ?_)
  refine W.widen (k := 4) (n := 4096) (Nat.le_of_ble_eq_true rfl) (Nat.le_of_ble_eq_true rfl) ?_
  have hP : va_P D classes [(h0, .inr (2, [.ref q_1, .ref q_2, .ref q_3, .int 0, .null, .null, .null, .int 0])), (q_1, .inl (cL, 1024, .inr (.inl (fun _ => 0)))), (q_2, .inl (cL, 1024, .inr (.inl (fun _ => 0)))), (q_3, .inl (cI, 1024, .inl (fun _ => 0))), (q_4, .inl (cI, 1024, .inl (fun _ => 0)))] H := hP
  have hD : va_D A [(h0, .inr (2, [.ref q_1, .ref q_2, .ref q_3, .int 0, .null, .null, .null, .int 0])), (q_1, .inl (cL, 1024, .inr (.inl (fun _ => 0)))), (q_2, .inl (cL, 1024, .inr (.inl (fun _ => 0)))), (q_3, .inl (cI, 1024, .inl (fun _ => 0))), (q_4, .inl (cI, 1024, .inl (fun _ => 0)))] := hD
  refine va_putF (D := D) (ci := 2) (v := .ref q_4) (ty := (.array .int)) (C := rn_TM) (T := fl_TM) (N := 8) hx hb hG in_TM tt_TM tk_TM nn_TM hown hK hP hD hS 0 rfl rfl 4 (by decide) (hG _ k_166) (fun _ h9 => h9) rfl hin rfl (by decide +kernel) rfl rfl (Nat.le_of_ble_eq_true rfl) d_TM_init_42 (fun H locs hP hD hS => ?_)
  have hP : va_P D classes [(h0, .inr (2, [.ref q_1, .ref q_2, .ref q_3, .int 0, .ref q_4, .null, .null, .int 0])), (q_1, .inl (cL, 1024, .inr (.inl (fun _ => 0)))), (q_2, .inl (cL, 1024, .inr (.inl (fun _ => 0)))), (q_3, .inl (cI, 1024, .inl (fun _ => 0))), (q_4, .inl (cI, 1024, .inl (fun _ => 0)))] H := hP
  have hD : va_D A [(h0, .inr (2, [.ref q_1, .ref q_2, .ref q_3, .int 0, .ref q_4, .null, .null, .int 0])), (q_1, .inl (cL, 1024, .inr (.inl (fun _ => 0)))), (q_2, .inl (cL, 1024, .inr (.inl (fun _ => 0)))), (q_3, .inl (cI, 1024, .inl (fun _ => 0))), (q_4, .inl (cI, 1024, .inl (fun _ => 0)))] := hD
  refine lv_aload_n hx hb d_TM_init_45 rfl (lv_at hl 0 rfl) ?_
  refine lv_sipush (v := 1024) hx hb d_TM_init_46 (by decide) ?_
  refine wp_newa (atype := .boolean) (ty := .boolean) (a0 := (1024, .inl (fun _ => 0))) (N' := 1024) hx hb (hG _ k_188) rfl (fun _ h => h) hK 2 rfl hP hD hS hA (fun _ => rfl) (by decide) (by decide) (by decide) (Nat.le_of_ble_eq_true rfl) (Nat.le_of_ble_eq_true rfl) d_TM_init_49 (fun q_5 H hP hD hS => ?_)
  refine W.widen (k := 5) (n := 5120) (Nat.le_of_ble_eq_true rfl) (Nat.le_of_ble_eq_true rfl) ?_
  have hP : va_P D classes [(h0, .inr (2, [.ref q_1, .ref q_2, .ref q_3, .int 0, .ref q_4, .null, .null, .int 0])), (q_1, .inl (cL, 1024, .inr (.inl (fun _ => 0)))), (q_2, .inl (cL, 1024, .inr (.inl (fun _ => 0)))), (q_3, .inl (cI, 1024, .inl (fun _ => 0))), (q_4, .inl (cI, 1024, .inl (fun _ => 0))), (q_5, .inl (cZ, 1024, .inl (fun _ => 0)))] H := hP
  have hD : va_D A [(h0, .inr (2, [.ref q_1, .ref q_2, .ref q_3, .int 0, .ref q_4, .null, .null, .int 0])), (q_1, .inl (cL, 1024, .inr (.inl (fun _ => 0)))), (q_2, .inl (cL, 1024, .inr (.inl (fun _ => 0)))), (q_3, .inl (cI, 1024, .inl (fun _ => 0))), (q_4, .inl (cI, 1024, .inl (fun _ => 0))), (q_5, .inl (cZ, 1024, .inl (fun _ => 0)))] := hD
  refine va_putF (D := D) (ci := 2) (v := .ref q_5) (ty := (.array .boolean)) (C := rn_TM) (T := fl_TM) (N := 8) hx hb hG in_TM tt_TM tk_TM nn_TM hown hK hP hD hS 0 rfl rfl 5 (by decide) (hG _ k_167) (fun _ h9 => h9) rfl hin rfl (by decide +kernel) rfl rfl (Nat.le_of_ble_eq_true rfl) d_TM_init_51 (fun H locs hP hD hS => ?_)
  have hP : va_P D classes [(h0, .inr (2, [.ref q_1, .ref q_2, .ref q_3, .int 0, .ref q_4, .ref q_5, .null, .int 0])), (q_1, .inl (cL, 1024, .inr (.inl (fun _ => 0)))), (q_2, .inl (cL, 1024, .inr (.inl (fun _ => 0)))), (q_3, .inl (cI, 1024, .inl (fun _ => 0))), (q_4, .inl (cI, 1024, .inl (fun _ => 0))), (q_5, .inl (cZ, 1024, .inl (fun _ => 0)))] H := hP
  have hD : va_D A [(h0, .inr (2, [.ref q_1, .ref q_2, .ref q_3, .int 0, .ref q_4, .ref q_5, .null, .int 0])), (q_1, .inl (cL, 1024, .inr (.inl (fun _ => 0)))), (q_2, .inl (cL, 1024, .inr (.inl (fun _ => 0)))), (q_3, .inl (cI, 1024, .inl (fun _ => 0))), (q_4, .inl (cI, 1024, .inl (fun _ => 0))), (q_5, .inl (cZ, 1024, .inl (fun _ => 0)))] := hD
  refine lv_aload_n hx hb d_TM_init_54 rfl (lv_at hl 0 rfl) ?_
  refine lv_sipush (v := 1024) hx hb d_TM_init_55 (by decide) ?_
  refine wp_newa (atype := .long) (ty := .long) (a0 := (1024, .inr (.inl (fun _ => 0)))) (N' := 1024) hx hb (hG _ k_187) rfl (fun _ h => h) hK 1 rfl hP hD hS hA (fun _ => rfl) (by decide) (by decide) (by decide) (Nat.le_of_ble_eq_true rfl) (Nat.le_of_ble_eq_true rfl) d_TM_init_58 (fun q_6 H hP hD hS => ?_)
  refine W.widen (k := 6) (n := 6144) (Nat.le_of_ble_eq_true rfl) (Nat.le_of_ble_eq_true rfl) ?_
  have hP : va_P D classes [(h0, .inr (2, [.ref q_1, .ref q_2, .ref q_3, .int 0, .ref q_4, .ref q_5, .null, .int 0])), (q_1, .inl (cL, 1024, .inr (.inl (fun _ => 0)))), (q_2, .inl (cL, 1024, .inr (.inl (fun _ => 0)))), (q_3, .inl (cI, 1024, .inl (fun _ => 0))), (q_4, .inl (cI, 1024, .inl (fun _ => 0))), (q_5, .inl (cZ, 1024, .inl (fun _ => 0))), (q_6, .inl (cL, 1024, .inr (.inl (fun _ => 0))))] H := hP
  have hD : va_D A [(h0, .inr (2, [.ref q_1, .ref q_2, .ref q_3, .int 0, .ref q_4, .ref q_5, .null, .int 0])), (q_1, .inl (cL, 1024, .inr (.inl (fun _ => 0)))), (q_2, .inl (cL, 1024, .inr (.inl (fun _ => 0)))), (q_3, .inl (cI, 1024, .inl (fun _ => 0))), (q_4, .inl (cI, 1024, .inl (fun _ => 0))), (q_5, .inl (cZ, 1024, .inl (fun _ => 0))), (q_6, .inl (cL, 1024, .inr (.inl (fun _ => 0))))] := hD
  refine va_putF (D := D) (ci := 2) (v := .ref q_6) (ty := (.array .long)) (C := rn_TM) (T := fl_TM) (N := 8) hx hb hG in_TM tt_TM tk_TM nn_TM hown hK hP hD hS 0 rfl rfl 6 (by decide) (hG _ k_168) (fun _ h9 => h9) rfl hin rfl (by decide +kernel) rfl rfl (Nat.le_of_ble_eq_true rfl) d_TM_init_60 (fun H locs hP hD hS => ?_)
  have hP : va_P D classes [(h0, .inr (2, [.ref q_1, .ref q_2, .ref q_3, .int 0, .ref q_4, .ref q_5, .ref q_6, .int 0])), (q_1, .inl (cL, 1024, .inr (.inl (fun _ => 0)))), (q_2, .inl (cL, 1024, .inr (.inl (fun _ => 0)))), (q_3, .inl (cI, 1024, .inl (fun _ => 0))), (q_4, .inl (cI, 1024, .inl (fun _ => 0))), (q_5, .inl (cZ, 1024, .inl (fun _ => 0))), (q_6, .inl (cL, 1024, .inr (.inl (fun _ => 0))))] H := hP
  have hD : va_D A [(h0, .inr (2, [.ref q_1, .ref q_2, .ref q_3, .int 0, .ref q_4, .ref q_5, .ref q_6, .int 0])), (q_1, .inl (cL, 1024, .inr (.inl (fun _ => 0)))), (q_2, .inl (cL, 1024, .inr (.inl (fun _ => 0)))), (q_3, .inl (cI, 1024, .inl (fun _ => 0))), (q_4, .inl (cI, 1024, .inl (fun _ => 0))), (q_5, .inl (cZ, 1024, .inl (fun _ => 0))), (q_6, .inl (cL, 1024, .inr (.inl (fun _ => 0))))] := hD
  refine lv_aload_n hx hb d_TM_init_63 rfl (lv_at hl 0 rfl) ?_
  refine lv_iconst (v := 0) hx hb d_TM_init_64 (by decide) ?_
  refine va_put (D := D) (ci := 2) (v := .int 0) (ty := .boolean) (C := rn_TM) (T := fl_TM) (N := 8) hx hb hG in_TM tt_TM tk_TM nn_TM hown hK hP hD hS 0 rfl rfl 7 (by decide) (hG _ k_169) (fun _ h9 => h9) rfl (by decide +kernel) rfl rfl (Nat.le_of_ble_eq_true rfl) d_TM_init_65 (fun H locs hP hD hS => ?_)
  have hP : va_P D classes [(h0, .inr (2, [.ref q_1, .ref q_2, .ref q_3, .int 0, .ref q_4, .ref q_5, .ref q_6, .int 0])), (q_1, .inl (cL, 1024, .inr (.inl (fun _ => 0)))), (q_2, .inl (cL, 1024, .inr (.inl (fun _ => 0)))), (q_3, .inl (cI, 1024, .inl (fun _ => 0))), (q_4, .inl (cI, 1024, .inl (fun _ => 0))), (q_5, .inl (cZ, 1024, .inl (fun _ => 0))), (q_6, .inl (cL, 1024, .inr (.inl (fun _ => 0))))] H := hP
  have hD : va_D A [(h0, .inr (2, [.ref q_1, .ref q_2, .ref q_3, .int 0, .ref q_4, .ref q_5, .ref q_6, .int 0])), (q_1, .inl (cL, 1024, .inr (.inl (fun _ => 0)))), (q_2, .inl (cL, 1024, .inr (.inl (fun _ => 0)))), (q_3, .inl (cI, 1024, .inl (fun _ => 0))), (q_4, .inl (cI, 1024, .inl (fun _ => 0))), (q_5, .inl (cZ, 1024, .inl (fun _ => 0))), (q_6, .inl (cL, 1024, .inr (.inl (fun _ => 0))))] := hD
  refine W.widen (k := 6) (n := 6144) (Nat.le_of_ble_eq_true rfl) (Nat.le_of_ble_eq_true rfl) ?_
  exact wp_vret hx hb hr hlocks hP hD hK hS (fun i => [q_1, q_2, q_3, q_4, q_5, q_6].getD i 0) [0, 1, 2, 3, 4, 5, 6] (by decide) rfl trivial d_TM_init_68
set_option maxHeartbeats 4000000 in
set_option maxRecDepth 100000 in
theorem c_RD_init (l : Launch) (D : va_G) (cI cL cZ cC : ClassId) (h0 : Nat) (lx : Nat) (tm : Nat) (sz : Nat) : Met l y_RD_init (wz y_RD_init b_RD_init 3 none) ({ frames := 1, cells := 4, slots := 130, locals := 12 }) (va_Pc [.ref h0, .ref lx, .ref tm] (wp_pre D (tys4 cI cL cZ cC) [(h0, .inr (3, [.null, .null, .int 0, .null, .int 0, .null, .int 0, .long 0, .null, .int 0, .null, .int 0]))] sz)) (va_Qv (fun _ : Nat → Nat => True) (fun (u : Nat → Nat) t => wp_post D (tys4 cI cL cZ cC) (va_A [(h0, .inr (3, [.null, .null, .int 0, .null, .int 0, .null, .int 0, .long 0, .null, .int 0, .null, .int 0]))] sz) [(h0, .inr (3, [.ref lx, .ref tm, .int 0, .ref (u 0), .int 0, .ref (u 1), .int 0, .long 0, .ref (u 2), .int 0, .ref (u 3), .int 0])), ((u 0), .inl (cI, 8, .inl (fun _ => 0))), ((u 1), .inl (cL, 8, .inr (.inl (fun _ => 0)))), ((u 2), .inl (cI, 14, .inl (fun _ => 0))), ((u 3), .inl (cL, 100, .inr (.inl (fun _ => 0))))] t) (va_A [(h0, .inr (3, [.null, .null, .int 0, .null, .int 0, .null, .int 0, .long 0, .null, .int 0, .null, .int 0]))] sz)) 4 130 (va_A [(h0, .inr (3, [.null, .null, .int 0, .null, .int 0, .null, .int 0, .long 0, .null, .int 0, .null, .int 0]))] sz) := by
  refine Met.ofW (cc := b_RD_init) (maxL := 3) (ret := none) (by decide) rfl ?_
  intro p e s m args below meth c s₁ B hml hv
  obtain ⟨rfl, hsz, hP, hK, hD0⟩ := hv
  have hx := B.exec
  have hb := B.bytes
  have hr := B.returns
  have hts := atoms_spec (ws := wz y_RD_init b_RD_init 3 none) B.pre
  have hG := wz_G hts
  have hown : s.vm.findClass rn_RD = some m.cls := findClass_of_methodNamed B.named
  have hlocks := B.notSynchronized
  have hin : meth.name = "<init>" := (name_of_methodNamed B.named B.method).1
  subst hsz
  have hD := hD0.self (sz := s.heap.size)
  generalize hAe : va_A [(h0, .inr (3, [.null, .null, .int 0, .null, .int 0, .null, .int 0, .long 0, .null, .int 0, .null, .int 0]))] s.heap.size = A at hD ⊢
  have hA : ∀ q : Nat, s.heap.size ≤ q → A q := fun q h => by rw [← hAe]; exact Or.inr h
  have hS : va_S A s.heap s.heap [] := va_S.rf
  have hl := lv_entry ([.ref h0, .ref lx, .ref tm]) (n := 3) (Nat.le_of_ble_eq_true rfl)
  rw [lg_entry_eq]
  generalize (lg_sl ([.ref h0, .ref lx, .ref tm]) ++ List.replicate (3 - (lg_sl ([.ref h0, .ref lx, .ref tm])).length) Slot.unset).toArray = ls at hl ⊢
  have hl : lv_has ls 3 [(0, .ref h0), (1, .ref lx), (2, .ref tm)] := hl
  refine lv_aload_n hx hb d_RD_init_0 rfl (lv_at hl 0 rfl) ?_
  refine W.objInit hx hb hown (hG _ k_194) (hG _ k_136) (hG _ k_137) rfl (by rw [hml]; exact hl.1) rfl d_RD_init_1 (Nat.le_of_ble_eq_true rfl) (Nat.le_of_ble_eq_true rfl) ?_
  refine W.eq (g2 := F0 m 4 ls []) rfl ?_
  refine lv_aload_n hx hb d_RD_init_4 rfl (lv_at hl 0 rfl) ?_
  refine lv_aload_n hx hb d_RD_init_5 rfl (lv_at hl 1 rfl) ?_
  refine va_putF (D := D) (ci := 3) (v := .ref lx) (ty := (.object "TurnerHeap$Lexemes")) (C := rn_RD) (T := fl_RD) (N := 12) hx hb hG in_RD tt_RD tk_RD nn_RD hown hK hP hD hS 0 rfl rfl 0 (by decide) (hG _ k_195) (fun _ h9 => h9) rfl hin rfl (by decide +kernel) rfl rfl (Nat.le_of_ble_eq_true rfl) d_RD_init_6 (fun H locs hP hD hS => ?_)
  have hP : va_P D classes [(h0, .inr (3, [.ref lx, .null, .int 0, .null, .int 0, .null, .int 0, .long 0, .null, .int 0, .null, .int 0]))] H := hP
  have hD : va_D A [(h0, .inr (3, [.ref lx, .null, .int 0, .null, .int 0, .null, .int 0, .long 0, .null, .int 0, .null, .int 0]))] := hD
  refine lv_aload_n hx hb d_RD_init_9 rfl (lv_at hl 0 rfl) ?_
  refine lv_aload_n hx hb d_RD_init_10 rfl (lv_at hl 2 rfl) ?_
  refine va_putF (D := D) (ci := 3) (v := .ref tm) (ty := (.object "TurnerHeap$Terms")) (C := rn_RD) (T := fl_RD) (N := 12) hx hb hG in_RD tt_RD tk_RD nn_RD hown hK hP hD hS 0 rfl rfl 1 (by decide) (hG _ k_196) (fun _ h9 => h9) rfl hin rfl (by decide +kernel) rfl rfl (Nat.le_of_ble_eq_true rfl) d_RD_init_11 (fun H locs hP hD hS => ?_)
  have hP : va_P D classes [(h0, .inr (3, [.ref lx, .ref tm, .int 0, .null, .int 0, .null, .int 0, .long 0, .null, .int 0, .null, .int 0]))] H := hP
  have hD : va_D A [(h0, .inr (3, [.ref lx, .ref tm, .int 0, .null, .int 0, .null, .int 0, .long 0, .null, .int 0, .null, .int 0]))] := hD
  refine lv_aload_n hx hb d_RD_init_14 rfl (lv_at hl 0 rfl) ?_
  refine lv_bipush (v := 8) hx hb d_RD_init_15 (by decide) ?_
  refine wp_newa (atype := .int) (ty := .int) (a0 := (8, .inl (fun _ => 0))) (N' := 8) hx hb (hG _ k_155) rfl (fun _ h => h) hK 0 rfl hP hD hS hA (fun _ => rfl) (by decide) (by decide) (by decide) (Nat.le_of_ble_eq_true rfl) (Nat.le_of_ble_eq_true rfl) d_RD_init_17 (fun q_1 H hP hD hS => ?_)
  refine W.widen (k := 1) (n := 8) (Nat.le_of_ble_eq_true rfl) (Nat.le_of_ble_eq_true rfl) ?_
  have hP : va_P D classes [(h0, .inr (3, [.ref lx, .ref tm, .int 0, .null, .int 0, .null, .int 0, .long 0, .null, .int 0, .null, .int 0])), (q_1, .inl (cI, 8, .inl (fun _ => 0)))] H := hP
  have hD : va_D A [(h0, .inr (3, [.ref lx, .ref tm, .int 0, .null, .int 0, .null, .int 0, .long 0, .null, .int 0, .null, .int 0])), (q_1, .inl (cI, 8, .inl (fun _ => 0)))] := hD
  refine va_putF (D := D) (ci := 3) (v := .ref q_1) (ty := (.array .int)) (C := rn_RD) (T := fl_RD) (N := 12) hx hb hG in_RD tt_RD tk_RD nn_RD hown hK hP hD hS 0 rfl rfl 3 (by decide) (hG _ k_198) (fun _ h9 => h9) rfl hin rfl (by decide +kernel) rfl rfl (Nat.le_of_ble_eq_true rfl) d_RD_init_19 (fun H locs hP hD hS => ?_)
  have hP : va_P D classes [(h0, .inr (3, [.ref lx, .ref tm, .int 0, .ref q_1, .int 0, .null, .int 0, .long 0, .null, .int 0, .null, .int 0])), (q_1, .inl (cI, 8, .inl (fun _ => 0)))] H := hP
  have hD : va_D A [(h0, .inr (3, [.ref lx, .ref tm, .int 0, .ref q_1, .int 0, .null, .int 0, .long 0, .null, .int 0, .null, .int 0])), (q_1, .inl (cI, 8, .inl (fun _ => 0)))] := hD
  refine lv_aload_n hx hb d_RD_init_22 rfl (lv_at hl 0 rfl) ?_
  refine lv_bipush (v := 8) hx hb d_RD_init_23 (by decide) ?_
  refine wp_newa (atype := .long) (ty := .long) (a0 := (8, .inr (.inl (fun _ => 0)))) (N' := 8) hx hb (hG _ k_187) rfl (fun _ h => h) hK 1 rfl hP hD hS hA (fun _ => rfl) (by decide) (by decide) (by decide) (Nat.le_of_ble_eq_true rfl) (Nat.le_of_ble_eq_true rfl) d_RD_init_25 (fun q_2 H hP hD hS => ?_)
  refine W.widen (k := 2) (n := 16) (Nat.le_of_ble_eq_true rfl) (Nat.le_of_ble_eq_true rfl) ?_
  have hP : va_P D classes [(h0, .inr (3, [.ref lx, .ref tm, .int 0, .ref q_1, .int 0, .null, .int 0, .long 0, .null, .int 0, .null, .int 0])), (q_1, .inl (cI, 8, .inl (fun _ => 0))), (q_2, .inl (cL, 8, .inr (.inl (fun _ => 0))))] H := hP
  have hD : va_D A [(h0, .inr (3, [.ref lx, .ref tm, .int 0, .ref q_1, .int 0, .null, .int 0, .long 0, .null, .int 0, .null, .int 0])), (q_1, .inl (cI, 8, .inl (fun _ => 0))), (q_2, .inl (cL, 8, .inr (.inl (fun _ => 0))))] := hD
  refine va_putF (D := D) (ci := 3) (v := .ref q_2) (ty := (.array .long)) (C := rn_RD) (T := fl_RD) (N := 12) hx hb hG in_RD tt_RD tk_RD nn_RD hown hK hP hD hS 0 rfl rfl 5 (by decide) (hG _ k_200) (fun _ h9 => h9) rfl hin rfl (by decide +kernel) rfl rfl (Nat.le_of_ble_eq_true rfl) d_RD_init_27 (fun H locs hP hD hS => ?_)
  have hP : va_P D classes [(h0, .inr (3, [.ref lx, .ref tm, .int 0, .ref q_1, .int 0, .ref q_2, .int 0, .long 0, .null, .int 0, .null, .int 0])), (q_1, .inl (cI, 8, .inl (fun _ => 0))), (q_2, .inl (cL, 8, .inr (.inl (fun _ => 0))))] H := hP
  have hD : va_D A [(h0, .inr (3, [.ref lx, .ref tm, .int 0, .ref q_1, .int 0, .ref q_2, .int 0, .long 0, .null, .int 0, .null, .int 0])), (q_1, .inl (cI, 8, .inl (fun _ => 0))), (q_2, .inl (cL, 8, .inr (.inl (fun _ => 0))))] := hD
  refine lv_aload_n hx hb d_RD_init_30 rfl (lv_at hl 0 rfl) ?_
  refine lv_bipush (v := 14) hx hb d_RD_init_31 (by decide) ?_
  refine wp_newa (atype := .int) (ty := .int) (a0 := (14, .inl (fun _ => 0))) (N' := 14) hx hb (hG _ k_155) rfl (fun _ h => h) hK 0 rfl hP hD hS hA (fun _ => rfl) (by decide) (by decide) (by decide) (Nat.le_of_ble_eq_true rfl) (Nat.le_of_ble_eq_true rfl) d_RD_init_33 (fun q_3 H hP hD hS => ?_)
  refine W.widen (k := 3) (n := 30) (Nat.le_of_ble_eq_true rfl) (Nat.le_of_ble_eq_true rfl) ?_
  have hP : va_P D classes [(h0, .inr (3, [.ref lx, .ref tm, .int 0, .ref q_1, .int 0, .ref q_2, .int 0, .long 0, .null, .int 0, .null, .int 0])), (q_1, .inl (cI, 8, .inl (fun _ => 0))), (q_2, .inl (cL, 8, .inr (.inl (fun _ => 0)))), (q_3, .inl (cI, 14, .inl (fun _ => 0)))] H := hP
  have hD : va_D A [(h0, .inr (3, [.ref lx, .ref tm, .int 0, .ref q_1, .int 0, .ref q_2, .int 0, .long 0, .null, .int 0, .null, .int 0])), (q_1, .inl (cI, 8, .inl (fun _ => 0))), (q_2, .inl (cL, 8, .inr (.inl (fun _ => 0)))), (q_3, .inl (cI, 14, .inl (fun _ => 0)))] := hD
  refine va_putF (D := D) (ci := 3) (v := .ref q_3) (ty := (.array .int)) (C := rn_RD) (T := fl_RD) (N := 12) hx hb hG in_RD tt_RD tk_RD nn_RD hown hK hP hD hS 0 rfl rfl 8 (by decide) (hG _ k_203) (fun _ h9 => h9) rfl hin rfl (by decide +kernel) rfl rfl (Nat.le_of_ble_eq_true rfl) d_RD_init_35 (fun H locs hP hD hS => ?_)
  have hP : va_P D classes [(h0, .inr (3, [.ref lx, .ref tm, .int 0, .ref q_1, .int 0, .ref q_2, .int 0, .long 0, .ref q_3, .int 0, .null, .int 0])), (q_1, .inl (cI, 8, .inl (fun _ => 0))), (q_2, .inl (cL, 8, .inr (.inl (fun _ => 0)))), (q_3, .inl (cI, 14, .inl (fun _ => 0)))] H := hP
  have hD : va_D A [(h0, .inr (3, [.ref lx, .ref tm, .int 0, .ref q_1, .int 0, .ref q_2, .int 0, .long 0, .ref q_3, .int 0, .null, .int 0])), (q_1, .inl (cI, 8, .inl (fun _ => 0))), (q_2, .inl (cL, 8, .inr (.inl (fun _ => 0)))), (q_3, .inl (cI, 14, .inl (fun _ => 0)))] := hD
  refine lv_aload_n hx hb d_RD_init_38 rfl (lv_at hl 0 rfl) ?_
  refine lv_bipush (v := 100) hx hb d_RD_init_39 (by decide) ?_
  refine wp_newa (atype := .long) (ty := .long) (a0 := (100, .inr (.inl (fun _ => 0)))) (N' := 100) hx hb (hG _ k_187) rfl (fun _ h => h) hK 1 rfl hP hD hS hA (fun _ => rfl) (by decide) (by decide) (by decide) (Nat.le_of_ble_eq_true rfl) (Nat.le_of_ble_eq_true rfl) d_RD_init_41 (fun q_4 H hP hD hS => ?_)
  refine W.widen (k := 4) (n := 130) (Nat.le_of_ble_eq_true rfl) (Nat.le_of_ble_eq_true rfl) ?_
  have hP : va_P D classes [(h0, .inr (3, [.ref lx, .ref tm, .int 0, .ref q_1, .int 0, .ref q_2, .int 0, .long 0, .ref q_3, .int 0, .null, .int 0])), (q_1, .inl (cI, 8, .inl (fun _ => 0))), (q_2, .inl (cL, 8, .inr (.inl (fun _ => 0)))), (q_3, .inl (cI, 14, .inl (fun _ => 0))), (q_4, .inl (cL, 100, .inr (.inl (fun _ => 0))))] H := hP
  have hD : va_D A [(h0, .inr (3, [.ref lx, .ref tm, .int 0, .ref q_1, .int 0, .ref q_2, .int 0, .long 0, .ref q_3, .int 0, .null, .int 0])), (q_1, .inl (cI, 8, .inl (fun _ => 0))), (q_2, .inl (cL, 8, .inr (.inl (fun _ => 0)))), (q_3, .inl (cI, 14, .inl (fun _ => 0))), (q_4, .inl (cL, 100, .inr (.inl (fun _ => 0))))] := hD
  refine va_putF (D := D) (ci := 3) (v := .ref q_4) (ty := (.array .long)) (C := rn_RD) (T := fl_RD) (N := 12) hx hb hG in_RD tt_RD tk_RD nn_RD hown hK hP hD hS 0 rfl rfl 10 (by decide) (hG _ k_205) (fun _ h9 => h9) rfl hin rfl (by decide +kernel) rfl rfl (Nat.le_of_ble_eq_true rfl) d_RD_init_43 (fun H locs hP hD hS => ?_)
  have hP : va_P D classes [(h0, .inr (3, [.ref lx, .ref tm, .int 0, .ref q_1, .int 0, .ref q_2, .int 0, .long 0, .ref q_3, .int 0, .ref q_4, .int 0])), (q_1, .inl (cI, 8, .inl (fun _ => 0))), (q_2, .inl (cL, 8, .inr (.inl (fun _ => 0)))), (q_3, .inl (cI, 14, .inl (fun _ => 0))), (q_4, .inl (cL, 100, .inr (.inl (fun _ => 0))))] H := hP
  have hD : va_D A [(h0, .inr (3, [.ref lx, .ref tm, .int 0, .ref q_1, .int 0, .ref q_2, .int 0, .long 0, .ref q_3, .int 0, .ref q_4, .int 0])), (q_1, .inl (cI, 8, .inl (fun _ => 0))), (q_2, .inl (cL, 8, .inr (.inl (fun _ => 0)))), (q_3, .inl (cI, 14, .inl (fun _ => 0))), (q_4, .inl (cL, 100, .inr (.inl (fun _ => 0))))] := hD
  refine W.widen (k := 4) (n := 130) (Nat.le_of_ble_eq_true rfl) (Nat.le_of_ble_eq_true rfl) ?_
  exact wp_vret hx hb hr hlocks hP hD hK hS (fun i => [q_1, q_2, q_3, q_4].getD i 0) [0, 1, 2, 3, 4] (by decide) rfl trivial d_RD_init_46
set_option maxHeartbeats 4000000 in
set_option maxRecDepth 100000 in
theorem c_FM_init (l : Launch) (D : va_G) (cI cL cZ cC : ClassId) (h0 : Nat) (sz : Nat) : Met l y_FM_init (wz y_FM_init b_FM_init 1 none) ({ frames := 1, cells := 1, slots := 27, locals := 12 }) (va_Pc [.ref h0] (wp_pre D (tys4 cI cL cZ cC) [(h0, .inr (4, [.null]))] sz)) (va_Qv (fun _ : Nat → Nat => True) (fun (u : Nat → Nat) t => wp_post D (tys4 cI cL cZ cC) (va_A [(h0, .inr (4, [.null]))] sz) [(h0, .inr (4, [.ref (u 0)])), ((u 0), .inl (cI, 27, .inl (fun _ => 0)))] t) (va_A [(h0, .inr (4, [.null]))] sz)) 1 27 (va_A [(h0, .inr (4, [.null]))] sz) := by
  refine Met.ofW (cc := b_FM_init) (maxL := 1) (ret := none) (by decide) rfl ?_
  intro p e s m args below meth c s₁ B hml hv
  obtain ⟨rfl, hsz, hP, hK, hD0⟩ := hv
  have hx := B.exec
  have hb := B.bytes
  have hr := B.returns
  have hts := atoms_spec (ws := wz y_FM_init b_FM_init 1 none) B.pre
  have hG := wz_G hts
  have hown : s.vm.findClass rn_FM = some m.cls := findClass_of_methodNamed B.named
  have hlocks := B.notSynchronized
  have hin : meth.name = "<init>" := (name_of_methodNamed B.named B.method).1
  subst hsz
  have hD := hD0.self (sz := s.heap.size)
  generalize hAe : va_A [(h0, .inr (4, [.null]))] s.heap.size = A at hD ⊢
  have hA : ∀ q : Nat, s.heap.size ≤ q → A q := fun q h => by rw [← hAe]; exact Or.inr h
  have hS : va_S A s.heap s.heap [] := va_S.rf
  have hl := lv_entry ([.ref h0]) (n := 1) (Nat.le_of_ble_eq_true rfl)
  rw [lg_entry_eq]
  generalize (lg_sl ([.ref h0]) ++ List.replicate (1 - (lg_sl ([.ref h0])).length) Slot.unset).toArray = ls at hl ⊢
  have hl : lv_has ls 1 [(0, .ref h0)] := hl
  refine lv_aload_n hx hb d_FM_init_0 rfl (lv_at hl 0 rfl) ?_
  refine W.objInit hx hb hown (hG _ k_237) (hG _ k_136) (hG _ k_137) rfl (by rw [hml]; exact hl.1) rfl d_FM_init_1 (Nat.le_of_ble_eq_true rfl) (Nat.le_of_ble_eq_true rfl) ?_
  refine W.eq (g2 := F0 m 4 ls []) rfl ?_
  refine lv_aload_n hx hb d_FM_init_4 rfl (lv_at hl 0 rfl) ?_
  refine lv_bipush (v := 27) hx hb d_FM_init_5 (by decide) ?_
  refine wp_newa (atype := .int) (ty := .int) (a0 := (27, .inl (fun _ => 0))) (N' := 27) hx hb (hG _ k_155) rfl (fun _ h => h) hK 0 rfl hP hD hS hA (fun _ => rfl) (by decide) (by decide) (by decide) (Nat.le_of_ble_eq_true rfl) (Nat.le_of_ble_eq_true rfl) d_FM_init_7 (fun q_1 H hP hD hS => ?_)
  refine W.widen (k := 1) (n := 27) (Nat.le_of_ble_eq_true rfl) (Nat.le_of_ble_eq_true rfl) ?_
  have hP : va_P D classes [(h0, .inr (4, [.null])), (q_1, .inl (cI, 27, .inl (fun _ => 0)))] H := hP
  have hD : va_D A [(h0, .inr (4, [.null])), (q_1, .inl (cI, 27, .inl (fun _ => 0)))] := hD
  refine va_putF (D := D) (ci := 4) (v := .ref q_1) (ty := (.array .int)) (C := rn_FM) (T := fl_FM) (N := 1) hx hb hG in_FM tt_FM tk_FM nn_FM hown hK hP hD hS 0 rfl rfl 0 (by decide) (hG _ k_238) (fun _ h9 => h9) rfl hin rfl (by decide +kernel) rfl rfl (Nat.le_of_ble_eq_true rfl) d_FM_init_9 (fun H locs hP hD hS => ?_)
  have hP : va_P D classes [(h0, .inr (4, [.ref q_1])), (q_1, .inl (cI, 27, .inl (fun _ => 0)))] H := hP
  have hD : va_D A [(h0, .inr (4, [.ref q_1])), (q_1, .inl (cI, 27, .inl (fun _ => 0)))] := hD
  refine W.widen (k := 1) (n := 27) (Nat.le_of_ble_eq_true rfl) (Nat.le_of_ble_eq_true rfl) ?_
  exact wp_vret hx hb hr hlocks hP hD hK hS (fun i => [q_1].getD i 0) [0, 1] (by decide) rfl trivial d_FM_init_12
set_option maxHeartbeats 4000000 in
set_option maxRecDepth 100000 in
theorem c_PP_init (l : Launch) (D : va_G) (cI cL cZ cC : ClassId) (h0 : Nat) (sz : Nat) : Met l y_PP_init (wz y_PP_init b_PP_init 1 none) ({ frames := 1, cells := 2, slots := 210, locals := 12 }) (va_Pc [.ref h0] (wp_pre D (tys4 cI cL cZ cC) [(h0, .inr (6, [.null, .null, .int 0]))] sz)) (va_Qv (fun _ : Nat → Nat => True) (fun (u : Nat → Nat) t => wp_post D (tys4 cI cL cZ cC) (va_A [(h0, .inr (6, [.null, .null, .int 0]))] sz) [(h0, .inr (6, [.ref (u 0), .ref (u 1), .int 0])), ((u 0), .inl (cC, 200, .inl (fun _ => 0))), ((u 1), .inl (cC, 10, .inl (fun _ => 0)))] t) (va_A [(h0, .inr (6, [.null, .null, .int 0]))] sz)) 2 210 (va_A [(h0, .inr (6, [.null, .null, .int 0]))] sz) := by
  refine Met.ofW (cc := b_PP_init) (maxL := 1) (ret := none) (by decide) rfl ?_
  intro p e s m args below meth c s₁ B hml hv
  obtain ⟨rfl, hsz, hP, hK, hD0⟩ := hv
  have hx := B.exec
  have hb := B.bytes
  have hr := B.returns
  have hts := atoms_spec (ws := wz y_PP_init b_PP_init 1 none) B.pre
  have hG := wz_G hts
  have hown : s.vm.findClass rn_PP = some m.cls := findClass_of_methodNamed B.named
  have hlocks := B.notSynchronized
  have hin : meth.name = "<init>" := (name_of_methodNamed B.named B.method).1
  subst hsz
  have hD := hD0.self (sz := s.heap.size)
  generalize hAe : va_A [(h0, .inr (6, [.null, .null, .int 0]))] s.heap.size = A at hD ⊢
  have hA : ∀ q : Nat, s.heap.size ≤ q → A q := fun q h => by rw [← hAe]; exact Or.inr h
  have hS : va_S A s.heap s.heap [] := va_S.rf
  have hl := lv_entry ([.ref h0]) (n := 1) (Nat.le_of_ble_eq_true rfl)
  rw [lg_entry_eq]
  generalize (lg_sl ([.ref h0]) ++ List.replicate (1 - (lg_sl ([.ref h0])).length) Slot.unset).toArray = ls at hl ⊢
  have hl : lv_has ls 1 [(0, .ref h0)] := hl
  refine lv_aload_n hx hb d_PP_init_0 rfl (lv_at hl 0 rfl) ?_
  refine W.objInit hx hb hown (hG _ k_296) (hG _ k_136) (hG _ k_137) rfl (by rw [hml]; exact hl.1) rfl d_PP_init_1 (Nat.le_of_ble_eq_true rfl) (Nat.le_of_ble_eq_true rfl) ?_
  refine W.eq (g2 := F0 m 4 ls []) rfl ?_
  refine lv_aload_n hx hb d_PP_init_4 rfl (lv_at hl 0 rfl) ?_
  refine lv_sipush (v := 200) hx hb d_PP_init_5 (by decide) ?_
  refine wp_newa (atype := .char) (ty := .char) (a0 := (200, .inl (fun _ => 0))) (N' := 200) hx hb (hG _ k_154) rfl (fun _ h => h) hK 3 rfl hP hD hS hA (fun _ => rfl) (by decide) (by decide) (by decide) (Nat.le_of_ble_eq_true rfl) (Nat.le_of_ble_eq_true rfl) d_PP_init_8 (fun q_1 H hP hD hS => ?_)
  refine W.widen (k := 1) (n := 200) (Nat.le_of_ble_eq_true rfl) (Nat.le_of_ble_eq_true rfl) ?_
  have hP : va_P D classes [(h0, .inr (6, [.null, .null, .int 0])), (q_1, .inl (cC, 200, .inl (fun _ => 0)))] H := hP
  have hD : va_D A [(h0, .inr (6, [.null, .null, .int 0])), (q_1, .inl (cC, 200, .inl (fun _ => 0)))] := hD
  refine va_putF (D := D) (ci := 6) (v := .ref q_1) (ty := (.array .char)) (C := rn_PP) (T := fl_PP) (N := 3) hx hb hG in_PP tt_PP tk_PP nn_PP hown hK hP hD hS 0 rfl rfl 0 (by decide) (hG _ k_297) (fun _ h9 => h9) rfl hin rfl (by decide +kernel) rfl rfl (Nat.le_of_ble_eq_true rfl) d_PP_init_10 (fun H locs hP hD hS => ?_)
  have hP : va_P D classes [(h0, .inr (6, [.ref q_1, .null, .int 0])), (q_1, .inl (cC, 200, .inl (fun _ => 0)))] H := hP
  have hD : va_D A [(h0, .inr (6, [.ref q_1, .null, .int 0])), (q_1, .inl (cC, 200, .inl (fun _ => 0)))] := hD
  refine lv_aload_n hx hb d_PP_init_13 rfl (lv_at hl 0 rfl) ?_
  refine lv_bipush (v := 10) hx hb d_PP_init_14 (by decide) ?_
  refine wp_newa (atype := .char) (ty := .char) (a0 := (10, .inl (fun _ => 0))) (N' := 10) hx hb (hG _ k_154) rfl (fun _ h => h) hK 3 rfl hP hD hS hA (fun _ => rfl) (by decide) (by decide) (by decide) (Nat.le_of_ble_eq_true rfl) (Nat.le_of_ble_eq_true rfl) d_PP_init_16 (fun q_2 H hP hD hS => ?_)
  refine W.widen (k := 2) (n := 210) (Nat.le_of_ble_eq_true rfl) (Nat.le_of_ble_eq_true rfl) ?_
  have hP : va_P D classes [(h0, .inr (6, [.ref q_1, .null, .int 0])), (q_1, .inl (cC, 200, .inl (fun _ => 0))), (q_2, .inl (cC, 10, .inl (fun _ => 0)))] H := hP
  have hD : va_D A [(h0, .inr (6, [.ref q_1, .null, .int 0])), (q_1, .inl (cC, 200, .inl (fun _ => 0))), (q_2, .inl (cC, 10, .inl (fun _ => 0)))] := hD
  refine va_putF (D := D) (ci := 6) (v := .ref q_2) (ty := (.array .char)) (C := rn_PP) (T := fl_PP) (N := 3) hx hb hG in_PP tt_PP tk_PP nn_PP hown hK hP hD hS 0 rfl rfl 1 (by decide) (hG _ k_298) (fun _ h9 => h9) rfl hin rfl (by decide +kernel) rfl rfl (Nat.le_of_ble_eq_true rfl) d_PP_init_18 (fun H locs hP hD hS => ?_)
  have hP : va_P D classes [(h0, .inr (6, [.ref q_1, .ref q_2, .int 0])), (q_1, .inl (cC, 200, .inl (fun _ => 0))), (q_2, .inl (cC, 10, .inl (fun _ => 0)))] H := hP
  have hD : va_D A [(h0, .inr (6, [.ref q_1, .ref q_2, .int 0])), (q_1, .inl (cC, 200, .inl (fun _ => 0))), (q_2, .inl (cC, 10, .inl (fun _ => 0)))] := hD
  refine lv_aload_n hx hb d_PP_init_21 rfl (lv_at hl 0 rfl) ?_
  refine lv_iconst (v := 0) hx hb d_PP_init_22 (by decide) ?_
  refine va_put (D := D) (ci := 6) (v := .int 0) (ty := .int) (C := rn_PP) (T := fl_PP) (N := 3) hx hb hG in_PP tt_PP tk_PP nn_PP hown hK hP hD hS 0 rfl rfl 2 (by decide) (hG _ k_299) (fun _ h9 => h9) rfl (by decide +kernel) rfl rfl (Nat.le_of_ble_eq_true rfl) d_PP_init_23 (fun H locs hP hD hS => ?_)
  have hP : va_P D classes [(h0, .inr (6, [.ref q_1, .ref q_2, .int 0])), (q_1, .inl (cC, 200, .inl (fun _ => 0))), (q_2, .inl (cC, 10, .inl (fun _ => 0)))] H := hP
  have hD : va_D A [(h0, .inr (6, [.ref q_1, .ref q_2, .int 0])), (q_1, .inl (cC, 200, .inl (fun _ => 0))), (q_2, .inl (cC, 10, .inl (fun _ => 0)))] := hD
  refine W.widen (k := 2) (n := 210) (Nat.le_of_ble_eq_true rfl) (Nat.le_of_ble_eq_true rfl) ?_
  exact wp_vret hx hb hr hlocks hP hD hK hS (fun i => [q_1, q_2].getD i 0) [0, 1, 2] (by decide) rfl trivial d_PP_init_26
set_option maxHeartbeats 4000000 in
set_option maxRecDepth 100000 in
theorem c_MC_init (l : Launch) (D : va_G) (cI cL cZ cC : ClassId) (h0 : Nat) (hp : Nat) (pp : Nat) (sz : Nat) : Met l y_MC_init (wz y_MC_init b_MC_init 3 none) ({ frames := 1, cells := 5, slots := 314, locals := 12 }) (va_Pc [.ref h0, .ref hp, .ref pp] (wp_pre D (tys4 cI cL cZ cC) [(h0, .inr (7, [.null, .null, .null, .int 0, .int 0, .null, .null, .null, .null, .int 0, .long 0, .long 0, .int 0, .int 0, .long 0, .long 0, .int 0, .int 0]))] sz)) (va_Qv (fun _ : Nat → Nat => True) (fun (u : Nat → Nat) t => wp_post D (tys4 cI cL cZ cC) (va_A [(h0, .inr (7, [.null, .null, .null, .int 0, .int 0, .null, .null, .null, .null, .int 0, .long 0, .long 0, .int 0, .int 0, .long 0, .long 0, .int 0, .int 0]))] sz) [(h0, .inr (7, [.ref hp, .ref pp, .ref (u 0), .int 0, .int 0, .ref (u 1), .ref (u 2), .ref (u 3), .ref (u 4), .int 0, .long 0, .long 0, .int 0, .int 0, .long 0, .long 0, .int 0, .int 0])), ((u 0), .inl (cI, 150, .inl (fun _ => 0))), ((u 1), .inl (cI, 41, .inl (fun _ => 0))), ((u 2), .inl (cI, 41, .inl (fun _ => 0))), ((u 3), .inl (cZ, 41, .inl (fun _ => 0))), ((u 4), .inl (cI, 41, .inl (fun _ => 0)))] t) (va_A [(h0, .inr (7, [.null, .null, .null, .int 0, .int 0, .null, .null, .null, .null, .int 0, .long 0, .long 0, .int 0, .int 0, .long 0, .long 0, .int 0, .int 0]))] sz)) 5 314 (va_A [(h0, .inr (7, [.null, .null, .null, .int 0, .int 0, .null, .null, .null, .null, .int 0, .long 0, .long 0, .int 0, .int 0, .long 0, .long 0, .int 0, .int 0]))] sz) := by
  refine Met.ofW (cc := b_MC_init) (maxL := 3) (ret := none) (by decide) rfl ?_
  intro p e s m args below meth c s₁ B hml hv
  obtain ⟨rfl, hsz, hP, hK, hD0⟩ := hv
  have hx := B.exec
  have hb := B.bytes
  have hr := B.returns
  have hts := atoms_spec (ws := wz y_MC_init b_MC_init 3 none) B.pre
  have hG := wz_G hts
  have hown : s.vm.findClass rn_MC = some m.cls := findClass_of_methodNamed B.named
  have hlocks := B.notSynchronized
  have hin : meth.name = "<init>" := (name_of_methodNamed B.named B.method).1
  subst hsz
  have hD := hD0.self (sz := s.heap.size)
  generalize hAe : va_A [(h0, .inr (7, [.null, .null, .null, .int 0, .int 0, .null, .null, .null, .null, .int 0, .long 0, .long 0, .int 0, .int 0, .long 0, .long 0, .int 0, .int 0]))] s.heap.size = A at hD ⊢
  have hA : ∀ q : Nat, s.heap.size ≤ q → A q := fun q h => by rw [← hAe]; exact Or.inr h
  have hS : va_S A s.heap s.heap [] := va_S.rf
  have hl := lv_entry ([.ref h0, .ref hp, .ref pp]) (n := 3) (Nat.le_of_ble_eq_true rfl)
  rw [lg_entry_eq]
  generalize (lg_sl ([.ref h0, .ref hp, .ref pp]) ++ List.replicate (3 - (lg_sl ([.ref h0, .ref hp, .ref pp])).length) Slot.unset).toArray = ls at hl ⊢
  have hl : lv_has ls 3 [(0, .ref h0), (1, .ref hp), (2, .ref pp)] := hl
  refine lv_aload_n hx hb d_MC_init_0 rfl (lv_at hl 0 rfl) ?_
  refine W.objInit hx hb hown (hG _ k_312) (hG _ k_136) (hG _ k_137) rfl (by rw [hml]; exact hl.1) rfl d_MC_init_1 (Nat.le_of_ble_eq_true rfl) (Nat.le_of_ble_eq_true rfl) ?_
  refine W.eq (g2 := F0 m 4 ls []) rfl ?_
  refine lv_aload_n hx hb d_MC_init_4 rfl (lv_at hl 0 rfl) ?_
  refine lv_aload_n hx hb d_MC_init_5 rfl (lv_at hl 1 rfl) ?_
  refine va_putF (D := D) (ci := 7) (v := .ref hp) (ty := (.object "TurnerHeap$Heap")) (C := rn_MC) (T := fl_MC) (N := 18) hx hb hG in_MC tt_MC tk_MC nn_MC hown hK hP hD hS 0 rfl rfl 0 (by decide) (hG _ k_313) (fun _ h9 => h9) rfl hin rfl (by decide +kernel) rfl rfl (Nat.le_of_ble_eq_true rfl) d_MC_init_6 (fun H locs hP hD hS => ?_)
  have hP : va_P D classes [(h0, .inr (7, [.ref hp, .null, .null, .int 0, .int 0, .null, .null, .null, .null, .int 0, .long 0, .long 0, .int 0, .int 0, .long 0, .long 0, .int 0, .int 0]))] H := hP
  have hD : va_D A [(h0, .inr (7, [.ref hp, .null, .null, .int 0, .int 0, .null, .null, .null, .null, .int 0, .long 0, .long 0, .int 0, .int 0, .long 0, .long 0, .int 0, .int 0]))] := hD
  refine lv_aload_n hx hb d_MC_init_9 rfl (lv_at hl 0 rfl) ?_
  refine lv_aload_n hx hb d_MC_init_10 rfl (lv_at hl 2 rfl) ?_
  refine va_putF (D := D) (ci := 7) (v := .ref pp) (ty := (.object "TurnerHeap$Paper")) (C := rn_MC) (T := fl_MC) (N := 18) hx hb hG in_MC tt_MC tk_MC nn_MC hown hK hP hD hS 0 rfl rfl 1 (by decide) (hG _ k_314) (fun _ h9 => h9) rfl hin rfl (by decide +kernel) rfl rfl (Nat.le_of_ble_eq_true rfl) d_MC_init_11 (fun H locs hP hD hS => ?_)
  have hP : va_P D classes [(h0, .inr (7, [.ref hp, .ref pp, .null, .int 0, .int 0, .null, .null, .null, .null, .int 0, .long 0, .long 0, .int 0, .int 0, .long 0, .long 0, .int 0, .int 0]))] H := hP
  have hD : va_D A [(h0, .inr (7, [.ref hp, .ref pp, .null, .int 0, .int 0, .null, .null, .null, .null, .int 0, .long 0, .long 0, .int 0, .int 0, .long 0, .long 0, .int 0, .int 0]))] := hD
  refine lv_aload_n hx hb d_MC_init_14 rfl (lv_at hl 0 rfl) ?_
  refine lv_sipush (v := 150) hx hb d_MC_init_15 (by decide) ?_
  refine wp_newa (atype := .int) (ty := .int) (a0 := (150, .inl (fun _ => 0))) (N' := 150) hx hb (hG _ k_155) rfl (fun _ h => h) hK 0 rfl hP hD hS hA (fun _ => rfl) (by decide) (by decide) (by decide) (Nat.le_of_ble_eq_true rfl) (Nat.le_of_ble_eq_true rfl) d_MC_init_18 (fun q_1 H hP hD hS => ?_)
  refine W.widen (k := 1) (n := 150) (Nat.le_of_ble_eq_true rfl) (Nat.le_of_ble_eq_true rfl) ?_
  have hP : va_P D classes [(h0, .inr (7, [.ref hp, .ref pp, .null, .int 0, .int 0, .null, .null, .null, .null, .int 0, .long 0, .long 0, .int 0, .int 0, .long 0, .long 0, .int 0, .int 0])), (q_1, .inl (cI, 150, .inl (fun _ => 0)))] H := hP
  have hD : va_D A [(h0, .inr (7, [.ref hp, .ref pp, .null, .int 0, .int 0, .null, .null, .null, .null, .int 0, .long 0, .long 0, .int 0, .int 0, .long 0, .long 0, .int 0, .int 0])), (q_1, .inl (cI, 150, .inl (fun _ => 0)))] := hD
  refine va_putF (D := D) (ci := 7) (v := .ref q_1) (ty := (.array .int)) (C := rn_MC) (T := fl_MC) (N := 18) hx hb hG in_MC tt_MC tk_MC nn_MC hown hK hP hD hS 0 rfl rfl 2 (by decide) (hG _ k_315) (fun _ h9 => h9) rfl hin rfl (by decide +kernel) rfl rfl (Nat.le_of_ble_eq_true rfl) d_MC_init_20 (fun H locs hP hD hS => ?_)
  have hP : va_P D classes [(h0, .inr (7, [.ref hp, .ref pp, .ref q_1, .int 0, .int 0, .null, .null, .null, .null, .int 0, .long 0, .long 0, .int 0, .int 0, .long 0, .long 0, .int 0, .int 0])), (q_1, .inl (cI, 150, .inl (fun _ => 0)))] H := hP
  have hD : va_D A [(h0, .inr (7, [.ref hp, .ref pp, .ref q_1, .int 0, .int 0, .null, .null, .null, .null, .int 0, .long 0, .long 0, .int 0, .int 0, .long 0, .long 0, .int 0, .int 0])), (q_1, .inl (cI, 150, .inl (fun _ => 0)))] := hD
  refine lv_aload_n hx hb d_MC_init_23 rfl (lv_at hl 0 rfl) ?_
  refine lv_bipush (v := 41) hx hb d_MC_init_24 (by decide) ?_
  refine wp_newa (atype := .int) (ty := .int) (a0 := (41, .inl (fun _ => 0))) (N' := 41) hx hb (hG _ k_155) rfl (fun _ h => h) hK 0 rfl hP hD hS hA (fun _ => rfl) (by decide) (by decide) (by decide) (Nat.le_of_ble_eq_true rfl) (Nat.le_of_ble_eq_true rfl) d_MC_init_26 (fun q_2 H hP hD hS => ?_)
  refine W.widen (k := 2) (n := 191) (Nat.le_of_ble_eq_true rfl) (Nat.le_of_ble_eq_true rfl) ?_
  have hP : va_P D classes [(h0, .inr (7, [.ref hp, .ref pp, .ref q_1, .int 0, .int 0, .null, .null, .null, .null, .int 0, .long 0, .long 0, .int 0, .int 0, .long 0, .long 0, .int 0, .int 0])), (q_1, .inl (cI, 150, .inl (fun _ => 0))), (q_2, .inl (cI, 41, .inl (fun _ => 0)))] H := hP
  have hD : va_D A [(h0, .inr (7, [.ref hp, .ref pp, .ref q_1, .int 0, .int 0, .null, .null, .null, .null, .int 0, .long 0, .long 0, .int 0, .int 0, .long 0, .long 0, .int 0, .int 0])), (q_1, .inl (cI, 150, .inl (fun _ => 0))), (q_2, .inl (cI, 41, .inl (fun _ => 0)))] := hD
  refine va_putF (D := D) (ci := 7) (v := .ref q_2) (ty := (.array .int)) (C := rn_MC) (T := fl_MC) (N := 18) hx hb hG in_MC tt_MC tk_MC nn_MC hown hK hP hD hS 0 rfl rfl 5 (by decide) (hG _ k_318) (fun _ h9 => h9) rfl hin rfl (by decide +kernel) rfl rfl (Nat.le_of_ble_eq_true rfl) d_MC_init_28 (fun H locs hP hD hS => ?_)
  have hP : va_P D classes [(h0, .inr (7, [.ref hp, .ref pp, .ref q_1, .int 0, .int 0, .ref q_2, .null, .null, .null, .int 0, .long 0, .long 0, .int 0, .int 0, .long 0, .long 0, .int 0, .int 0])), (q_1, .inl (cI, 150, .inl (fun _ => 0))), (q_2, .inl (cI, 41, .inl (fun _ => 0)))] H := hP
  have hD : va_D A [(h0, .inr (7, [.ref hp, .ref pp, .ref q_1, .int 0, .int 0, .ref q_2, .null, .null, .null, .int 0, .long 0, .long 0, .int 0, .int 0, .long 0, .long 0, .int 0, .int 0])), (q_1, .inl (cI, 150, .inl (fun _ => 0))), (q_2, .inl (cI, 41, .inl (fun _ => 0)))] := hD
  refine lv_aload_n hx hb d_MC_init_31 rfl (lv_at hl 0 rfl) ?_
  refine lv_bipush (v := 41) hx hb d_MC_init_32 (by decide) ?_
  refine wp_newa (atype := .int) (ty := .int) (a0 := (41, .inl (fun _ => 0))) (N' := 41) hx hb (hG _ k_155) rfl (fun _ h => h) hK 0 rfl hP hD hS hA (fun _ => rfl) (by decide) (by decide) (by decide) (Nat.le_of_ble_eq_true rfl) (Nat.le_of_ble_eq_true rfl) d_MC_init_34 (fun q_3 H hP hD hS => ?_)
  refine W.widen (k := 3) (n := 232) (Nat.le_of_ble_eq_true rfl) (Nat.le_of_ble_eq_true rfl) ?_
  have hP : va_P D classes [(h0, .inr (7, [.ref hp, .ref pp, .ref q_1, .int 0, .int 0, .ref q_2, .null, .null, .null, .int 0, .long 0, .long 0, .int 0, .int 0, .long 0, .long 0, .int 0, .int 0])), (q_1, .inl (cI, 150, .inl (fun _ => 0))), (q_2, .inl (cI, 41, .inl (fun _ => 0))), (q_3, .inl (cI, 41, .inl (fun _ => 0)))] H := hP
  have hD : va_D A [(h0, .inr (7, [.ref hp, .ref pp, .ref q_1, .int 0, .int 0, .ref q_2, .null, .null, .null, .int 0, .long 0, .long 0, .int 0, .int 0, .long 0, .long 0, .int 0, .int 0])), (q_1, .inl (cI, 150, .inl (fun _ => 0))), (q_2, .inl (cI, 41, .inl (fun _ => 0))), (q_3, .inl (cI, 41, .inl (fun _ => 0)))] := hD
  refine va_putF (D := D) (ci := 7) (v := .ref q_3) (ty := (.array .int)) (C := rn_MC) (T := fl_MC) (N := 18) hx hb hG in_MC tt_MC tk_MC nn_MC hown hK hP hD hS 0 rfl rfl 6 (by decide) (hG _ k_319) (fun _ h9 => h9) rfl hin rfl (by decide +kernel) rfl rfl (Nat.le_of_ble_eq_true rfl) d_MC_init_36 (fun H locs hP hD hS => ?_)
  have hP : va_P D classes [(h0, .inr (7, [.ref hp, .ref pp, .ref q_1, .int 0, .int 0, .ref q_2, .ref q_3, .null, .null, .int 0, .long 0, .long 0, .int 0, .int 0, .long 0, .long 0, .int 0, .int 0])), (q_1, .inl (cI, 150, .inl (fun _ => 0))), (q_2, .inl (cI, 41, .inl (fun _ => 0))), (q_3, .inl (cI, 41, .inl (fun _ => 0)))] H := hP
  have hD : va_D A [(h0, .inr (7, [.ref hp, .ref pp, .ref q_1, .int 0, .int 0, .ref q_2, .ref q_3, .null, .null, .int 0, .long 0, .long 0, .int 0, .int 0, .long 0, .long 0, .int 0, .int 0])), (q_1, .inl (cI, 150, .inl (fun _ => 0))), (q_2, .inl (cI, 41, .inl (fun _ => 0))), (q_3, .inl (cI, 41, .inl (fun _ => 0)))] := hD
  refine lv_aload_n hx hb d_MC_init_39 rfl (lv_at hl 0 rfl) ?_
  refine lv_bipush (v := 41) hx hb d_MC_init_40 (by decide) ?_
  refine wp_newa (atype := .boolean) (ty := .boolean) (a0 := (41, .inl (fun _ => 0))) (N' := 41) hx hb (hG _ k_188) rfl (fun _ h => h) hK 2 rfl hP hD hS hA (fun _ => rfl) (by decide) (by decide) (by decide) (Nat.le_of_ble_eq_true rfl) (Nat.le_of_ble_eq_true rfl) d_MC_init_42 (fun q_4 H hP hD hS => ?_)
  refine W.widen (k := 4) (n := 273) (Nat.le_of_ble_eq_true rfl) (Nat.le_of_ble_eq_true rfl) ?_
  have hP : va_P D classes [(h0, .inr (7, [.ref hp, .ref pp, .ref q_1, .int 0, .int 0, .ref q_2, .ref q_3, .null, .null, .int 0, .long 0, .long 0, .int 0, .int 0, .long 0, .long 0, .int 0, .int 0])), (q_1, .inl (cI, 150, .inl (fun _ => 0))), (q_2, .inl (cI, 41, .inl (fun _ => 0))), (q_3, .inl (cI, 41, .inl (fun _ => 0))), (q_4, .inl (cZ, 41, .inl (fun _ => 0)))] H := hP
  have hD : va_D A [(h0, .inr (7, [.ref hp, .ref pp, .ref q_1, .int 0, .int 0, .ref q_2, .ref q_3, .null, .null, .int 0, .long 0, .long 0, .int 0, .int 0, .long 0, .long 0, .int 0, .int 0])), (q_1, .inl (cI, 150, .inl (fun _ => 0))), (q_2, .inl (cI, 41, .inl (fun _ => 0))), (q_3, .inl (cI, 41, .inl (fun _ => 0))), (q_4, .inl (cZ, 41, .inl (fun _ => 0)))] := hD
  refine va_putF (D := D) (ci := 7) (v := .ref q_4) (ty := (.array .boolean)) (C := rn_MC) (T := fl_MC) (N := 18) hx hb hG in_MC tt_MC tk_MC nn_MC hown hK hP hD hS 0 rfl rfl 7 (by decide) (hG _ k_320) (fun _ h9 => h9) rfl hin rfl (by decide +kernel) rfl rfl (Nat.le_of_ble_eq_true rfl) d_MC_init_44 (fun H locs hP hD hS => ?_)
  have hP : va_P D classes [(h0, .inr (7, [.ref hp, .ref pp, .ref q_1, .int 0, .int 0, .ref q_2, .ref q_3, .ref q_4, .null, .int 0, .long 0, .long 0, .int 0, .int 0, .long 0, .long 0, .int 0, .int 0])), (q_1, .inl (cI, 150, .inl (fun _ => 0))), (q_2, .inl (cI, 41, .inl (fun _ => 0))), (q_3, .inl (cI, 41, .inl (fun _ => 0))), (q_4, .inl (cZ, 41, .inl (fun _ => 0)))] H := hP
  have hD : va_D A [(h0, .inr (7, [.ref hp, .ref pp, .ref q_1, .int 0, .int 0, .ref q_2, .ref q_3, .ref q_4, .null, .int 0, .long 0, .long 0, .int 0, .int 0, .long 0, .long 0, .int 0, .int 0])), (q_1, .inl (cI, 150, .inl (fun _ => 0))), (q_2, .inl (cI, 41, .inl (fun _ => 0))), (q_3, .inl (cI, 41, .inl (fun _ => 0))), (q_4, .inl (cZ, 41, .inl (fun _ => 0)))] := hD
  refine lv_aload_n hx hb d_MC_init_47 rfl (lv_at hl 0 rfl) ?_
  refine lv_bipush (v := 41) hx hb d_MC_init_48 (by decide) ?_
  refine wp_newa (atype := .int) (ty := .int) (a0 := (41, .inl (fun _ => 0))) (N' := 41) hx hb (hG _ k_155) rfl (fun _ h => h) hK 0 rfl hP hD hS hA (fun _ => rfl) (by decide) (by decide) (by decide) (Nat.le_of_ble_eq_true rfl) (Nat.le_of_ble_eq_true rfl) d_MC_init_50 (fun q_5 H hP hD hS => ?_)
  refine W.widen (k := 5) (n := 314) (Nat.le_of_ble_eq_true rfl) (Nat.le_of_ble_eq_true rfl) ?_
  have hP : va_P D classes [(h0, .inr (7, [.ref hp, .ref pp, .ref q_1, .int 0, .int 0, .ref q_2, .ref q_3, .ref q_4, .null, .int 0, .long 0, .long 0, .int 0, .int 0, .long 0, .long 0, .int 0, .int 0])), (q_1, .inl (cI, 150, .inl (fun _ => 0))), (q_2, .inl (cI, 41, .inl (fun _ => 0))), (q_3, .inl (cI, 41, .inl (fun _ => 0))), (q_4, .inl (cZ, 41, .inl (fun _ => 0))), (q_5, .inl (cI, 41, .inl (fun _ => 0)))] H := hP
  have hD : va_D A [(h0, .inr (7, [.ref hp, .ref pp, .ref q_1, .int 0, .int 0, .ref q_2, .ref q_3, .ref q_4, .null, .int 0, .long 0, .long 0, .int 0, .int 0, .long 0, .long 0, .int 0, .int 0])), (q_1, .inl (cI, 150, .inl (fun _ => 0))), (q_2, .inl (cI, 41, .inl (fun _ => 0))), (q_3, .inl (cI, 41, .inl (fun _ => 0))), (q_4, .inl (cZ, 41, .inl (fun _ => 0))), (q_5, .inl (cI, 41, .inl (fun _ => 0)))] := hD
  refine va_putF (D := D) (ci := 7) (v := .ref q_5) (ty := (.array .int)) (C := rn_MC) (T := fl_MC) (N := 18) hx hb hG in_MC tt_MC tk_MC nn_MC hown hK hP hD hS 0 rfl rfl 8 (by decide) (hG _ k_321) (fun _ h9 => h9) rfl hin rfl (by decide +kernel) rfl rfl (Nat.le_of_ble_eq_true rfl) d_MC_init_52 (fun H locs hP hD hS => ?_)
  have hP : va_P D classes [(h0, .inr (7, [.ref hp, .ref pp, .ref q_1, .int 0, .int 0, .ref q_2, .ref q_3, .ref q_4, .ref q_5, .int 0, .long 0, .long 0, .int 0, .int 0, .long 0, .long 0, .int 0, .int 0])), (q_1, .inl (cI, 150, .inl (fun _ => 0))), (q_2, .inl (cI, 41, .inl (fun _ => 0))), (q_3, .inl (cI, 41, .inl (fun _ => 0))), (q_4, .inl (cZ, 41, .inl (fun _ => 0))), (q_5, .inl (cI, 41, .inl (fun _ => 0)))] H := hP
  have hD : va_D A [(h0, .inr (7, [.ref hp, .ref pp, .ref q_1, .int 0, .int 0, .ref q_2, .ref q_3, .ref q_4, .ref q_5, .int 0, .long 0, .long 0, .int 0, .int 0, .long 0, .long 0, .int 0, .int 0])), (q_1, .inl (cI, 150, .inl (fun _ => 0))), (q_2, .inl (cI, 41, .inl (fun _ => 0))), (q_3, .inl (cI, 41, .inl (fun _ => 0))), (q_4, .inl (cZ, 41, .inl (fun _ => 0))), (q_5, .inl (cI, 41, .inl (fun _ => 0)))] := hD
  refine W.widen (k := 5) (n := 314) (Nat.le_of_ble_eq_true rfl) (Nat.le_of_ble_eq_true rfl) ?_
  exact wp_vret hx hb hr hlocks hP hD hK hS (fun i => [q_1, q_2, q_3, q_4, q_5].getD i 0) [0, 1, 2, 3, 4, 5] (by decide) rfl trivial d_MC_init_55
set_option maxHeartbeats 4000000 in
set_option maxRecDepth 100000 in
theorem c_HP_init (l : Launch) (D : va_G) (cI cL cZ cC : ClassId) (h0 : Nat) (r : Nat) (sz : Nat) (hr2 : r ≤ 400) : Met l y_HP_init (wz y_HP_init b_HP_init 2 none) ({ frames := 1, cells := 7, slots := 3032, locals := 12 }) (va_Pc [.ref h0, .int (nI r)] (wp_pre D (tys4 cI cL cZ cC) [(h0, .inr (5, [.int 0, .null, .null, .null, .int 0, .null, .int 0, .null, .int 0, .null, .int 0, .null]))] sz)) (va_Qv (fun _ : Nat → Nat => True) (fun (u : Nat → Nat) t => wp_post D (tys4 cI cL cZ cC) (va_A [(h0, .inr (5, [.int 0, .null, .null, .null, .int 0, .null, .int 0, .null, .int 0, .null, .int 0, .null]))] sz) [(h0, .inr (5, [.int (nI r), .ref (u 0), .ref (u 1), .ref (u 2), .int 0, .ref (u 3), .int 0, .ref (u 4), .int 0, .ref (u 5), .int 0, .ref (u 6)])), ((u 0), .inl (cL, r, .inr (.inl (fun _ => 0)))), ((u 1), .inl (cL, r, .inr (.inl (fun _ => 0)))), ((u 2), .inl (cI, r, .inl (fun _ => 0))), ((u 3), .inl (cI, r, .inl (fun _ => 0))), ((u 4), .inl (cI, r, .inl (fun _ => 0))), ((u 5), .inl (cL, 8, .inr (.inl (fun _ => 0)))), ((u 6), .inl (cI, 1024, .inl (fun _ => 0)))] t) (va_A [(h0, .inr (5, [.int 0, .null, .null, .null, .int 0, .null, .int 0, .null, .int 0, .null, .int 0, .null]))] sz)) 7 3032 (va_A [(h0, .inr (5, [.int 0, .null, .null, .null, .int 0, .null, .int 0, .null, .int 0, .null, .int 0, .null]))] sz) := by
  refine Met.ofW (cc := b_HP_init) (maxL := 2) (ret := none) (by decide) rfl ?_
  intro p e s m args below meth c s₁ B hml hv
  obtain ⟨rfl, hsz, hP, hK, hD0⟩ := hv
  have hx := B.exec
  have hb := B.bytes
  have hr := B.returns
  have hts := atoms_spec (ws := wz y_HP_init b_HP_init 2 none) B.pre
  have hG := wz_G hts
  have hown : s.vm.findClass rn_HP = some m.cls := findClass_of_methodNamed B.named
  have hlocks := B.notSynchronized
  have hin : meth.name = "<init>" := (name_of_methodNamed B.named B.method).1
  subst hsz
  have hD := hD0.self (sz := s.heap.size)
  generalize hAe : va_A [(h0, .inr (5, [.int 0, .null, .null, .null, .int 0, .null, .int 0, .null, .int 0, .null, .int 0, .null]))] s.heap.size = A at hD ⊢
  have hA : ∀ q : Nat, s.heap.size ≤ q → A q := fun q h => by rw [← hAe]; exact Or.inr h
  have hS : va_S A s.heap s.heap [] := va_S.rf
  have hl := lv_entry ([.ref h0, .int (nI r)]) (n := 2) (Nat.le_of_ble_eq_true rfl)
  rw [lg_entry_eq]
  generalize (lg_sl ([.ref h0, .int (nI r)]) ++ List.replicate (2 - (lg_sl ([.ref h0, .int (nI r)])).length) Slot.unset).toArray = ls at hl ⊢
  have hl : lv_has ls 2 [(0, .ref h0), (1, .int (nI r))] := hl
  refine lv_aload_n hx hb d_HP_init_0 rfl (lv_at hl 0 rfl) ?_
  refine W.objInit hx hb hown (hG _ k_253) (hG _ k_136) (hG _ k_137) rfl (by rw [hml]; exact hl.1) rfl d_HP_init_1 (Nat.le_of_ble_eq_true rfl) (Nat.le_of_ble_eq_true rfl) ?_
  refine W.eq (g2 := F0 m 4 ls []) rfl ?_
  refine lv_aload_n hx hb d_HP_init_4 rfl (lv_at hl 0 rfl) ?_
  refine lv_iload_n hx hb d_HP_init_5 rfl (lv_at hl 1 rfl) ?_
  refine va_putF (D := D) (ci := 5) (v := .int (nI r)) (ty := .int) (C := rn_HP) (T := fl_HP) (N := 12) hx hb hG in_HP tt_HP tk_HP nn_HP hown hK hP hD hS 0 rfl rfl 0 (by decide) (hG _ k_254) (fun _ h9 => h9) rfl hin rfl (by decide +kernel) rfl rfl (Nat.le_of_ble_eq_true rfl) d_HP_init_6 (fun H locs hP hD hS => ?_)
  have hP : va_P D classes [(h0, .inr (5, [.int (nI r), .null, .null, .null, .int 0, .null, .int 0, .null, .int 0, .null, .int 0, .null]))] H := hP
  have hD : va_D A [(h0, .inr (5, [.int (nI r), .null, .null, .null, .int 0, .null, .int 0, .null, .int 0, .null, .int 0, .null]))] := hD
  refine lv_aload_n hx hb d_HP_init_9 rfl (lv_at hl 0 rfl) ?_
  refine lv_iload_n hx hb d_HP_init_10 rfl (lv_at hl 1 rfl) ?_
  refine wp_newa (atype := .long) (ty := .long) (a0 := (r, .inr (.inl (fun _ => 0)))) (N' := r) hx hb (hG _ k_187) rfl (fun _ h => h) hK 1 rfl hP hD hS hA (fun _ => rfl) (nI_pos (Nat.lt_of_le_of_lt hr2 (by decide))) (nI_clamp (Nat.lt_of_le_of_lt hr2 (by decide))) (Nat.le_trans (Nat.mul_le_mul_right _ hr2) (by decide)) (Nat.le_of_ble_eq_true rfl) (Nat.le_trans (Nat.add_le_add_left hr2 _) (Nat.le_of_ble_eq_true rfl)) d_HP_init_11 (fun q_1 H hP hD hS => ?_)
  refine W.widen (k := 1) (n := 400) (Nat.le_of_ble_eq_true rfl) (Nat.add_le_add_left hr2 _) ?_
  have hP : va_P D classes [(h0, .inr (5, [.int (nI r), .null, .null, .null, .int 0, .null, .int 0, .null, .int 0, .null, .int 0, .null])), (q_1, .inl (cL, r, .inr (.inl (fun _ => 0))))] H := hP
  have hD : va_D A [(h0, .inr (5, [.int (nI r), .null, .null, .null, .int 0, .null, .int 0, .null, .int 0, .null, .int 0, .null])), (q_1, .inl (cL, r, .inr (.inl (fun _ => 0))))] := hD
  refine va_putF (D := D) (ci := 5) (v := .ref q_1) (ty := (.array .long)) (C := rn_HP) (T := fl_HP) (N := 12) hx hb hG in_HP tt_HP tk_HP nn_HP hown hK hP hD hS 0 rfl rfl 1 (by decide) (hG _ k_255) (fun _ h9 => h9) rfl hin rfl (by decide +kernel) rfl rfl (Nat.le_of_ble_eq_true rfl) d_HP_init_13 (fun H locs hP hD hS => ?_)
  have hP : va_P D classes [(h0, .inr (5, [.int (nI r), .ref q_1, .null, .null, .int 0, .null, .int 0, .null, .int 0, .null, .int 0, .null])), (q_1, .inl (cL, r, .inr (.inl (fun _ => 0))))] H := hP
  have hD : va_D A [(h0, .inr (5, [.int (nI r), .ref q_1, .null, .null, .int 0, .null, .int 0, .null, .int 0, .null, .int 0, .null])), (q_1, .inl (cL, r, .inr (.inl (fun _ => 0))))] := hD
  refine lv_aload_n hx hb d_HP_init_16 rfl (lv_at hl 0 rfl) ?_
  refine lv_iload_n hx hb d_HP_init_17 rfl (lv_at hl 1 rfl) ?_
  refine wp_newa (atype := .long) (ty := .long) (a0 := (r, .inr (.inl (fun _ => 0)))) (N' := r) hx hb (hG _ k_187) rfl (fun _ h => h) hK 1 rfl hP hD hS hA (fun _ => rfl) (nI_pos (Nat.lt_of_le_of_lt hr2 (by decide))) (nI_clamp (Nat.lt_of_le_of_lt hr2 (by decide))) (Nat.le_trans (Nat.mul_le_mul_right _ hr2) (by decide)) (Nat.le_of_ble_eq_true rfl) (Nat.le_trans (Nat.add_le_add_left hr2 _) (Nat.le_of_ble_eq_true rfl)) d_HP_init_18 (fun q_2 H hP hD hS => ?_)
  refine W.widen (k := 2) (n := 800) (Nat.le_of_ble_eq_true rfl) (Nat.add_le_add_left hr2 _) ?_
  have hP : va_P D classes [(h0, .inr (5, [.int (nI r), .ref q_1, .null, .null, .int 0, .null, .int 0, .null, .int 0, .null, .int 0, .null])), (q_1, .inl (cL, r, .inr (.inl (fun _ => 0)))), (q_2, .inl (cL, r, .inr (.inl (fun _ => 0))))] H := hP
  have hD : va_D A [(h0, .inr (5, [.int (nI r), .ref q_1, .null, .null, .int 0, .null, .int 0, .null, .int 0, .null, .int 0, .null])), (q_1, .inl (cL, r, .inr (.inl (fun _ => 0)))), (q_2, .inl (cL, r, .inr (.inl (fun _ => 0))))] := hD
  refine va_putF (D := D) (ci := 5) (v := .ref q_2) (ty := (.array .long)) (C := rn_HP) (T := fl_HP) (N := 12) hx hb hG in_HP tt_HP tk_HP nn_HP hown hK hP hD hS 0 rfl rfl 2 (by decide) (hG _ k_256) (fun _ h9 => h9) rfl hin rfl (by decide +kernel) rfl rfl (Nat.le_of_ble_eq_true rfl) d_HP_init_20 (fun H locs hP hD hS => ?_)
  have hP : va_P D classes [(h0, .inr (5, [.int (nI r), .ref q_1, .ref q_2, .null, .int 0, .null, .int 0, .null, .int 0, .null, .int 0, .null])), (q_1, .inl (cL, r, .inr (.inl (fun _ => 0)))), (q_2, .inl (cL, r, .inr (.inl (fun _ => 0))))] H := hP
  have hD : va_D A [(h0, .inr (5, [.int (nI r), .ref q_1, .ref q_2, .null, .int 0, .null, .int 0, .null, .int 0, .null, .int 0, .null])), (q_1, .inl (cL, r, .inr (.inl (fun _ => 0)))), (q_2, .inl (cL, r, .inr (.inl (fun _ => 0))))] := hD
  refine lv_aload_n hx hb d_HP_init_23 rfl (lv_at hl 0 rfl) ?_
  refine lv_iload_n hx hb d_HP_init_24 rfl (lv_at hl 1 rfl) ?_
  refine wp_newa (atype := .int) (ty := .int) (a0 := (r, .inl (fun _ => 0))) (N' := r) hx hb (hG _ k_155) rfl (fun _ h => h) hK 0 rfl hP hD hS hA (fun _ => rfl) (nI_pos (Nat.lt_of_le_of_lt hr2 (by decide))) (nI_clamp (Nat.lt_of_le_of_lt hr2 (by decide))) (Nat.le_trans (Nat.mul_le_mul_right _ hr2) (by decide)) (Nat.le_of_ble_eq_true rfl) (Nat.le_trans (Nat.add_le_add_left hr2 _) (Nat.le_of_ble_eq_true rfl)) d_HP_init_25 (fun q_3 H hP hD hS => ?_)
  refine W.widen (k := 3) (n := 1200) (Nat.le_of_ble_eq_true rfl) (Nat.add_le_add_left hr2 _) ?_
  have hP : va_P D classes [(h0, .inr (5, [.int (nI r), .ref q_1, .ref q_2, .null, .int 0, .null, .int 0, .null, .int 0, .null, .int 0, .null])), (q_1, .inl (cL, r, .inr (.inl (fun _ => 0)))), (q_2, .inl (cL, r, .inr (.inl (fun _ => 0)))), (q_3, .inl (cI, r, .inl (fun _ => 0)))] H := hP
  have hD : va_D A [(h0, .inr (5, [.int (nI r), .ref q_1, .ref q_2, .null, .int 0, .null, .int 0, .null, .int 0, .null, .int 0, .null])), (q_1, .inl (cL, r, .inr (.inl (fun _ => 0)))), (q_2, .inl (cL, r, .inr (.inl (fun _ => 0)))), (q_3, .inl (cI, r, .inl (fun _ => 0)))] := hD
  refine va_putF (D := D) (ci := 5) (v := .ref q_3) (ty := (.array .int)) (C := rn_HP) (T := fl_HP) (N := 12) hx hb hG in_HP tt_HP tk_HP nn_HP hown hK hP hD hS 0 rfl rfl 3 (by decide) (hG _ k_257) (fun _ h9 => h9) rfl hin rfl (by decide +kernel) rfl rfl (Nat.le_of_ble_eq_true rfl) d_HP_init_27 (fun H locs hP hD hS => ?_)
  have hP : va_P D classes [(h0, .inr (5, [.int (nI r), .ref q_1, .ref q_2, .ref q_3, .int 0, .null, .int 0, .null, .int 0, .null, .int 0, .null])), (q_1, .inl (cL, r, .inr (.inl (fun _ => 0)))), (q_2, .inl (cL, r, .inr (.inl (fun _ => 0)))), (q_3, .inl (cI, r, .inl (fun _ => 0)))] H := hP
  have hD : va_D A [(h0, .inr (5, [.int (nI r), .ref q_1, .ref q_2, .ref q_3, .int 0, .null, .int 0, .null, .int 0, .null, .int 0, .null])), (q_1, .inl (cL, r, .inr (.inl (fun _ => 0)))), (q_2, .inl (cL, r, .inr (.inl (fun _ => 0)))), (q_3, .inl (cI, r, .inl (fun _ => 0)))] := hD
  refine lv_aload_n hx hb d_HP_init_30 rfl (lv_at hl 0 rfl) ?_
  refine lv_iload_n hx hb d_HP_init_31 rfl (lv_at hl 1 rfl) ?_
  refine wp_newa (atype := .int) (ty := .int) (a0 := (r, .inl (fun _ => 0))) (N' := r) hx hb (hG _ k_155) rfl (fun _ h => h) hK 0 rfl hP hD hS hA (fun _ => rfl) (nI_pos (Nat.lt_of_le_of_lt hr2 (by decide))) (nI_clamp (Nat.lt_of_le_of_lt hr2 (by decide))) (Nat.le_trans (Nat.mul_le_mul_right _ hr2) (by decide)) (Nat.le_of_ble_eq_true rfl) (Nat.le_trans (Nat.add_le_add_left hr2 _) (Nat.le_of_ble_eq_true rfl)) d_HP_init_32 (fun q_4 H hP hD hS => ?_)
  refine W.widen (k := 4) (n := 1600) (Nat.le_of_ble_eq_true rfl) (Nat.add_le_add_left hr2 _) ?_
  have hP : va_P D classes [(h0, .inr (5, [.int (nI r), .ref q_1, .ref q_2, .ref q_3, .int 0, .null, .int 0, .null, .int 0, .null, .int 0, .null])), (q_1, .inl (cL, r, .inr (.inl (fun _ => 0)))), (q_2, .inl (cL, r, .inr (.inl (fun _ => 0)))), (q_3, .inl (cI, r, .inl (fun _ => 0))), (q_4, .inl (cI, r, .inl (fun _ => 0)))] H := hP
  have hD : va_D A [(h0, .inr (5, [.int (nI r), .ref q_1, .ref q_2, .ref q_3, .int 0, .null, .int 0, .null, .int 0, .null, .int 0, .null])), (q_1, .inl (cL, r, .inr (.inl (fun _ => 0)))), (q_2, .inl (cL, r, .inr (.inl (fun _ => 0)))), (q_3, .inl (cI, r, .inl (fun _ => 0))), (q_4, .inl (cI, r, .inl (fun _ => 0)))] := hD
  refine va_putF (D := D) (ci := 5) (v := .ref q_4) (ty := (.array .int)) (C := rn_HP) (T := fl_HP) (N := 12) hx hb hG in_HP tt_HP tk_HP nn_HP hown hK hP hD hS 0 rfl rfl 5 (by decide) (hG _ k_259) (fun _ h9 => h9) rfl hin rfl (by decide +kernel) rfl rfl (Nat.le_of_ble_eq_true rfl) d_HP_init_34 (fun H locs hP hD hS => ?_)
  have hP : va_P D classes [(h0, .inr (5, [.int (nI r), .ref q_1, .ref q_2, .ref q_3, .int 0, .ref q_4, .int 0, .null, .int 0, .null, .int 0, .null])), (q_1, .inl (cL, r, .inr (.inl (fun _ => 0)))), (q_2, .inl (cL, r, .inr (.inl (fun _ => 0)))), (q_3, .inl (cI, r, .inl (fun _ => 0))), (q_4, .inl (cI, r, .inl (fun _ => 0)))] H := hP
  have hD : va_D A [(h0, .inr (5, [.int (nI r), .ref q_1, .ref q_2, .ref q_3, .int 0, .ref q_4, .int 0, .null, .int 0, .null, .int 0, .null])), (q_1, .inl (cL, r, .inr (.inl (fun _ => 0)))), (q_2, .inl (cL, r, .inr (.inl (fun _ => 0)))), (q_3, .inl (cI, r, .inl (fun _ => 0))), (q_4, .inl (cI, r, .inl (fun _ => 0)))] := hD
  refine lv_aload_n hx hb d_HP_init_37 rfl (lv_at hl 0 rfl) ?_
  refine lv_iconst (v := 0) hx hb d_HP_init_38 (by decide) ?_
  refine va_put (D := D) (ci := 5) (v := .int 0) (ty := .int) (C := rn_HP) (T := fl_HP) (N := 12) hx hb hG in_HP tt_HP tk_HP nn_HP hown hK hP hD hS 0 rfl rfl 6 (by decide) (hG _ k_260) (fun _ h9 => h9) rfl (by decide +kernel) rfl rfl (Nat.le_of_ble_eq_true rfl) d_HP_init_39 (fun H locs hP hD hS => ?_)
  have hP : va_P D classes [(h0, .inr (5, [.int (nI r), .ref q_1, .ref q_2, .ref q_3, .int 0, .ref q_4, .int 0, .null, .int 0, .null, .int 0, .null])), (q_1, .inl (cL, r, .inr (.inl (fun _ => 0)))), (q_2, .inl (cL, r, .inr (.inl (fun _ => 0)))), (q_3, .inl (cI, r, .inl (fun _ => 0))), (q_4, .inl (cI, r, .inl (fun _ => 0)))] H := hP
  have hD : va_D A [(h0, .inr (5, [.int (nI r), .ref q_1, .ref q_2, .ref q_3, .int 0, .ref q_4, .int 0, .null, .int 0, .null, .int 0, .null])), (q_1, .inl (cL, r, .inr (.inl (fun _ => 0)))), (q_2, .inl (cL, r, .inr (.inl (fun _ => 0)))), (q_3, .inl (cI, r, .inl (fun _ => 0))), (q_4, .inl (cI, r, .inl (fun _ => 0)))] := hD
  refine lv_aload_n hx hb d_HP_init_42 rfl (lv_at hl 0 rfl) ?_
  refine lv_iload_n hx hb d_HP_init_43 rfl (lv_at hl 1 rfl) ?_
  refine wp_newa (atype := .int) (ty := .int) (a0 := (r, .inl (fun _ => 0))) (N' := r) hx hb (hG _ k_155) rfl (fun _ h => h) hK 0 rfl hP hD hS hA (fun _ => rfl) (nI_pos (Nat.lt_of_le_of_lt hr2 (by decide))) (nI_clamp (Nat.lt_of_le_of_lt hr2 (by decide))) (Nat.le_trans (Nat.mul_le_mul_right _ hr2) (by decide)) (Nat.le_of_ble_eq_true rfl) (Nat.le_trans (Nat.add_le_add_left hr2 _) (Nat.le_of_ble_eq_true rfl)) d_HP_init_44 (fun q_5 H hP hD hS => ?_)
  refine W.widen (k := 5) (n := 2000) (Nat.le_of_ble_eq_true rfl) (Nat.add_le_add_left hr2 _) ?_
  have hP : va_P D classes [(h0, .inr (5, [.int (nI r), .ref q_1, .ref q_2, .ref q_3, .int 0, .ref q_4, .int 0, .null, .int 0, .null, .int 0, .null])), (q_1, .inl (cL, r, .inr (.inl (fun _ => 0)))), (q_2, .inl (cL, r, .inr (.inl (fun _ => 0)))), (q_3, .inl (cI, r, .inl (fun _ => 0))), (q_4, .inl (cI, r, .inl (fun _ => 0))), (q_5, .inl (cI, r, .inl (fun _ => 0)))] H := hP
  have hD : va_D A [(h0, .inr (5, [.int (nI r), .ref q_1, .ref q_2, .ref q_3, .int 0, .ref q_4, .int 0, .null, .int 0, .null, .int 0, .null])), (q_1, .inl (cL, r, .inr (.inl (fun _ => 0)))), (q_2, .inl (cL, r, .inr (.inl (fun _ => 0)))), (q_3, .inl (cI, r, .inl (fun _ => 0))), (q_4, .inl (cI, r, .inl (fun _ => 0))), (q_5, .inl (cI, r, .inl (fun _ => 0)))] := hD
  refine va_putF (D := D) (ci := 5) (v := .ref q_5) (ty := (.array .int)) (C := rn_HP) (T := fl_HP) (N := 12) hx hb hG in_HP tt_HP tk_HP nn_HP hown hK hP hD hS 0 rfl rfl 7 (by decide) (hG _ k_261) (fun _ h9 => h9) rfl hin rfl (by decide +kernel) rfl rfl (Nat.le_of_ble_eq_true rfl) d_HP_init_46 (fun H locs hP hD hS => ?_)
  have hP : va_P D classes [(h0, .inr (5, [.int (nI r), .ref q_1, .ref q_2, .ref q_3, .int 0, .ref q_4, .int 0, .ref q_5, .int 0, .null, .int 0, .null])), (q_1, .inl (cL, r, .inr (.inl (fun _ => 0)))), (q_2, .inl (cL, r, .inr (.inl (fun _ => 0)))), (q_3, .inl (cI, r, .inl (fun _ => 0))), (q_4, .inl (cI, r, .inl (fun _ => 0))), (q_5, .inl (cI, r, .inl (fun _ => 0)))] H := hP
  have hD : va_D A [(h0, .inr (5, [.int (nI r), .ref q_1, .ref q_2, .ref q_3, .int 0, .ref q_4, .int 0, .ref q_5, .int 0, .null, .int 0, .null])), (q_1, .inl (cL, r, .inr (.inl (fun _ => 0)))), (q_2, .inl (cL, r, .inr (.inl (fun _ => 0)))), (q_3, .inl (cI, r, .inl (fun _ => 0))), (q_4, .inl (cI, r, .inl (fun _ => 0))), (q_5, .inl (cI, r, .inl (fun _ => 0)))] := hD
  refine lv_aload_n hx hb d_HP_init_49 rfl (lv_at hl 0 rfl) ?_
  refine lv_bipush (v := 8) hx hb d_HP_init_50 (by decide) ?_
  refine wp_newa (atype := .long) (ty := .long) (a0 := (8, .inr (.inl (fun _ => 0)))) (N' := 8) hx hb (hG _ k_187) rfl (fun _ h => h) hK 1 rfl hP hD hS hA (fun _ => rfl) (by decide) (by decide) (by decide) (Nat.le_of_ble_eq_true rfl) (Nat.le_of_ble_eq_true rfl) d_HP_init_52 (fun q_6 H hP hD hS => ?_)
  refine W.widen (k := 6) (n := 2008) (Nat.le_of_ble_eq_true rfl) (Nat.le_of_ble_eq_true rfl) ?_
  have hP : va_P D classes [(h0, .inr (5, [.int (nI r), .ref q_1, .ref q_2, .ref q_3, .int 0, .ref q_4, .int 0, .ref q_5, .int 0, .null, .int 0, .null])), (q_1, .inl (cL, r, .inr (.inl (fun _ => 0)))), (q_2, .inl (cL, r, .inr (.inl (fun _ => 0)))), (q_3, .inl (cI, r, .inl (fun _ => 0))), (q_4, .inl (cI, r, .inl (fun _ => 0))), (q_5, .inl (cI, r, .inl (fun _ => 0))), (q_6, .inl (cL, 8, .inr (.inl (fun _ => 0))))] H := hP
  have hD : va_D A [(h0, .inr (5, [.int (nI r), .ref q_1, .ref q_2, .ref q_3, .int 0, .ref q_4, .int 0, .ref q_5, .int 0, .null, .int 0, .null])), (q_1, .inl (cL, r, .inr (.inl (fun _ => 0)))), (q_2, .inl (cL, r, .inr (.inl (fun _ => 0)))), (q_3, .inl (cI, r, .inl (fun _ => 0))), (q_4, .inl (cI, r, .inl (fun _ => 0))), (q_5, .inl (cI, r, .inl (fun _ => 0))), (q_6, .inl (cL, 8, .inr (.inl (fun _ => 0))))] := hD
  refine va_putF (D := D) (ci := 5) (v := .ref q_6) (ty := (.array .long)) (C := rn_HP) (T := fl_HP) (N := 12) hx hb hG in_HP tt_HP tk_HP nn_HP hown hK hP hD hS 0 rfl rfl 9 (by decide) (hG _ k_263) (fun _ h9 => h9) rfl hin rfl (by decide +kernel) rfl rfl (Nat.le_of_ble_eq_true rfl) d_HP_init_54 (fun H locs hP hD hS => ?_)
  have hP : va_P D classes [(h0, .inr (5, [.int (nI r), .ref q_1, .ref q_2, .ref q_3, .int 0, .ref q_4, .int 0, .ref q_5, .int 0, .ref q_6, .int 0, .null])), (q_1, .inl (cL, r, .inr (.inl (fun _ => 0)))), (q_2, .inl (cL, r, .inr (.inl (fun _ => 0)))), (q_3, .inl (cI, r, .inl (fun _ => 0))), (q_4, .inl (cI, r, .inl (fun _ => 0))), (q_5, .inl (cI, r, .inl (fun _ => 0))), (q_6, .inl (cL, 8, .inr (.inl (fun _ => 0))))] H := hP
  have hD : va_D A [(h0, .inr (5, [.int (nI r), .ref q_1, .ref q_2, .ref q_3, .int 0, .ref q_4, .int 0, .ref q_5, .int 0, .ref q_6, .int 0, .null])), (q_1, .inl (cL, r, .inr (.inl (fun _ => 0)))), (q_2, .inl (cL, r, .inr (.inl (fun _ => 0)))), (q_3, .inl (cI, r, .inl (fun _ => 0))), (q_4, .inl (cI, r, .inl (fun _ => 0))), (q_5, .inl (cI, r, .inl (fun _ => 0))), (q_6, .inl (cL, 8, .inr (.inl (fun _ => 0))))] := hD
  refine lv_aload_n hx hb d_HP_init_57 rfl (lv_at hl 0 rfl) ?_
  refine lv_sipush (v := 1024) hx hb d_HP_init_58 (by decide) ?_
  refine wp_newa (atype := .int) (ty := .int) (a0 := (1024, .inl (fun _ => 0))) (N' := 1024) hx hb (hG _ k_155) rfl (fun _ h => h) hK 0 rfl hP hD hS hA (fun _ => rfl) (by decide) (by decide) (by decide) (Nat.le_of_ble_eq_true rfl) (Nat.le_of_ble_eq_true rfl) d_HP_init_61 (fun q_7 H hP hD hS => ?_)
  refine W.widen (k := 7) (n := 3032) (Nat.le_of_ble_eq_true rfl) (Nat.le_of_ble_eq_true rfl) ?_
  have hP : va_P D classes [(h0, .inr (5, [.int (nI r), .ref q_1, .ref q_2, .ref q_3, .int 0, .ref q_4, .int 0, .ref q_5, .int 0, .ref q_6, .int 0, .null])), (q_1, .inl (cL, r, .inr (.inl (fun _ => 0)))), (q_2, .inl (cL, r, .inr (.inl (fun _ => 0)))), (q_3, .inl (cI, r, .inl (fun _ => 0))), (q_4, .inl (cI, r, .inl (fun _ => 0))), (q_5, .inl (cI, r, .inl (fun _ => 0))), (q_6, .inl (cL, 8, .inr (.inl (fun _ => 0)))), (q_7, .inl (cI, 1024, .inl (fun _ => 0)))] H := hP
  have hD : va_D A [(h0, .inr (5, [.int (nI r), .ref q_1, .ref q_2, .ref q_3, .int 0, .ref q_4, .int 0, .ref q_5, .int 0, .ref q_6, .int 0, .null])), (q_1, .inl (cL, r, .inr (.inl (fun _ => 0)))), (q_2, .inl (cL, r, .inr (.inl (fun _ => 0)))), (q_3, .inl (cI, r, .inl (fun _ => 0))), (q_4, .inl (cI, r, .inl (fun _ => 0))), (q_5, .inl (cI, r, .inl (fun _ => 0))), (q_6, .inl (cL, 8, .inr (.inl (fun _ => 0)))), (q_7, .inl (cI, 1024, .inl (fun _ => 0)))] := hD
  refine va_putF (D := D) (ci := 5) (v := .ref q_7) (ty := (.array .int)) (C := rn_HP) (T := fl_HP) (N := 12) hx hb hG in_HP tt_HP tk_HP nn_HP hown hK hP hD hS 0 rfl rfl 11 (by decide) (hG _ k_265) (fun _ h9 => h9) rfl hin rfl (by decide +kernel) rfl rfl (Nat.le_of_ble_eq_true rfl) d_HP_init_63 (fun H locs hP hD hS => ?_)
  have hP : va_P D classes [(h0, .inr (5, [.int (nI r), .ref q_1, .ref q_2, .ref q_3, .int 0, .ref q_4, .int 0, .ref q_5, .int 0, .ref q_6, .int 0, .ref q_7])), (q_1, .inl (cL, r, .inr (.inl (fun _ => 0)))), (q_2, .inl (cL, r, .inr (.inl (fun _ => 0)))), (q_3, .inl (cI, r, .inl (fun _ => 0))), (q_4, .inl (cI, r, .inl (fun _ => 0))), (q_5, .inl (cI, r, .inl (fun _ => 0))), (q_6, .inl (cL, 8, .inr (.inl (fun _ => 0)))), (q_7, .inl (cI, 1024, .inl (fun _ => 0)))] H := hP
  have hD : va_D A [(h0, .inr (5, [.int (nI r), .ref q_1, .ref q_2, .ref q_3, .int 0, .ref q_4, .int 0, .ref q_5, .int 0, .ref q_6, .int 0, .ref q_7])), (q_1, .inl (cL, r, .inr (.inl (fun _ => 0)))), (q_2, .inl (cL, r, .inr (.inl (fun _ => 0)))), (q_3, .inl (cI, r, .inl (fun _ => 0))), (q_4, .inl (cI, r, .inl (fun _ => 0))), (q_5, .inl (cI, r, .inl (fun _ => 0))), (q_6, .inl (cL, 8, .inr (.inl (fun _ => 0)))), (q_7, .inl (cI, 1024, .inl (fun _ => 0)))] := hD
  refine W.widen (k := 7) (n := 3032) (Nat.le_of_ble_eq_true rfl) (Nat.le_of_ble_eq_true rfl) ?_
  exact wp_vret hx hb hr hlocks hP hD hK hS (fun i => [q_1, q_2, q_3, q_4, q_5, q_6, q_7].getD i 0) [0, 1, 2, 3, 4, 5, 6, 7] (by decide) rfl trivial d_HP_init_66
