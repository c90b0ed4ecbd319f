set_option maxHeartbeats 8000000 in
set_option maxRecDepth 100000 in
theorem wd_of (l : Launch) (D : va_G) (cI cL cZ cC : ClassId) (k : Int32) (v : Int32) : Met l y_WD_of (wz y_WD_of b_WD_of 2 (some .long)) ({ frames := 0, cells := 0, slots := 0, locals := 0 }) (va_Pc [.int k, .int v] (wq_pre D (tys4 cI cL cZ cC) [])) (QcReadL (wof k v)) 0 0 (fun _ => False) := by
  refine Met.ofW (cc := b_WD_of) (maxL := 2) (ret := (some .long)) (by decide) rfl ?_
  intro p e s m args below meth c s₁ B hml hv
  obtain ⟨rfl, hP, hK⟩ := hv
  have hx := B.exec
  have hb := B.bytes
  have hr := B.returns
  have hts := atoms_spec (ws := wz y_WD_of b_WD_of 2 (some .long)) B.pre
  have hG := wz_G hts
  have hown : s.vm.findClass rn_WD = some m.cls := findClass_of_methodNamed B.named
  have hlocks := B.notSynchronized
  have hl := lv_entry ([.int k, .int v]) (n := 2) (Nat.le_of_ble_eq_true rfl)
  rw [lg_entry_eq]
  generalize (lg_sl ([.int k, .int v]) ++ List.replicate (2 - (lg_sl ([.int k, .int v])).length) Slot.unset).toArray = ls at hl ⊢
  have hl : lv_has ls 2 [(0, .int k), (1, .int v)] := hl
  refine lv_iload_n hx hb d_WD_of_0 rfl (lv_at hl 0 rfl) ?_
  refine lv_i2l hx hb d_WD_of_1 rfl ?_
  refine lv_bipush (v := 32) hx hb d_WD_of_2 (by decide) ?_
  refine lv_lshl hx hb d_WD_of_4 rfl ?_
  refine lv_iload_n hx hb d_WD_of_5 rfl (lv_at hl 1 rfl) ?_
  refine lv_i2l hx hb d_WD_of_6 rfl ?_
  refine lv_ldc2 (v := 4294967295) hx hb hown (hG _ k_738) d_WD_of_7 ?_
  refine lv_land hx hb d_WD_of_10 ?_
  refine lv_lor hx hb d_WD_of_11 ?_
  exact W.lret hx hb hr (fun t ht hW => ⟨rfl, ht⟩) (fun q h => by cases h) d_WD_of_12 hlocks
set_option maxHeartbeats 8000000 in
set_option maxRecDepth 100000 in
theorem wd_constant (l : Launch) (D : va_G) (cI cL cZ cC : ClassId) (k : Int32) : Met l y_WD_constant (wz y_WD_constant b_WD_constant 1 (some .long)) ({ frames := 0, cells := 0, slots := 0, locals := 0 }) (va_Pc [.int k] (wq_pre D (tys4 cI cL cZ cC) [])) (QcReadL (wcon k)) 0 0 (fun _ => False) := by
  refine Met.ofW (cc := b_WD_constant) (maxL := 1) (ret := (some .long)) (by decide) rfl ?_
  intro p e s m args below meth c s₁ B hml hv
  obtain ⟨rfl, hP, hK⟩ := hv
  have hx := B.exec
  have hb := B.bytes
  have hr := B.returns
  have hts := atoms_spec (ws := wz y_WD_constant b_WD_constant 1 (some .long)) B.pre
  have hG := wz_G hts
  have hown : s.vm.findClass rn_WD = some m.cls := findClass_of_methodNamed B.named
  have hlocks := B.notSynchronized
  have hl := lv_entry ([.int k]) (n := 1) (Nat.le_of_ble_eq_true rfl)
  rw [lg_entry_eq]
  generalize (lg_sl ([.int k]) ++ List.replicate (1 - (lg_sl ([.int k])).length) Slot.unset).toArray = ls at hl ⊢
  have hl : lv_has ls 1 [(0, .int k)] := hl
  refine lv_iload_n hx hb d_WD_constant_0 rfl (lv_at hl 0 rfl) ?_
  refine lv_i2l hx hb d_WD_constant_1 rfl ?_
  refine lv_bipush (v := 32) hx hb d_WD_constant_2 (by decide) ?_
  refine lv_lshl hx hb d_WD_constant_4 rfl ?_
  exact W.lret hx hb hr (fun t ht hW => ⟨rfl, ht⟩) (fun q h => by cases h) d_WD_constant_5 hlocks
set_option maxHeartbeats 8000000 in
set_option maxRecDepth 100000 in
theorem wd_kind (l : Launch) (D : va_G) (cI cL cZ cC : ClassId) (w : Int64) : Met l y_WD_kind (wz y_WD_kind b_WD_kind 2 (some .int)) ({ frames := 0, cells := 0, slots := 0, locals := 0 }) (va_Pc [.long w] (wq_pre D (tys4 cI cL cZ cC) [])) (QcRead (wkind w)) 0 0 (fun _ => False) := by
  refine Met.ofW (cc := b_WD_kind) (maxL := 2) (ret := (some .int)) (by decide) rfl ?_
  intro p e s m args below meth c s₁ B hml hv
  obtain ⟨rfl, hP, hK⟩ := hv
  have hx := B.exec
  have hb := B.bytes
  have hr := B.returns
  have hts := atoms_spec (ws := wz y_WD_kind b_WD_kind 2 (some .int)) B.pre
  have hG := wz_G hts
  have hown : s.vm.findClass rn_WD = some m.cls := findClass_of_methodNamed B.named
  have hlocks := B.notSynchronized
  have hl := lv_entry ([.long w]) (n := 2) (Nat.le_of_ble_eq_true rfl)
  rw [lg_entry_eq]
  generalize (lg_sl ([.long w]) ++ List.replicate (2 - (lg_sl ([.long w])).length) Slot.unset).toArray = ls at hl ⊢
  have hl : lv_has ls 2 [(0, .long w)] := hl
  refine lv_lload_n hx hb d_WD_kind_0 rfl (lv_at hl 0 rfl) ?_
  refine lv_bipush (v := 32) hx hb d_WD_kind_1 (by decide) ?_
  refine lv_lushr hx hb d_WD_kind_3 rfl ?_
  refine lv_l2i hx hb d_WD_kind_4 rfl ?_
  exact W.iret hx hb hr (fun t ht hW => ⟨rfl, ht⟩) (fun q h => by cases h) d_WD_kind_5 hlocks
set_option maxHeartbeats 8000000 in
set_option maxRecDepth 100000 in
theorem wd_number (l : Launch) (D : va_G) (cI cL cZ cC : ClassId) (w : Int64) : Met l y_WD_number (wz y_WD_number b_WD_number 2 (some .int)) ({ frames := 0, cells := 0, slots := 0, locals := 0 }) (va_Pc [.long w] (wq_pre D (tys4 cI cL cZ cC) [])) (QcRead w.toInt32) 0 0 (fun _ => False) := by
  refine Met.ofW (cc := b_WD_number) (maxL := 2) (ret := (some .int)) (by decide) rfl ?_
  intro p e s m args below meth c s₁ B hml hv
  obtain ⟨rfl, hP, hK⟩ := hv
  have hx := B.exec
  have hb := B.bytes
  have hr := B.returns
  have hts := atoms_spec (ws := wz y_WD_number b_WD_number 2 (some .int)) B.pre
  have hG := wz_G hts
  have hown : s.vm.findClass rn_WD = some m.cls := findClass_of_methodNamed B.named
  have hlocks := B.notSynchronized
  have hl := lv_entry ([.long w]) (n := 2) (Nat.le_of_ble_eq_true rfl)
  rw [lg_entry_eq]
  generalize (lg_sl ([.long w]) ++ List.replicate (2 - (lg_sl ([.long w])).length) Slot.unset).toArray = ls at hl ⊢
  have hl : lv_has ls 2 [(0, .long w)] := hl
  refine lv_lload_n hx hb d_WD_number_0 rfl (lv_at hl 0 rfl) ?_
  refine lv_l2i hx hb d_WD_number_1 rfl ?_
  exact W.iret hx hb hr (fun t ht hW => ⟨rfl, ht⟩) (fun q h => by cases h) d_WD_number_2 hlocks
set_option maxHeartbeats 8000000 in
set_option maxRecDepth 100000 in
theorem wd_isCell (l : Launch) (D : va_G) (cI cL cZ cC : ClassId) (w : Int64) : Met l y_WD_isCell (wz y_WD_isCell b_WD_isCell 2 (some .boolean)) ({ frames := 0, cells := 0, slots := 0, locals := 0 }) (va_Pc [.long w] (wq_pre D (tys4 cI cL cZ cC) [])) (QcRead (wcell w)) 0 0 (fun _ => False) := by
  refine Met.ofW (cc := b_WD_isCell) (maxL := 2) (ret := (some .boolean)) (by decide) rfl ?_
  intro p e s m args below meth c s₁ B hml hv
  obtain ⟨rfl, hP, hK⟩ := hv
  have hx := B.exec
  have hb := B.bytes
  have hr := B.returns
  have hts := atoms_spec (ws := wz y_WD_isCell b_WD_isCell 2 (some .boolean)) B.pre
  have hG := wz_G hts
  have hown : s.vm.findClass rn_WD = some m.cls := findClass_of_methodNamed B.named
  have hlocks := B.notSynchronized
  have hl := lv_entry ([.long w]) (n := 2) (Nat.le_of_ble_eq_true rfl)
  rw [lg_entry_eq]
  generalize (lg_sl ([.long w]) ++ List.replicate (2 - (lg_sl ([.long w])).length) Slot.unset).toArray = ls at hl ⊢
  have hl : lv_has ls 2 [(0, .long w)] := hl
  refine lv_lload_n hx hb d_WD_isCell_0 rfl (lv_at hl 0 rfl) ?_
  refine lv_bipush (v := 32) hx hb d_WD_isCell_1 (by decide) ?_
  refine lv_lushr hx hb d_WD_isCell_3 rfl ?_
  refine lv_l2i hx hb d_WD_isCell_4 rfl ?_
  refine lv_bipush (v := 23) hx hb d_WD_isCell_5 (by decide) ?_
  refine lv_icmp_ne (tgt := 14) hx hb d_WD_isCell_7 (by decide) (fun hb_1 => ?_) (fun hb_1 => ?_)
  · skip
    refine lv_iconst (v := 0) hx hb d_WD_isCell_14 (by decide) ?_
    exact W.zret hx hb hr rfl (fun t ht hW => ⟨by rw [show wcell w = 0 from if_neg hb_1], ht⟩) (fun q h => by cases h) d_WD_isCell_15 hlocks
  · skip
    refine lv_iconst (v := 1) hx hb d_WD_isCell_10 (by decide) ?_
    refine lv_goto (tgt := 15) hx hb d_WD_isCell_11 (by decide) ?_
    exact W.zret hx hb hr rfl (fun t ht hW => ⟨by rw [show wcell w = 1 from if_pos hb_1], ht⟩) (fun q h => by cases h) d_WD_isCell_15 hlocks
