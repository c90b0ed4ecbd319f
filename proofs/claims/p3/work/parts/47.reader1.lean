theorem isw_or (k v w : Int32) : isw k v w = 0 ∨ isw k v w = 1 := by
  unfold isw
  split
  · split
    · exact Or.inr rfl
    · exact Or.inl rfl
  · exact Or.inl rfl

set_option maxHeartbeats 8000000 in
set_option maxRecDepth 100000 in
theorem rd_definitions (l : Launch) (D : va_G) (cI cL cZ cC : ClassId) (f : Nat → Nat) (at_ : Int32) (nd : Nat) (df : Nat) (mt : Int64) (ns : Nat) (nw : Nat) (na : Nat → Int32) (de : Nat → Int64) (sc : Nat → Int32) (wt : Nat → Int64) (hnd : nd ≤ 8) (hdf : df ≤ 8) (hmt : wfw 1024 mt) (hns : ns ≤ 14) (hnw : nw ≤ 100) (hde : wfa 1024 de) (hwt : wfa 1024 wt) : Met l y_RD_definitions (wz y_RD_definitions b_RD_definitions 1 (some .int)) ({ frames := 0, cells := 0, slots := 0, locals := 0 }) (va_Pc [.ref (f 11)] (wq_pre D (tys4 cI cL cZ cC) [((f 11), .inr (3, [.ref (f 1), .ref (f 4), .int at_, .ref (f 12), .int (nI nd), .ref (f 13), .int (nI df), .long mt, .ref (f 14), .int (nI ns), .ref (f 15), .int (nI nw)])), ((f 12), .inl (cI, 8, .inl na)), ((f 13), .inl (cL, 8, .inr (.inl de))), ((f 14), .inl (cI, 14, .inl sc)), ((f 15), .inl (cL, 100, .inr (.inl wt)))])) (QcRead (nI df)) 0 0 (fun _ => False) := by
  refine Met.ofW (cc := b_RD_definitions) (maxL := 1) (ret := (some .int)) (by decide) rfl ?_
  intro p e s m args below meth c s₁ B hml hv
  obtain ⟨rfl, hP, hK⟩ := hv
  have hx := B.exec
  have hb := B.bytes
  have hr := B.returns
  have hts := atoms_spec (ws := wz y_RD_definitions b_RD_definitions 1 (some .int)) B.pre
  have hG := wz_G hts
  have hown : s.vm.findClass rn_RD = some m.cls := findClass_of_methodNamed B.named
  have hlocks := B.notSynchronized
  have hl := lv_entry ([.ref (f 11)]) (n := 1) (Nat.le_of_ble_eq_true rfl)
  rw [lg_entry_eq]
  generalize (lg_sl ([.ref (f 11)]) ++ List.replicate (1 - (lg_sl ([.ref (f 11)])).length) Slot.unset).toArray = ls at hl ⊢
  have hl : lv_has ls 1 [(0, .ref (f 11))] := hl
  refine lv_aload_n hx hb d_RD_definitions_0 rfl (lv_at hl 0 rfl) ?_
  refine va_get (D := D) (ci := 3) (v := .int (nI df)) (C := rn_RD) (T := fl_RD) (N := 12) hx hb hG in_RD hown hK hP 0 rfl rfl 6 (by decide) (hG _ k_201) (fun _ h9 => h9) rfl d_RD_definitions_1 ?_
  exact W.iret hx hb hr (fun t ht hW => ⟨rfl, ht⟩) (fun q h => by cases h) d_RD_definitions_4 hlocks
set_option maxHeartbeats 8000000 in
set_option maxRecDepth 100000 in
theorem rd_definition (l : Launch) (D : va_G) (cI cL cZ cC : ClassId) (f : Nat → Nat) (at_ : Int32) (nd : Nat) (df : Nat) (mt : Int64) (ns : Nat) (nw : Nat) (na : Nat → Int32) (de : Nat → Int64) (sc : Nat → Int32) (wt : Nat → Int64) (k : Nat) (hnd : nd ≤ 8) (hdf : df ≤ 8) (hmt : wfw 1024 mt) (hns : ns ≤ 14) (hnw : nw ≤ 100) (hde : wfa 1024 de) (hwt : wfa 1024 wt) (hk : k < 8) : Met l y_RD_definition (wz y_RD_definition b_RD_definition 2 (some .long)) ({ frames := 0, cells := 0, slots := 0, locals := 0 }) (va_Pc [.ref (f 11), .int (nI k)] (wq_pre D (tys4 cI cL cZ cC) [((f 11), .inr (3, [.ref (f 1), .ref (f 4), .int at_, .ref (f 12), .int (nI nd), .ref (f 13), .int (nI df), .long mt, .ref (f 14), .int (nI ns), .ref (f 15), .int (nI nw)])), ((f 12), .inl (cI, 8, .inl na)), ((f 13), .inl (cL, 8, .inr (.inl de))), ((f 14), .inl (cI, 14, .inl sc)), ((f 15), .inl (cL, 100, .inr (.inl wt)))])) (QcReadL (de (nI k).toNatClampNeg)) 0 0 (fun _ => False) := by
  refine Met.ofW (cc := b_RD_definition) (maxL := 2) (ret := (some .long)) (by decide) rfl ?_
  intro p e s m args below meth c s₁ B hml hv
  obtain ⟨rfl, hP, hK⟩ := hv
  have hx := B.exec
  have hb := B.bytes
  have hr := B.returns
  have hts := atoms_spec (ws := wz y_RD_definition b_RD_definition 2 (some .long)) B.pre
  have hG := wz_G hts
  have hown : s.vm.findClass rn_RD = some m.cls := findClass_of_methodNamed B.named
  have hlocks := B.notSynchronized
  have hl := lv_entry ([.ref (f 11), .int (nI k)]) (n := 2) (Nat.le_of_ble_eq_true rfl)
  rw [lg_entry_eq]
  generalize (lg_sl ([.ref (f 11), .int (nI k)]) ++ List.replicate (2 - (lg_sl ([.ref (f 11), .int (nI k)])).length) Slot.unset).toArray = ls at hl ⊢
  have hl : lv_has ls 2 [(0, .ref (f 11)), (1, .int (nI k))] := hl
  refine lv_aload_n hx hb d_RD_definition_0 rfl (lv_at hl 0 rfl) ?_
  refine va_get (D := D) (ci := 3) (v := .ref (f 13)) (C := rn_RD) (T := fl_RD) (N := 12) hx hb hG in_RD hown hK hP 0 rfl rfl 5 (by decide) (hG _ k_200) (fun _ h9 => h9) rfl d_RD_definition_1 ?_
  refine lv_iload_n hx hb d_RD_definition_4 rfl (lv_at hl 1 rfl) ?_
  refine va_lald hx hb hK hP 2 1 rfl rfl (vp_in_nI (n := k) (N := 8) (by omega) (by omega)) d_RD_definition_5 ?_
  exact W.lret hx hb hr (fun t ht hW => ⟨rfl, ht⟩) (fun q h => by cases h) d_RD_definition_6 hlocks
set_option maxHeartbeats 8000000 in
set_option maxRecDepth 100000 in
theorem rd_mainTerm (l : Launch) (D : va_G) (cI cL cZ cC : ClassId) (f : Nat → Nat) (at_ : Int32) (nd : Nat) (df : Nat) (mt : Int64) (ns : Nat) (nw : Nat) (na : Nat → Int32) (de : Nat → Int64) (sc : Nat → Int32) (wt : Nat → Int64) (hnd : nd ≤ 8) (hdf : df ≤ 8) (hmt : wfw 1024 mt) (hns : ns ≤ 14) (hnw : nw ≤ 100) (hde : wfa 1024 de) (hwt : wfa 1024 wt) : Met l y_RD_mainTerm (wz y_RD_mainTerm b_RD_mainTerm 1 (some .long)) ({ frames := 0, cells := 0, slots := 0, locals := 0 }) (va_Pc [.ref (f 11)] (wq_pre D (tys4 cI cL cZ cC) [((f 11), .inr (3, [.ref (f 1), .ref (f 4), .int at_, .ref (f 12), .int (nI nd), .ref (f 13), .int (nI df), .long mt, .ref (f 14), .int (nI ns), .ref (f 15), .int (nI nw)])), ((f 12), .inl (cI, 8, .inl na)), ((f 13), .inl (cL, 8, .inr (.inl de))), ((f 14), .inl (cI, 14, .inl sc)), ((f 15), .inl (cL, 100, .inr (.inl wt)))])) (QcReadL mt) 0 0 (fun _ => False) := by
  refine Met.ofW (cc := b_RD_mainTerm) (maxL := 1) (ret := (some .long)) (by decide) rfl ?_
  intro p e s m args below meth c s₁ B hml hv
  obtain ⟨rfl, hP, hK⟩ := hv
  have hx := B.exec
  have hb := B.bytes
  have hr := B.returns
  have hts := atoms_spec (ws := wz y_RD_mainTerm b_RD_mainTerm 1 (some .long)) B.pre
  have hG := wz_G hts
  have hown : s.vm.findClass rn_RD = some m.cls := findClass_of_methodNamed B.named
  have hlocks := B.notSynchronized
  have hl := lv_entry ([.ref (f 11)]) (n := 1) (Nat.le_of_ble_eq_true rfl)
  rw [lg_entry_eq]
  generalize (lg_sl ([.ref (f 11)]) ++ List.replicate (1 - (lg_sl ([.ref (f 11)])).length) Slot.unset).toArray = ls at hl ⊢
  have hl : lv_has ls 1 [(0, .ref (f 11))] := hl
  refine lv_aload_n hx hb d_RD_mainTerm_0 rfl (lv_at hl 0 rfl) ?_
  refine va_get (D := D) (ci := 3) (v := .long mt) (C := rn_RD) (T := fl_RD) (N := 12) hx hb hG in_RD hown hK hP 0 rfl rfl 7 (by decide) (hG _ k_202) (fun _ h9 => h9) rfl d_RD_mainTerm_1 ?_
  exact W.lret hx hb hr (fun t ht hW => ⟨rfl, ht⟩) (fun q h => by cases h) d_RD_mainTerm_4 hlocks
set_option maxHeartbeats 8000000 in
set_option maxRecDepth 100000 in
theorem rd_isWord (l : Launch) (D : va_G) (cI cL cZ cC : ClassId) (f : Nat → Nat) (at_ : Int32) (nd : Nat) (df : Nat) (mt : Int64) (ns : Nat) (nw : Nat) (na : Nat → Int32) (de : Nat → Int64) (sc : Nat → Int32) (wt : Nat → Int64) (lz : Nat) (lk : Nat → Int32) (lv : Nat → Int32) (w : Int32) (hnd : nd ≤ 8) (hdf : df ≤ 8) (hmt : wfw 1024 mt) (hns : ns ≤ 14) (hnw : nw ≤ 100) (hde : wfa 1024 de) (hwt : wfa 1024 wt) (hlz : lz ≤ 100) : Met l y_RD_isWord (wz y_RD_isWord b_RD_isWord 2 (some .boolean)) ({ frames := 1, cells := 0, slots := 0, locals := 21 }) (va_Pc [.ref (f 11), .int w] (wq_pre D (tys4 cI cL cZ cC) [((f 11), .inr (3, [.ref (f 1), .ref (f 4), .int at_, .ref (f 12), .int (nI nd), .ref (f 13), .int (nI df), .long mt, .ref (f 14), .int (nI ns), .ref (f 15), .int (nI nw)])), ((f 12), .inl (cI, 8, .inl na)), ((f 13), .inl (cL, 8, .inr (.inl de))), ((f 14), .inl (cI, 14, .inl sc)), ((f 15), .inl (cL, 100, .inr (.inl wt))), ((f 1), .inr (1, [.ref (f 2), .ref (f 3), .int (nI lz)])), ((f 2), .inl (cI, 100, .inl lk)), ((f 3), .inl (cI, 100, .inl lv))])) (QcRead (isw (lxa lk lz at_) (lxa lv lz at_) w)) 0 0 (fun _ => False) := by
  refine Met.ofW (cc := b_RD_isWord) (maxL := 2) (ret := (some .boolean)) (by decide) rfl ?_
  intro p e s m args below meth c s₁ B hml hv
  obtain ⟨rfl, hP, hK⟩ := hv
  have hx := B.exec
  have hb := B.bytes
  have hr := B.returns
  have hts := atoms_spec (ws := wz y_RD_isWord b_RD_isWord 2 (some .boolean)) B.pre
  have hG := wz_G hts
  have hown : s.vm.findClass rn_RD = some m.cls := findClass_of_methodNamed B.named
  have hlocks := B.notSynchronized
  have hl := lv_entry ([.ref (f 11), .int w]) (n := 2) (Nat.le_of_ble_eq_true rfl)
  rw [lg_entry_eq]
  generalize (lg_sl ([.ref (f 11), .int w]) ++ List.replicate (2 - (lg_sl ([.ref (f 11), .int w])).length) Slot.unset).toArray = ls at hl ⊢
  have hl : lv_has ls 2 [(0, .ref (f 11)), (1, .int w)] := hl
  refine lv_aload_n hx hb d_RD_isWord_0 rfl (lv_at hl 0 rfl) ?_
  refine va_get (D := D) (ci := 3) (v := .ref (f 1)) (C := rn_RD) (T := fl_RD) (N := 12) hx hb hG in_RD hown hK hP 0 rfl rfl 0 (by decide) (hG _ k_195) (fun _ h9 => h9) rfl d_RD_isWord_1 ?_
  refine lv_aload_n hx hb d_RD_isWord_4 rfl (lv_at hl 0 rfl) ?_
  refine va_get (D := D) (ci := 3) (v := .int at_) (C := rn_RD) (T := fl_RD) (N := 12) hx hb hG in_RD hown hK hP 0 rfl rfl 2 (by decide) (hG _ k_197) (fun _ h9 => h9) rfl d_RD_isWord_5 ?_
  refine W.callR (W.runV (As := [.int at_]) (rest := []) ⟨hx, hb, hml, hown, hG⟩ (lx_kind l D cI cL cZ cC f lz lk lv at_ (by omega)) (cwV 1 hG (gd_V k_668 k_669 k_670 k_108 k_671) rfl rfl rfl (by decide +kernel) ⟨Nat.le_of_ble_eq_true rfl, Nat.le_of_ble_eq_true rfl⟩) (wq_V (q0 := 5) hP hK rfl rfl [5, 6, 7] rfl) rfl rfl hl.1 rfl (lv_room (Nat.le_of_ble_eq_true rfl)) d_RD_isWord_8 ⟨Nat.le_of_ble_eq_true rfl, Nat.le_of_ble_eq_true rfl⟩) ?_
  refine W.eq (g2 := F0 m 11 ls [.int (lxa lk lz at_)]) rfl ?_
  refine lv_iconst (v := 1) hx hb d_RD_isWord_11 (by decide) ?_
  refine lv_icmp_ne (tgt := 34) hx hb d_RD_isWord_12 (by decide) (fun hb_1 => ?_) (fun hb_1 => ?_)
  · skip
    refine lv_iconst (v := 0) hx hb d_RD_isWord_34 (by decide) ?_
    exact W.zret hx hb hr rfl (fun t ht hW => ⟨by rw [show isw (lxa lk lz at_) (lxa lv lz at_) w = 0 from (by unfold isw; rw [if_neg hb_1])], ht⟩) (fun q h => by cases h) d_RD_isWord_35 hlocks
  · skip
    refine lv_aload_n hx hb d_RD_isWord_15 rfl (lv_at hl 0 rfl) ?_
    refine va_get (D := D) (ci := 3) (v := .ref (f 1)) (C := rn_RD) (T := fl_RD) (N := 12) hx hb hG in_RD hown hK hP 0 rfl rfl 0 (by decide) (hG _ k_195) (fun _ h9 => h9) rfl d_RD_isWord_16 ?_
    refine lv_aload_n hx hb d_RD_isWord_19 rfl (lv_at hl 0 rfl) ?_
    refine va_get (D := D) (ci := 3) (v := .int at_) (C := rn_RD) (T := fl_RD) (N := 12) hx hb hG in_RD hown hK hP 0 rfl rfl 2 (by decide) (hG _ k_197) (fun _ h9 => h9) rfl d_RD_isWord_20 ?_
    refine W.callR (W.runV (As := [.int at_]) (rest := []) ⟨hx, hb, hml, hown, hG⟩ (lx_value l D cI cL cZ cC f lz lk lv at_ (by omega)) (cwV 1 hG (gd_V k_672 k_673 k_674 k_108 k_675) rfl rfl rfl (by decide +kernel) ⟨Nat.le_of_ble_eq_true rfl, Nat.le_of_ble_eq_true rfl⟩) (wq_V (q0 := 5) hP hK rfl rfl [5, 6, 7] rfl) rfl rfl hl.1 rfl (lv_room (Nat.le_of_ble_eq_true rfl)) d_RD_isWord_23 ⟨Nat.le_of_ble_eq_true rfl, Nat.le_of_ble_eq_true rfl⟩) ?_
    refine W.eq (g2 := F0 m 26 ls [.int (lxa lv lz at_)]) rfl ?_
    refine lv_iload_n hx hb d_RD_isWord_26 rfl (lv_at hl 1 rfl) ?_
    refine lv_icmp_ne (tgt := 34) hx hb d_RD_isWord_27 (by decide) (fun hb_2 => ?_) (fun hb_2 => ?_)
    · skip
      refine lv_iconst (v := 0) hx hb d_RD_isWord_34 (by decide) ?_
      exact W.zret hx hb hr rfl (fun t ht hW => ⟨by rw [show isw (lxa lk lz at_) (lxa lv lz at_) w = 0 from (by unfold isw; rw [if_pos hb_1, if_neg hb_2])], ht⟩) (fun q h => by cases h) d_RD_isWord_35 hlocks
    · skip
      refine lv_iconst (v := 1) hx hb d_RD_isWord_30 (by decide) ?_
      refine lv_goto (tgt := 35) hx hb d_RD_isWord_31 (by decide) ?_
      exact W.zret hx hb hr rfl (fun t ht hW => ⟨by rw [show isw (lxa lk lz at_) (lxa lv lz at_) w = 1 from (by unfold isw; rw [if_pos hb_1, if_pos hb_2])], ht⟩) (fun q h => by cases h) d_RD_isWord_35 hlocks
set_option maxHeartbeats 8000000 in
set_option maxRecDepth 100000 in
theorem rd_isAtDefinition (l : Launch) (D : va_G) (cI cL cZ cC : ClassId) (f : Nat → Nat) (at_ : Int32) (nd : Nat) (df : Nat) (mt : Int64) (ns : Nat) (nw : Nat) (na : Nat → Int32) (de : Nat → Int64) (sc : Nat → Int32) (wt : Nat → Int64) (lz : Nat) (lk : Nat → Int32) (lv : Nat → Int32) (sz : Nat) (hnd : nd ≤ 8) (hdf : df ≤ 8) (hmt : wfw 1024 mt) (hns : ns ≤ 14) (hnw : nw ≤ 100) (hde : wfa 1024 de) (hwt : wfa 1024 wt) (hlz : lz ≤ 100) (hnt : l.stackTraces = false) : em_Met l y_RD_isAtDefinition (wz y_RD_isAtDefinition b_RD_isAtDefinition 1 (some .boolean)) ({ frames := 2, cells := 0, slots := 0, locals := 42 }) (va_Pc [.ref (f 11)] (tw_pre D (tys4 cI cL cZ cC) [((f 11), .inr (3, [.ref (f 1), .ref (f 4), .int at_, .ref (f 12), .int (nI nd), .ref (f 13), .int (nI df), .long mt, .ref (f 14), .int (nI ns), .ref (f 15), .int (nI nw)])), ((f 12), .inl (cI, 8, .inl na)), ((f 13), .inl (cL, 8, .inr (.inl de))), ((f 14), .inl (cI, 14, .inl sc)), ((f 15), .inl (cL, 100, .inr (.inl wt))), ((f 1), .inr (1, [.ref (f 2), .ref (f 3), .int (nI lz)])), ((f 2), .inl (cI, 100, .inl lk)), ((f 3), .inl (cI, 100, .inl lv))] sz)) D (tys4 cI cL cZ cC) (va_A [((f 11), .inr (3, [.ref (f 1), .ref (f 4), .int at_, .ref (f 12), .int (nI nd), .ref (f 13), .int (nI df), .long mt, .ref (f 14), .int (nI ns), .ref (f 15), .int (nI nw)])), ((f 12), .inl (cI, 8, .inl na)), ((f 13), .inl (cL, 8, .inr (.inl de))), ((f 14), .inl (cI, 14, .inl sc)), ((f 15), .inl (cL, 100, .inr (.inl wt))), ((f 1), .inr (1, [.ref (f 2), .ref (f 3), .int (nI lz)])), ((f 2), .inl (cI, 100, .inl lk)), ((f 3), .inl (cI, 100, .inl lv))] sz) (fun (_ : Unit) => [((f 11), .inr (3, [.ref (f 1), .ref (f 4), .int at_, .ref (f 12), .int (nI nd), .ref (f 13), .int (nI df), .long mt, .ref (f 14), .int (nI ns), .ref (f 15), .int (nI nw)])), ((f 12), .inl (cI, 8, .inl na)), ((f 13), .inl (cL, 8, .inr (.inl de))), ((f 14), .inl (cI, 14, .inl sc)), ((f 15), .inl (cL, 100, .inr (.inl wt))), ((f 1), .inr (1, [.ref (f 2), .ref (f 3), .int (nI lz)])), ((f 2), .inl (cI, 100, .inl lk)), ((f 3), .inl (cI, 100, .inl lv))]) (fun v (_ : Unit) => ∃ r : Int32, v = some (.int r) ∧ ((r = 0 ∨ r = 1))) (fun C (_ : Unit) => False) 0 0 := by
  refine em_Met.ofW (cc := b_RD_isAtDefinition) (maxL := 1) (ret := (some .boolean)) (by decide) rfl ?_
  intro p e s m args below meth c s₁ B hml hv hno
  obtain ⟨rfl, ⟨hsz, hP, hK, hD0⟩, hE⟩ := hv
  have hx := B.exec
  have hb := B.bytes
  have hr := B.returns
  have hts := atoms_spec (ws := wz y_RD_isAtDefinition b_RD_isAtDefinition 1 (some .boolean)) B.pre
  have hG := wz_G hts
  have hown : s.vm.findClass rn_RD = some m.cls := findClass_of_methodNamed B.named
  have hlocks := B.notSynchronized
  subst hsz
  have hD := hD0.self (sz := s.heap.size)
  have hst := tw_st hP
  generalize hAe : va_A [((f 11), .inr (3, [.ref (f 1), .ref (f 4), .int at_, .ref (f 12), .int (nI nd), .ref (f 13), .int (nI df), .long mt, .ref (f 14), .int (nI ns), .ref (f 15), .int (nI nw)])), ((f 12), .inl (cI, 8, .inl na)), ((f 13), .inl (cL, 8, .inr (.inl de))), ((f 14), .inl (cI, 14, .inl sc)), ((f 15), .inl (cL, 100, .inr (.inl wt))), ((f 1), .inr (1, [.ref (f 2), .ref (f 3), .int (nI lz)])), ((f 2), .inl (cI, 100, .inl lk)), ((f 3), .inl (cI, 100, .inl lv))] s.heap.size = A at hD hst ⊢
  have hA : ∀ q : Nat, s.heap.size ≤ q → A q := fun q h => by rw [← hAe]; exact Or.inr h
  have hS : va_S A s.heap s.heap [] := va_S.rf
  have hl := lv_entry ([.ref (f 11)]) (n := 1) (Nat.le_of_ble_eq_true rfl)
  rw [lg_entry_eq]
  generalize (lg_sl ([.ref (f 11)]) ++ List.replicate (1 - (lg_sl ([.ref (f 11)])).length) Slot.unset).toArray = ls at hl ⊢
  have hl : lv_has ls 1 [(0, .ref (f 11))] := hl
  refine lv_aload_n hx hb d_RD_isAtDefinition_0 rfl (lv_at hl 0 rfl) ?_
  refine lv_sipush (v := 4262) hx hb d_RD_isAtDefinition_1 (by decide) ?_
  refine W.callR (W.runV (As := [.int 4262]) (rest := []) ⟨hx, hb, hml, hown, hG⟩ (rd_isWord l D cI cL cZ cC f at_ nd df mt ns nw na de sc wt lz lk lv 4262 (by omega) (by omega) hmt (by omega) (by omega) hde hwt (by omega)) (cwV 1 hG (gd_V k_681 k_683 k_4 k_110 k_684) rfl rfl rfl (by decide +kernel) ⟨Nat.le_of_ble_eq_true rfl, Nat.le_of_ble_eq_true rfl⟩) (wq_V (q0 := 0) hP hK rfl rfl [0, 1, 2, 3, 4, 5, 6, 7] rfl) rfl rfl hl.1 rfl (lv_room (Nat.le_of_ble_eq_true rfl)) d_RD_isAtDefinition_4 ⟨Nat.le_of_ble_eq_true rfl, Nat.le_of_ble_eq_true rfl⟩) ?_
  refine W.eq (g2 := F0 m 7 ls [.int (isw (lxa lk lz at_) (lxa lv lz at_) 4262)]) rfl ?_
  exact em_zret hx hb hr hlocks (bln_n (isw_or _ _ _)) hP hD hK hS () [0, 1, 2, 3, 4, 5, 6, 7] (by decide) rfl ⟨_, rfl, (isw_or _ _ _)⟩ d_RD_isAtDefinition_7
set_option maxHeartbeats 8000000 in
set_option maxRecDepth 100000 in
theorem rd_isInScope (l : Launch) (D : va_G) (cI cL cZ cC : ClassId) (f : Nat → Nat) (at_ : Int32) (nd : Nat) (df : Nat) (mt : Int64) (ns : Nat) (nw : Nat) (na : Nat → Int32) (de : Nat → Int64) (sc : Nat → Int32) (wt : Nat → Int64) (w : Int32) (sz : Nat) (hnd : nd ≤ 8) (hdf : df ≤ 8) (hmt : wfw 1024 mt) (hns : ns ≤ 14) (hnw : nw ≤ 100) (hde : wfa 1024 de) (hwt : wfa 1024 wt) (hnt : l.stackTraces = false) : em_Met l y_RD_isInScope (wz y_RD_isInScope b_RD_isInScope 3 (some .boolean)) ({ frames := 0, cells := 0, slots := 0, locals := 0 }) (va_Pc [.ref (f 11), .int w] (tw_pre D (tys4 cI cL cZ cC) [((f 11), .inr (3, [.ref (f 1), .ref (f 4), .int at_, .ref (f 12), .int (nI nd), .ref (f 13), .int (nI df), .long mt, .ref (f 14), .int (nI ns), .ref (f 15), .int (nI nw)])), ((f 12), .inl (cI, 8, .inl na)), ((f 13), .inl (cL, 8, .inr (.inl de))), ((f 14), .inl (cI, 14, .inl sc)), ((f 15), .inl (cL, 100, .inr (.inl wt)))] sz)) D (tys4 cI cL cZ cC) (va_A [((f 11), .inr (3, [.ref (f 1), .ref (f 4), .int at_, .ref (f 12), .int (nI nd), .ref (f 13), .int (nI df), .long mt, .ref (f 14), .int (nI ns), .ref (f 15), .int (nI nw)])), ((f 12), .inl (cI, 8, .inl na)), ((f 13), .inl (cL, 8, .inr (.inl de))), ((f 14), .inl (cI, 14, .inl sc)), ((f 15), .inl (cL, 100, .inr (.inl wt)))] sz) (fun (_ : Unit) => [((f 11), .inr (3, [.ref (f 1), .ref (f 4), .int at_, .ref (f 12), .int (nI nd), .ref (f 13), .int (nI df), .long mt, .ref (f 14), .int (nI ns), .ref (f 15), .int (nI nw)])), ((f 12), .inl (cI, 8, .inl na)), ((f 13), .inl (cL, 8, .inr (.inl de))), ((f 14), .inl (cI, 14, .inl sc)), ((f 15), .inl (cL, 100, .inr (.inl wt)))]) (fun v (_ : Unit) => ∃ r : Int32, v = some (.int r) ∧ ((r = 0 ∨ r = 1))) (fun C (_ : Unit) => False) 0 0 := by
  refine em_Met.ofW (cc := b_RD_isInScope) (maxL := 3) (ret := (some .boolean)) (by decide) rfl ?_
  intro p e s m args below meth c s₁ B hml hv hno
  obtain ⟨rfl, ⟨hsz, hP, hK, hD0⟩, hE⟩ := hv
  have hx := B.exec
  have hb := B.bytes
  have hr := B.returns
  have hts := atoms_spec (ws := wz y_RD_isInScope b_RD_isInScope 3 (some .boolean)) B.pre
  have hG := wz_G hts
  have hown : s.vm.findClass rn_RD = some m.cls := findClass_of_methodNamed B.named
  have hlocks := B.notSynchronized
  subst hsz
  have hD := hD0.self (sz := s.heap.size)
  have hst := tw_st hP
  generalize hAe : va_A [((f 11), .inr (3, [.ref (f 1), .ref (f 4), .int at_, .ref (f 12), .int (nI nd), .ref (f 13), .int (nI df), .long mt, .ref (f 14), .int (nI ns), .ref (f 15), .int (nI nw)])), ((f 12), .inl (cI, 8, .inl na)), ((f 13), .inl (cL, 8, .inr (.inl de))), ((f 14), .inl (cI, 14, .inl sc)), ((f 15), .inl (cL, 100, .inr (.inl wt)))] s.heap.size = A at hD hst ⊢
  have hA : ∀ q : Nat, s.heap.size ≤ q → A q := fun q h => by rw [← hAe]; exact Or.inr h
  have hS : va_S A s.heap s.heap [] := va_S.rf
  have hl := lv_entry ([.ref (f 11), .int w]) (n := 3) (Nat.le_of_ble_eq_true rfl)
  rw [lg_entry_eq]
  generalize (lg_sl ([.ref (f 11), .int w]) ++ List.replicate (3 - (lg_sl ([.ref (f 11), .int w])).length) Slot.unset).toArray = ls at hl ⊢
  have hl : lv_has ls 3 [(0, .ref (f 11)), (1, .int w)] := hl
  have loop_2 : ∀ (k_1 : Nat) (i : Nat) (H : Heap) (locs : List Loc) (ls : Array Slot), 14 - i < k_1 → (i ≤ 14) → lv_has ls 3 [(0, .ref (f 11)), (1, .int w), (2, .int (nI i))] → va_P D classes [((f 11), .inr (3, [.ref (f 1), .ref (f 4), .int at_, .ref (f 12), .int (nI nd), .ref (f 13), .int (nI df), .long mt, .ref (f 14), .int (nI ns), .ref (f 15), .int (nI nw)])), ((f 12), .inl (cI, 8, .inl na)), ((f 13), .inl (cL, 8, .inr (.inl de))), ((f 14), .inl (cI, 14, .inl sc)), ((f 15), .inl (cL, 100, .inr (.inl wt)))] H → va_D A [((f 11), .inr (3, [.ref (f 1), .ref (f 4), .int at_, .ref (f 12), .int (nI nd), .ref (f 13), .int (nI df), .long mt, .ref (f 14), .int (nI ns), .ref (f 15), .int (nI nw)])), ((f 12), .inl (cI, 8, .inl na)), ((f 13), .inl (cL, 8, .inr (.inl de))), ((f 14), .inl (cI, 14, .inl sc)), ((f 15), .inl (cL, 100, .inr (.inl wt)))] → va_S A s.heap H locs → W p l e (headSpec (wz y_RD_isInScope b_RD_isInScope 3 (some .boolean)) ({ frames := 0, cells := 0, slots := 0, locals := 0 })).room s m ([.ref (f 11), .int w] : List Value).toArray below meth c H locs 0 0 (em_MQ below D (tys4 cI cL cZ cC) A (fun (_ : Unit) => [((f 11), .inr (3, [.ref (f 1), .ref (f 4), .int at_, .ref (f 12), .int (nI nd), .ref (f 13), .int (nI df), .long mt, .ref (f 14), .int (nI ns), .ref (f 15), .int (nI nw)])), ((f 12), .inl (cI, 8, .inl na)), ((f 13), .inl (cL, 8, .inr (.inl de))), ((f 14), .inl (cI, 14, .inl sc)), ((f 15), .inl (cL, 100, .inr (.inl wt)))]) (fun v (_ : Unit) => ∃ r : Int32, v = some (.int r) ∧ ((r = 0 ∨ r = 1))) (fun C (_ : Unit) => False) s 0 0) (F0 m 2 ls []) := by
    intro k_1
    induction k_1 with
    | zero => intro i H locs ls hm; exact absurd hm (Nat.not_lt_zero _)
    | succ k_1 ih_3 =>
      intro i H locs ls hm hi hl hP hD hS
      refine lv_iload_n hx hb d_RD_isInScope_2 rfl (lv_at hl 2 rfl) ?_
      refine lv_aload_n hx hb d_RD_isInScope_3 rfl (lv_at hl 0 rfl) ?_
      refine va_get (D := D) (ci := 3) (v := .int (nI ns)) (C := rn_RD) (T := fl_RD) (N := 12) hx hb hG in_RD hown hK hP 0 rfl rfl 9 (by decide) (hG _ k_204) (fun _ h9 => h9) rfl d_RD_isInScope_4 ?_
      refine lv_icmp_ge (tgt := 28) hx hb d_RD_isInScope_7 (by decide) (fun hb_4 => ?_) (fun hb_4 => ?_)
      · skip
        have hn_5 : ns ≤ i := (nI_leI (a := ns) (b := i) (by omega) (by omega)).mp hb_4
        refine lv_iconst (v := 0) hx hb d_RD_isInScope_28 (by decide) ?_
        exact em_zret hx hb hr hlocks rfl hP hD hK hS () [0, 1, 2, 3, 4] (by decide) rfl ⟨_, rfl, (Or.inl rfl)⟩ d_RD_isInScope_29
      · skip
        have hn_6 : ¬ ns ≤ i := fun h => hb_4 ((nI_leI (a := ns) (b := i) (by omega) (by omega)).mpr h)
        refine lv_aload_n hx hb d_RD_isInScope_10 rfl (lv_at hl 0 rfl) ?_
        refine va_get (D := D) (ci := 3) (v := .ref (f 14)) (C := rn_RD) (T := fl_RD) (N := 12) hx hb hG in_RD hown hK hP 0 rfl rfl 8 (by decide) (hG _ k_203) (fun _ h9 => h9) rfl d_RD_isInScope_11 ?_
        refine lv_iload_n hx hb d_RD_isInScope_14 rfl (lv_at hl 2 rfl) ?_
        refine va_iald hx hb hK hP 3 0 rfl rfl (vp_in_nI (n := i) (N := 14) (by omega) (by omega)) d_RD_isInScope_15 ?_
        refine lv_topi (fun v_7 ev_7 => ?_)
        refine lv_iload_n hx hb d_RD_isInScope_16 rfl (lv_at hl 1 rfl) ?_
        refine lv_icmp_ne (tgt := 22) hx hb d_RD_isInScope_17 (by decide) (fun hb_8 => ?_) (fun hb_8 => ?_)
        · skip
          refine lv_iinc (k := 2) (v := nI (i + 1)) (lv' := [(2, .int (nI (i + 1))), (0, .ref (f 11)), (1, .int w)]) hx hb d_RD_isInScope_22 hl rfl (lw_inc i 1) (Nat.le_of_ble_eq_true rfl) rfl (fun ls hl => ?_)
          refine lv_goto (tgt := 2) hx hb d_RD_isInScope_25 (by decide) ?_
          have hl := lv_sub (l' := [(0, .ref (f 11)), (1, .int w), (2, .int (nI (i + 1)))]) hl [1, 2, 0] rfl
          exact ih_3 (i + 1) _ _ _ (by omega) (by omega) hl hP hD hS
        · skip
          refine lv_iconst (v := 1) hx hb d_RD_isInScope_20 (by decide) ?_
          exact em_zret hx hb hr hlocks rfl hP hD hK hS () [0, 1, 2, 3, 4] (by decide) rfl ⟨_, rfl, (Or.inr rfl)⟩ d_RD_isInScope_21
  refine lv_iconst (v := 0) hx hb d_RD_isInScope_0 (by decide) ?_
  refine lv_istore_n (lv' := [(2, .int 0), (0, .ref (f 11)), (1, .int w)]) hx hb d_RD_isInScope_1 rfl hl (Nat.le_of_ble_eq_true rfl) rfl (fun ls hl => ?_)
  have hl := lv_sub (l' := [(0, .ref (f 11)), (1, .int w), (2, .int 0)]) hl [1, 2, 0] rfl
  exact loop_2 _ 0 _ _ _ (Nat.lt_succ_self _) (by omega) hl hP hD hS
set_option maxHeartbeats 8000000 in
set_option maxRecDepth 100000 in
theorem rd_isAnyWord (l : Launch) (D : va_G) (cI cL cZ cC : ClassId) (f : Nat → Nat) (w : Int32) (sz : Nat) (hnt : l.stackTraces = false) : em_Met l y_RD_isAnyWord (wz y_RD_isAnyWord b_RD_isAnyWord 1 (some .boolean)) ({ frames := 0, cells := 0, slots := 0, locals := 0 }) (va_Pc [.int w] (tw_pre D (tys4 cI cL cZ cC) [] sz)) D (tys4 cI cL cZ cC) (va_A [] sz) (fun (_ : Unit) => []) (fun v (_ : Unit) => ∃ r : Int32, v = some (.int r) ∧ ((r = 0 ∨ r = 1))) (fun C (_ : Unit) => False) 0 0 := by
  refine em_Met.ofW (cc := b_RD_isAnyWord) (maxL := 1) (ret := (some .boolean)) (by decide) rfl ?_
  intro p e s m args below meth c s₁ B hml hv hno
  obtain ⟨rfl, ⟨hsz, hP, hK, hD0⟩, hE⟩ := hv
  have hx := B.exec
  have hb := B.bytes
  have hr := B.returns
  have hts := atoms_spec (ws := wz y_RD_isAnyWord b_RD_isAnyWord 1 (some .boolean)) B.pre
  have hG := wz_G hts
  have hown : s.vm.findClass rn_RD = some m.cls := findClass_of_methodNamed B.named
  have hlocks := B.notSynchronized
  subst hsz
  have hD := hD0.self (sz := s.heap.size)
  have hst := tw_st hP
  generalize hAe : va_A [] s.heap.size = A at hD hst ⊢
  have hA : ∀ q : Nat, s.heap.size ≤ q → A q := fun q h => by rw [← hAe]; exact Or.inr h
  have hS : va_S A s.heap s.heap [] := va_S.rf
  have hl := lv_entry ([.int w]) (n := 1) (Nat.le_of_ble_eq_true rfl)
  rw [lg_entry_eq]
  generalize (lg_sl ([.int w]) ++ List.replicate (1 - (lg_sl ([.int w])).length) Slot.unset).toArray = ls at hl ⊢
  have hl : lv_has ls 1 [(0, .int w)] := hl
  refine lv_iload_n hx hb d_RD_isAnyWord_0 rfl (lv_at hl 0 rfl) ?_
  refine lv_sipush (v := 4262) hx hb d_RD_isAnyWord_1 (by decide) ?_
  refine lv_icmp_eq (tgt := 26) hx hb d_RD_isAnyWord_4 (by decide) (fun hb_1 => ?_) (fun hb_1 => ?_)
  · skip
    refine lv_iconst (v := 1) hx hb d_RD_isAnyWord_26 (by decide) ?_
    refine lv_goto (tgt := 31) hx hb d_RD_isAnyWord_27 (by decide) ?_
    exact em_zret hx hb hr hlocks rfl hP hD hK hS () [] (by decide) rfl ⟨_, rfl, (Or.inr rfl)⟩ d_RD_isAnyWord_31
  · skip
    refine lv_iload_n hx hb d_RD_isAnyWord_7 rfl (lv_at hl 0 rfl) ?_
    refine lv_sipush (v := 294) hx hb d_RD_isAnyWord_8 (by decide) ?_
    refine lv_icmp_eq (tgt := 26) hx hb d_RD_isAnyWord_11 (by decide) (fun hb_2 => ?_) (fun hb_2 => ?_)
    · skip
      refine lv_iconst (v := 1) hx hb d_RD_isAnyWord_26 (by decide) ?_
      refine lv_goto (tgt := 31) hx hb d_RD_isAnyWord_27 (by decide) ?_
      exact em_zret hx hb hr hlocks rfl hP hD hK hS () [] (by decide) rfl ⟨_, rfl, (Or.inr rfl)⟩ d_RD_isAnyWord_31
    · skip
      refine lv_iload_n hx hb d_RD_isAnyWord_14 rfl (lv_at hl 0 rfl) ?_
      refine lv_ldc (v := 663726) hx hb hown (hG _ k_717) d_RD_isAnyWord_15 ?_
      refine lv_icmp_eq (tgt := 26) hx hb d_RD_isAnyWord_17 (by decide) (fun hb_3 => ?_) (fun hb_3 => ?_)
      · skip
        refine lv_iconst (v := 1) hx hb d_RD_isAnyWord_26 (by decide) ?_
        refine lv_goto (tgt := 31) hx hb d_RD_isAnyWord_27 (by decide) ?_
        exact em_zret hx hb hr hlocks rfl hP hD hK hS () [] (by decide) rfl ⟨_, rfl, (Or.inr rfl)⟩ d_RD_isAnyWord_31
      · skip
        refine lv_iload_n hx hb d_RD_isAnyWord_20 rfl (lv_at hl 0 rfl) ?_
        refine lv_ldc (v := 176741) hx hb hown (hG _ k_723) d_RD_isAnyWord_21 ?_
        refine lv_icmp_ne (tgt := 30) hx hb d_RD_isAnyWord_23 (by decide) (fun hb_4 => ?_) (fun hb_4 => ?_)
        · skip
          refine lv_iconst (v := 0) hx hb d_RD_isAnyWord_30 (by decide) ?_
          exact em_zret hx hb hr hlocks rfl hP hD hK hS () [] (by decide) rfl ⟨_, rfl, (Or.inl rfl)⟩ d_RD_isAnyWord_31
        · skip
          refine lv_iconst (v := 1) hx hb d_RD_isAnyWord_26 (by decide) ?_
          refine lv_goto (tgt := 31) hx hb d_RD_isAnyWord_27 (by decide) ?_
          exact em_zret hx hb hr hlocks rfl hP hD hK hS () [] (by decide) rfl ⟨_, rfl, (Or.inr rfl)⟩ d_RD_isAnyWord_31
set_option maxHeartbeats 8000000 in
set_option maxRecDepth 100000 in
theorem rd_beginsAtom (l : Launch) (D : va_G) (cI cL cZ cC : ClassId) (f : Nat → Nat) (at_ : Int32) (nd : Nat) (df : Nat) (mt : Int64) (ns : Nat) (nw : Nat) (na : Nat → Int32) (de : Nat → Int64) (sc : Nat → Int32) (wt : Nat → Int64) (lz : Nat) (lk : Nat → Int32) (lv : Nat → Int32) (sz : Nat) (hnd : nd ≤ 8) (hdf : df ≤ 8) (hmt : wfw 1024 mt) (hns : ns ≤ 14) (hnw : nw ≤ 100) (hde : wfa 1024 de) (hwt : wfa 1024 wt) (hlz : lz ≤ 100) (hnt : l.stackTraces = false) : em_Met l y_RD_beginsAtom (wz y_RD_beginsAtom b_RD_beginsAtom 2 (some .boolean)) ({ frames := 1, cells := 0, slots := 0, locals := 21 }) (va_Pc [.ref (f 11)] (tw_pre D (tys4 cI cL cZ cC) [((f 11), .inr (3, [.ref (f 1), .ref (f 4), .int at_, .ref (f 12), .int (nI nd), .ref (f 13), .int (nI df), .long mt, .ref (f 14), .int (nI ns), .ref (f 15), .int (nI nw)])), ((f 12), .inl (cI, 8, .inl na)), ((f 13), .inl (cL, 8, .inr (.inl de))), ((f 14), .inl (cI, 14, .inl sc)), ((f 15), .inl (cL, 100, .inr (.inl wt))), ((f 1), .inr (1, [.ref (f 2), .ref (f 3), .int (nI lz)])), ((f 2), .inl (cI, 100, .inl lk)), ((f 3), .inl (cI, 100, .inl lv))] sz)) D (tys4 cI cL cZ cC) (va_A [((f 11), .inr (3, [.ref (f 1), .ref (f 4), .int at_, .ref (f 12), .int (nI nd), .ref (f 13), .int (nI df), .long mt, .ref (f 14), .int (nI ns), .ref (f 15), .int (nI nw)])), ((f 12), .inl (cI, 8, .inl na)), ((f 13), .inl (cL, 8, .inr (.inl de))), ((f 14), .inl (cI, 14, .inl sc)), ((f 15), .inl (cL, 100, .inr (.inl wt))), ((f 1), .inr (1, [.ref (f 2), .ref (f 3), .int (nI lz)])), ((f 2), .inl (cI, 100, .inl lk)), ((f 3), .inl (cI, 100, .inl lv))] sz) (fun (_ : Unit) => [((f 11), .inr (3, [.ref (f 1), .ref (f 4), .int at_, .ref (f 12), .int (nI nd), .ref (f 13), .int (nI df), .long mt, .ref (f 14), .int (nI ns), .ref (f 15), .int (nI nw)])), ((f 12), .inl (cI, 8, .inl na)), ((f 13), .inl (cL, 8, .inr (.inl de))), ((f 14), .inl (cI, 14, .inl sc)), ((f 15), .inl (cL, 100, .inr (.inl wt))), ((f 1), .inr (1, [.ref (f 2), .ref (f 3), .int (nI lz)])), ((f 2), .inl (cI, 100, .inl lk)), ((f 3), .inl (cI, 100, .inl lv))]) (fun v (_ : Unit) => ∃ r : Int32, v = some (.int r) ∧ ((r = 0 ∨ r = 1))) (fun C (_ : Unit) => False) 0 0 := by
  refine em_Met.ofW (cc := b_RD_beginsAtom) (maxL := 2) (ret := (some .boolean)) (by decide) rfl ?_
  intro p e s m args below meth c s₁ B hml hv hno
  obtain ⟨rfl, ⟨hsz, hP, hK, hD0⟩, hE⟩ := hv
  have hx := B.exec
  have hb := B.bytes
  have hr := B.returns
  have hts := atoms_spec (ws := wz y_RD_beginsAtom b_RD_beginsAtom 2 (some .boolean)) B.pre
  have hG := wz_G hts
  have hown : s.vm.findClass rn_RD = some m.cls := findClass_of_methodNamed B.named
  have hlocks := B.notSynchronized
  subst hsz
  have hD := hD0.self (sz := s.heap.size)
  have hst := tw_st hP
  generalize hAe : va_A [((f 11), .inr (3, [.ref (f 1), .ref (f 4), .int at_, .ref (f 12), .int (nI nd), .ref (f 13), .int (nI df), .long mt, .ref (f 14), .int (nI ns), .ref (f 15), .int (nI nw)])), ((f 12), .inl (cI, 8, .inl na)), ((f 13), .inl (cL, 8, .inr (.inl de))), ((f 14), .inl (cI, 14, .inl sc)), ((f 15), .inl (cL, 100, .inr (.inl wt))), ((f 1), .inr (1, [.ref (f 2), .ref (f 3), .int (nI lz)])), ((f 2), .inl (cI, 100, .inl lk)), ((f 3), .inl (cI, 100, .inl lv))] s.heap.size = A at hD hst ⊢
  have hA : ∀ q : Nat, s.heap.size ≤ q → A q := fun q h => by rw [← hAe]; exact Or.inr h
  have hS : va_S A s.heap s.heap [] := va_S.rf
  have hl := lv_entry ([.ref (f 11)]) (n := 2) (Nat.le_of_ble_eq_true rfl)
  rw [lg_entry_eq]
  generalize (lg_sl ([.ref (f 11)]) ++ List.replicate (2 - (lg_sl ([.ref (f 11)])).length) Slot.unset).toArray = ls at hl ⊢
  have hl : lv_has ls 2 [(0, .ref (f 11))] := hl
  refine lv_aload_n hx hb d_RD_beginsAtom_0 rfl (lv_at hl 0 rfl) ?_
  refine va_get (D := D) (ci := 3) (v := .ref (f 1)) (C := rn_RD) (T := fl_RD) (N := 12) hx hb hG in_RD hown hK hP 0 rfl rfl 0 (by decide) (hG _ k_195) (fun _ h9 => h9) rfl d_RD_beginsAtom_1 ?_
  refine lv_aload_n hx hb d_RD_beginsAtom_4 rfl (lv_at hl 0 rfl) ?_
  refine va_get (D := D) (ci := 3) (v := .int at_) (C := rn_RD) (T := fl_RD) (N := 12) hx hb hG in_RD hown hK hP 0 rfl rfl 2 (by decide) (hG _ k_197) (fun _ h9 => h9) rfl d_RD_beginsAtom_5 ?_
  refine W.callR (W.runV (As := [.int at_]) (rest := []) ⟨hx, hb, hml, hown, hG⟩ (lx_kind l D cI cL cZ cC f lz lk lv at_ (by omega)) (cwV 1 hG (gd_V k_668 k_669 k_670 k_108 k_671) rfl rfl rfl (by decide +kernel) ⟨Nat.le_of_ble_eq_true rfl, Nat.le_of_ble_eq_true rfl⟩) (wq_V (q0 := 5) hP hK rfl rfl [5, 6, 7] rfl) rfl rfl hl.1 rfl (lv_room (Nat.le_of_ble_eq_true rfl)) d_RD_beginsAtom_8 ⟨Nat.le_of_ble_eq_true rfl, Nat.le_of_ble_eq_true rfl⟩) ?_
  refine W.eq (g2 := F0 m 11 ls [.int (lxa lk lz at_)]) rfl ?_
  refine lv_istore_n (lv' := [(1, .int (lxa lk lz at_)), (0, .ref (f 11))]) hx hb d_RD_beginsAtom_11 rfl hl (Nat.le_of_ble_eq_true rfl) rfl (fun ls hl => ?_)
  refine lv_iload_n hx hb d_RD_beginsAtom_12 rfl (lv_at hl 0 rfl) ?_
  refine lv_iconst (v := 2) hx hb d_RD_beginsAtom_13 (by decide) ?_
  refine lv_icmp_eq (tgt := 51) hx hb d_RD_beginsAtom_14 (by decide) (fun hb_1 => ?_) (fun hb_1 => ?_)
  · skip
    refine lv_iconst (v := 1) hx hb d_RD_beginsAtom_51 (by decide) ?_
    refine lv_goto (tgt := 56) hx hb d_RD_beginsAtom_52 (by decide) ?_
    exact em_zret hx hb hr hlocks rfl hP hD hK hS () [0, 1, 2, 3, 4, 5, 6, 7] (by decide) rfl ⟨_, rfl, (Or.inr rfl)⟩ d_RD_beginsAtom_56
  · skip
    refine lv_iload_n hx hb d_RD_beginsAtom_17 rfl (lv_at hl 0 rfl) ?_
    refine lv_bipush (v := 40) hx hb d_RD_beginsAtom_18 (by decide) ?_
    refine lv_icmp_eq (tgt := 51) hx hb d_RD_beginsAtom_20 (by decide) (fun hb_2 => ?_) (fun hb_2 => ?_)
    · skip
      refine lv_iconst (v := 1) hx hb d_RD_beginsAtom_51 (by decide) ?_
      refine lv_goto (tgt := 56) hx hb d_RD_beginsAtom_52 (by decide) ?_
      exact em_zret hx hb hr hlocks rfl hP hD hK hS () [0, 1, 2, 3, 4, 5, 6, 7] (by decide) rfl ⟨_, rfl, (Or.inr rfl)⟩ d_RD_beginsAtom_56
    · skip
      refine lv_iload_n hx hb d_RD_beginsAtom_23 rfl (lv_at hl 0 rfl) ?_
      refine lv_bipush (v := 91) hx hb d_RD_beginsAtom_24 (by decide) ?_
      refine lv_icmp_eq (tgt := 51) hx hb d_RD_beginsAtom_26 (by decide) (fun hb_3 => ?_) (fun hb_3 => ?_)
      · skip
        refine lv_iconst (v := 1) hx hb d_RD_beginsAtom_51 (by decide) ?_
        refine lv_goto (tgt := 56) hx hb d_RD_beginsAtom_52 (by decide) ?_
        exact em_zret hx hb hr hlocks rfl hP hD hK hS () [0, 1, 2, 3, 4, 5, 6, 7] (by decide) rfl ⟨_, rfl, (Or.inr rfl)⟩ d_RD_beginsAtom_56
      · skip
        refine lv_iload_n hx hb d_RD_beginsAtom_29 rfl (lv_at hl 0 rfl) ?_
        refine lv_iconst (v := 1) hx hb d_RD_beginsAtom_30 (by decide) ?_
        refine lv_icmp_ne (tgt := 55) hx hb d_RD_beginsAtom_31 (by decide) (fun hb_4 => ?_) (fun hb_4 => ?_)
        · skip
          refine lv_iconst (v := 0) hx hb d_RD_beginsAtom_55 (by decide) ?_
          exact em_zret hx hb hr hlocks rfl hP hD hK hS () [0, 1, 2, 3, 4, 5, 6, 7] (by decide) rfl ⟨_, rfl, (Or.inl rfl)⟩ d_RD_beginsAtom_56
        · skip
          refine lv_aload_n hx hb d_RD_beginsAtom_34 rfl (lv_at hl 1 rfl) ?_
          refine va_get (D := D) (ci := 3) (v := .ref (f 1)) (C := rn_RD) (T := fl_RD) (N := 12) hx hb hG in_RD hown hK hP 0 rfl rfl 0 (by decide) (hG _ k_195) (fun _ h9 => h9) rfl d_RD_beginsAtom_35 ?_
          refine lv_aload_n hx hb d_RD_beginsAtom_38 rfl (lv_at hl 1 rfl) ?_
          refine va_get (D := D) (ci := 3) (v := .int at_) (C := rn_RD) (T := fl_RD) (N := 12) hx hb hG in_RD hown hK hP 0 rfl rfl 2 (by decide) (hG _ k_197) (fun _ h9 => h9) rfl d_RD_beginsAtom_39 ?_
          refine W.callR (W.runV (As := [.int at_]) (rest := []) ⟨hx, hb, hml, hown, hG⟩ (lx_value l D cI cL cZ cC f lz lk lv at_ (by omega)) (cwV 1 hG (gd_V k_672 k_673 k_674 k_108 k_675) rfl rfl rfl (by decide +kernel) ⟨Nat.le_of_ble_eq_true rfl, Nat.le_of_ble_eq_true rfl⟩) (wq_V (q0 := 5) hP hK rfl rfl [5, 6, 7] rfl) rfl rfl hl.1 rfl (lv_room (Nat.le_of_ble_eq_true rfl)) d_RD_beginsAtom_42 ⟨Nat.le_of_ble_eq_true rfl, Nat.le_of_ble_eq_true rfl⟩) ?_
          refine W.eq (g2 := F0 m 45 ls [.int (lxa lv lz at_)]) rfl ?_
          refine em_call (wr := [((f 11), .inr (3, [.ref (f 1), .ref (f 4), .int at_, .ref (f 12), .int (nI nd), .ref (f 13), .int (nI df), .long mt, .ref (f 14), .int (nI ns), .ref (f 15), .int (nI nw)])), ((f 12), .inl (cI, 8, .inl na)), ((f 13), .inl (cL, 8, .inr (.inl de))), ((f 14), .inl (cI, 14, .inl sc)), ((f 15), .inl (cL, 100, .inr (.inl wt))), ((f 1), .inr (1, [.ref (f 2), .ref (f 3), .int (nI lz)])), ((f 2), .inl (cI, 100, .inl lk)), ((f 3), .inl (cI, 100, .inl lv))]) (em_runS (As := [.int (lxa lv lz at_)]) (rest := []) ⟨hx, hb, hml, hown, hG⟩ (rd_isAnyWord l D cI cL cZ cC f (lxa lv lz at_) _  hnt) (cwS 1 hG (gd_S k_830 k_831 k_110 k_832) rfl rfl rfl (by decide +kernel) ⟨Nat.le_of_ble_eq_true rfl, Nat.le_of_ble_eq_true rfl⟩) (tw_S hP hD hK hE hst hS [] rfl (by decide)) rfl rfl hl.1 rfl (lv_room (Nat.le_of_ble_eq_true rfl)) d_RD_beginsAtom_45 ⟨Nat.le_of_ble_eq_true rfl, Nat.le_of_ble_eq_true rfl⟩) hP hD hS hA [] [0, 1, 2, 3, 4, 5, 6, 7] rfl rfl (by decide) (by decide) (fun v u H locs hok hP hD hS => ?_) (fun x C u H locs hbad hxx hP hD hS => ?_)
          · skip
            obtain ⟨r_5, rfl, hp_6⟩ := hok
            have hres_7 : (r_5 = 0 ∨ r_5 = 1) := hp_6
            have hP : va_P D classes [((f 11), .inr (3, [.ref (f 1), .ref (f 4), .int at_, .ref (f 12), .int (nI nd), .ref (f 13), .int (nI df), .long mt, .ref (f 14), .int (nI ns), .ref (f 15), .int (nI nw)])), ((f 12), .inl (cI, 8, .inl na)), ((f 13), .inl (cL, 8, .inr (.inl de))), ((f 14), .inl (cI, 14, .inl sc)), ((f 15), .inl (cL, 100, .inr (.inl wt))), ((f 1), .inr (1, [.ref (f 2), .ref (f 3), .int (nI lz)])), ((f 2), .inl (cI, 100, .inl lk)), ((f 3), .inl (cI, 100, .inl lv))] H := hP
            have hD : va_D A [((f 11), .inr (3, [.ref (f 1), .ref (f 4), .int at_, .ref (f 12), .int (nI nd), .ref (f 13), .int (nI df), .long mt, .ref (f 14), .int (nI ns), .ref (f 15), .int (nI nw)])), ((f 12), .inl (cI, 8, .inl na)), ((f 13), .inl (cL, 8, .inr (.inl de))), ((f 14), .inl (cI, 14, .inl sc)), ((f 15), .inl (cL, 100, .inr (.inl wt))), ((f 1), .inr (1, [.ref (f 2), .ref (f 3), .int (nI lz)])), ((f 2), .inl (cI, 100, .inl lk)), ((f 3), .inl (cI, 100, .inl lv))] := hD
            rcases hres_7 with rfl | rfl
            · skip
              refine W.eq (g2 := F0 m 48 ls [.int 0]) rfl ?_
              refine lv_if_ne (tgt := 55) hx hb d_RD_beginsAtom_48 (by decide) (fun hbr => absurd (by decide) hbr) (fun hbr => ?_)
              refine lv_iconst (v := 1) hx hb d_RD_beginsAtom_51 (by decide) ?_
              refine lv_goto (tgt := 56) hx hb d_RD_beginsAtom_52 (by decide) ?_
              exact em_zret hx hb hr hlocks rfl hP hD hK hS () [0, 1, 2, 3, 4, 5, 6, 7] (by decide) rfl ⟨_, rfl, (Or.inr rfl)⟩ d_RD_beginsAtom_56
            · skip
              refine W.eq (g2 := F0 m 48 ls [.int 1]) rfl ?_
              refine lv_if_ne (tgt := 55) hx hb d_RD_beginsAtom_48 (by decide) (fun hbr => ?_) (fun hbr => absurd hbr (by decide))
              refine lv_iconst (v := 0) hx hb d_RD_beginsAtom_55 (by decide) ?_
              exact em_zret hx hb hr hlocks rfl hP hD hK hS () [0, 1, 2, 3, 4, 5, 6, 7] (by decide) rfl ⟨_, rfl, (Or.inl rfl)⟩ d_RD_beginsAtom_56
          · skip
            exact hbad.elim
set_option maxHeartbeats 8000000 in
set_option maxRecDepth 100000 in
theorem rd_expect (l : Launch) (D : va_G) (cI cL cZ cC : ClassId) (f : Nat → Nat) (at_ : Int32) (nd : Nat) (df : Nat) (mt : Int64) (ns : Nat) (nw : Nat) (na : Nat → Int32) (de : Nat → Int64) (sc : Nat → Int32) (wt : Nat → Int64) (lz : Nat) (lk : Nat → Int32) (lv : Nat → Int32) (w : Int32) (sz : Nat) (hnd : nd ≤ 8) (hdf : df ≤ 8) (hmt : wfw 1024 mt) (hns : ns ≤ 14) (hnw : nw ≤ 100) (hde : wfa 1024 de) (hwt : wfa 1024 wt) (hlz : lz ≤ 100) (hnt : l.stackTraces = false) : em_Met l y_RD_expect (wz y_RD_expect b_RD_expect 2 none) ({ frames := 6, cells := 1, slots := 6, locals := 82 }) (va_Pc [.ref (f 11), .int w] (tw_pre D (tys4 cI cL cZ cC) [((f 11), .inr (3, [.ref (f 1), .ref (f 4), .int at_, .ref (f 12), .int (nI nd), .ref (f 13), .int (nI df), .long mt, .ref (f 14), .int (nI ns), .ref (f 15), .int (nI nw)])), ((f 12), .inl (cI, 8, .inl na)), ((f 13), .inl (cL, 8, .inr (.inl de))), ((f 14), .inl (cI, 14, .inl sc)), ((f 15), .inl (cL, 100, .inr (.inl wt))), ((f 1), .inr (1, [.ref (f 2), .ref (f 3), .int (nI lz)])), ((f 2), .inl (cI, 100, .inl lk)), ((f 3), .inl (cI, 100, .inl lv))] sz)) D (tys4 cI cL cZ cC) (va_A [((f 11), .inr (3, [.ref (f 1), .ref (f 4), .int at_, .ref (f 12), .int (nI nd), .ref (f 13), .int (nI df), .long mt, .ref (f 14), .int (nI ns), .ref (f 15), .int (nI nw)])), ((f 12), .inl (cI, 8, .inl na)), ((f 13), .inl (cL, 8, .inr (.inl de))), ((f 14), .inl (cI, 14, .inl sc)), ((f 15), .inl (cL, 100, .inr (.inl wt))), ((f 1), .inr (1, [.ref (f 2), .ref (f 3), .int (nI lz)])), ((f 2), .inl (cI, 100, .inl lk)), ((f 3), .inl (cI, 100, .inl lv))] sz) (fun (u : Int32 × Nat × Nat × Int64 × Nat × Nat × (Nat → Int32) × (Nat → Int64) × (Nat → Int32) × (Nat → Int64)) => [((f 11), .inr (3, [.ref (f 1), .ref (f 4), .int u.1, .ref (f 12), .int (nI u.2.1), .ref (f 13), .int (nI u.2.2.1), .long u.2.2.2.1, .ref (f 14), .int (nI u.2.2.2.2.1), .ref (f 15), .int (nI u.2.2.2.2.2.1)])), ((f 12), .inl (cI, 8, .inl u.2.2.2.2.2.2.1)), ((f 13), .inl (cL, 8, .inr (.inl u.2.2.2.2.2.2.2.1))), ((f 14), .inl (cI, 14, .inl u.2.2.2.2.2.2.2.2.1)), ((f 15), .inl (cL, 100, .inr (.inl u.2.2.2.2.2.2.2.2.2))), ((f 1), .inr (1, [.ref (f 2), .ref (f 3), .int (nI lz)])), ((f 2), .inl (cI, 100, .inl lk)), ((f 3), .inl (cI, 100, .inl lv))]) (fun v (u : Int32 × Nat × Nat × Int64 × Nat × Nat × (Nat → Int32) × (Nat → Int64) × (Nat → Int32) × (Nat → Int64)) => v = none ∧ (u.2.1 ≤ 8 ∧ u.2.2.1 ≤ 8 ∧ wfw 1024 u.2.2.2.1 ∧ u.2.2.2.2.1 ≤ 14 ∧ u.2.2.2.2.2.1 ≤ 100 ∧ wfa 1024 u.2.2.2.2.2.2.2.1 ∧ wfa 1024 u.2.2.2.2.2.2.2.2.2 ∧ u.2.1 = nd ∧ u.2.2.1 = df ∧ u.2.2.2.2.1 = ns ∧ u.2.2.2.2.2.1 = nw)) (fun C (u : Int32 × Nat × Nat × Int64 × Nat × Nat × (Nat → Int32) × (Nat → Int64) × (Nat → Int32) × (Nat → Int64)) => (C = "java/lang/IllegalArgumentException" ∨ C = "java/lang/IllegalStateException") ∧ u.2.1 ≤ 8 ∧ u.2.2.1 ≤ 8 ∧ wfw 1024 u.2.2.2.1 ∧ u.2.2.2.2.1 ≤ 14 ∧ u.2.2.2.2.2.1 ≤ 100 ∧ wfa 1024 u.2.2.2.2.2.2.2.1 ∧ wfa 1024 u.2.2.2.2.2.2.2.2.2) 1 6 := by
  refine em_Met.ofW (cc := b_RD_expect) (maxL := 2) (ret := none) (by decide) rfl ?_
  intro p e s m args below meth c s₁ B hml hv hno
  obtain ⟨rfl, ⟨hsz, hP, hK, hD0⟩, hE⟩ := hv
  have hx := B.exec
  have hb := B.bytes
  have hr := B.returns
  have hts := atoms_spec (ws := wz y_RD_expect b_RD_expect 2 none) B.pre
  have hG := wz_G hts
  have hown : s.vm.findClass rn_RD = some m.cls := findClass_of_methodNamed B.named
  have hlocks := B.notSynchronized
  subst hsz
  have hD := hD0.self (sz := s.heap.size)
  have hst := tw_st hP
  generalize hAe : va_A [((f 11), .inr (3, [.ref (f 1), .ref (f 4), .int at_, .ref (f 12), .int (nI nd), .ref (f 13), .int (nI df), .long mt, .ref (f 14), .int (nI ns), .ref (f 15), .int (nI nw)])), ((f 12), .inl (cI, 8, .inl na)), ((f 13), .inl (cL, 8, .inr (.inl de))), ((f 14), .inl (cI, 14, .inl sc)), ((f 15), .inl (cL, 100, .inr (.inl wt))), ((f 1), .inr (1, [.ref (f 2), .ref (f 3), .int (nI lz)])), ((f 2), .inl (cI, 100, .inl lk)), ((f 3), .inl (cI, 100, .inl lv))] s.heap.size = A at hD hst ⊢
  have hA : ∀ q : Nat, s.heap.size ≤ q → A q := fun q h => by rw [← hAe]; exact Or.inr h
  have hS : va_S A s.heap s.heap [] := va_S.rf
  have hl := lv_entry ([.ref (f 11), .int w]) (n := 2) (Nat.le_of_ble_eq_true rfl)
  rw [lg_entry_eq]
  generalize (lg_sl ([.ref (f 11), .int w]) ++ List.replicate (2 - (lg_sl ([.ref (f 11), .int w])).length) Slot.unset).toArray = ls at hl ⊢
  have hl : lv_has ls 2 [(0, .ref (f 11)), (1, .int w)] := hl
  refine lv_aload_n hx hb d_RD_expect_0 rfl (lv_at hl 0 rfl) ?_
  refine va_get (D := D) (ci := 3) (v := .ref (f 1)) (C := rn_RD) (T := fl_RD) (N := 12) hx hb hG in_RD hown hK hP 0 rfl rfl 0 (by decide) (hG _ k_195) (fun _ h9 => h9) rfl d_RD_expect_1 ?_
  refine lv_aload_n hx hb d_RD_expect_4 rfl (lv_at hl 0 rfl) ?_
  refine va_get (D := D) (ci := 3) (v := .int at_) (C := rn_RD) (T := fl_RD) (N := 12) hx hb hG in_RD hown hK hP 0 rfl rfl 2 (by decide) (hG _ k_197) (fun _ h9 => h9) rfl d_RD_expect_5 ?_
  refine W.callR (W.runV (As := [.int at_]) (rest := []) ⟨hx, hb, hml, hown, hG⟩ (lx_kind l D cI cL cZ cC f lz lk lv at_ (by omega)) (cwV 1 hG (gd_V k_668 k_669 k_670 k_108 k_671) rfl rfl rfl (by decide +kernel) ⟨Nat.le_of_ble_eq_true rfl, Nat.le_of_ble_eq_true rfl⟩) (wq_V (q0 := 5) hP hK rfl rfl [5, 6, 7] rfl) rfl rfl hl.1 rfl (lv_room (Nat.le_of_ble_eq_true rfl)) d_RD_expect_8 ⟨Nat.le_of_ble_eq_true rfl, Nat.le_of_ble_eq_true rfl⟩) ?_
  refine W.eq (g2 := F0 m 11 ls [.int (lxa lk lz at_)]) rfl ?_
  refine lv_iload_n hx hb d_RD_expect_11 rfl (lv_at hl 1 rfl) ?_
  refine lv_icmp_eq (tgt := 25) hx hb d_RD_expect_12 (by decide) (fun hb_1 => ?_) (fun hb_1 => ?_)
  · skip
    refine lv_aload_n hx hb d_RD_expect_25 rfl (lv_at hl 0 rfl) ?_
    refine lv_dup hx hb d_RD_expect_26 rfl ?_
    refine va_get (D := D) (ci := 3) (v := .int at_) (C := rn_RD) (T := fl_RD) (N := 12) hx hb hG in_RD hown hK hP 0 rfl rfl 2 (by decide) (hG _ k_197) (fun _ h9 => h9) rfl d_RD_expect_27 ?_
    refine lv_iconst (v := 1) hx hb d_RD_expect_30 (by decide) ?_
    refine lv_iadd hx hb d_RD_expect_31 ?_
    refine va_put (D := D) (ci := 3) (v := .int (at_ + 1)) (ty := .int) (C := rn_RD) (T := fl_RD) (N := 12) hx hb hG in_RD tt_RD tk_RD nn_RD hown hK hP hD hS 0 rfl rfl 2 (by decide) (hG _ k_197) (fun _ h9 => h9) rfl (by decide +kernel) rfl rfl (Nat.le_of_ble_eq_true rfl) d_RD_expect_32 (fun H locs hP hD hS => ?_)
    have hP : va_P D classes [((f 11), .inr (3, [.ref (f 1), .ref (f 4), .int (at_ + 1), .ref (f 12), .int (nI nd), .ref (f 13), .int (nI df), .long mt, .ref (f 14), .int (nI ns), .ref (f 15), .int (nI nw)])), ((f 12), .inl (cI, 8, .inl na)), ((f 13), .inl (cL, 8, .inr (.inl de))), ((f 14), .inl (cI, 14, .inl sc)), ((f 15), .inl (cL, 100, .inr (.inl wt))), ((f 1), .inr (1, [.ref (f 2), .ref (f 3), .int (nI lz)])), ((f 2), .inl (cI, 100, .inl lk)), ((f 3), .inl (cI, 100, .inl lv))] H := hP
    have hD : va_D A [((f 11), .inr (3, [.ref (f 1), .ref (f 4), .int (at_ + 1), .ref (f 12), .int (nI nd), .ref (f 13), .int (nI df), .long mt, .ref (f 14), .int (nI ns), .ref (f 15), .int (nI nw)])), ((f 12), .inl (cI, 8, .inl na)), ((f 13), .inl (cL, 8, .inr (.inl de))), ((f 14), .inl (cI, 14, .inl sc)), ((f 15), .inl (cL, 100, .inr (.inl wt))), ((f 1), .inr (1, [.ref (f 2), .ref (f 3), .int (nI lz)])), ((f 2), .inl (cI, 100, .inl lk)), ((f 3), .inl (cI, 100, .inl lv))] := hD
    exact em_vret hx hb hr hlocks hP hD hK hS (at_ + 1, nd, df, mt, ns, nw, na, de, sc, wt) [0, 1, 2, 3, 4, 5, 6, 7] (by decide) rfl ⟨rfl, ⟨(show nd ≤ 8 by omega), (show df ≤ 8 by omega), hmt, (show ns ≤ 14 by omega), (show nw ≤ 100 by omega), hde, hwt, (show nd = nd by first | rfl | omega | (subst_vars; rfl)), (show df = df by first | rfl | omega | (subst_vars; rfl)), (show ns = ns by first | rfl | omega | (subst_vars; rfl)), (show nw = nw by first | rfl | omega | (subst_vars; rfl))⟩⟩ d_RD_expect_35
  · skip
    obtain ⟨qs, hz⟩ := hE.1 (rn_RD, 184, "another lexeme is due") (by decide)
    exact em_throw (names := xnames) hx hb hml hl.1 hnt hlocks hown (by decide +kernel) (by decide +kernel) (tw_at_RD_IAE hG hE) (hG _ k_693) (hG _ k_120) hz hno hP hD hK hS hA hst (at_, nd, df, mt, ns, nw, na, de, sc, wt) [0, 1, 2, 3, 4, 5, 6, 7] (by decide) rfl ⟨(Or.inl rfl), (show nd ≤ 8 by omega), (show df ≤ 8 by omega), hmt, (show ns ≤ 14 by omega), (show nw ≤ 100 by omega), hde, hwt⟩ (Nat.le_of_ble_eq_true rfl) (Nat.le_of_ble_eq_true rfl) (Nat.le_of_ble_eq_true rfl) (Nat.le_of_ble_eq_true rfl) d_RD_expect_15 d_RD_expect_18 d_RD_expect_19 d_RD_expect_21 d_RD_expect_24
set_option maxHeartbeats 8000000 in
set_option maxRecDepth 100000 in
theorem rd_expectWord (l : Launch) (D : va_G) (cI cL cZ cC : ClassId) (f : Nat → Nat) (at_ : Int32) (nd : Nat) (df : Nat) (mt : Int64) (ns : Nat) (nw : Nat) (na : Nat → Int32) (de : Nat → Int64) (sc : Nat → Int32) (wt : Nat → Int64) (lz : Nat) (lk : Nat → Int32) (lv : Nat → Int32) (w : Int32) (sz : Nat) (hnd : nd ≤ 8) (hdf : df ≤ 8) (hmt : wfw 1024 mt) (hns : ns ≤ 14) (hnw : nw ≤ 100) (hde : wfa 1024 de) (hwt : wfa 1024 wt) (hlz : lz ≤ 100) (hnt : l.stackTraces = false) : em_Met l y_RD_expectWord (wz y_RD_expectWord b_RD_expectWord 2 none) ({ frames := 6, cells := 1, slots := 6, locals := 82 }) (va_Pc [.ref (f 11), .int w] (tw_pre D (tys4 cI cL cZ cC) [((f 11), .inr (3, [.ref (f 1), .ref (f 4), .int at_, .ref (f 12), .int (nI nd), .ref (f 13), .int (nI df), .long mt, .ref (f 14), .int (nI ns), .ref (f 15), .int (nI nw)])), ((f 12), .inl (cI, 8, .inl na)), ((f 13), .inl (cL, 8, .inr (.inl de))), ((f 14), .inl (cI, 14, .inl sc)), ((f 15), .inl (cL, 100, .inr (.inl wt))), ((f 1), .inr (1, [.ref (f 2), .ref (f 3), .int (nI lz)])), ((f 2), .inl (cI, 100, .inl lk)), ((f 3), .inl (cI, 100, .inl lv))] sz)) D (tys4 cI cL cZ cC) (va_A [((f 11), .inr (3, [.ref (f 1), .ref (f 4), .int at_, .ref (f 12), .int (nI nd), .ref (f 13), .int (nI df), .long mt, .ref (f 14), .int (nI ns), .ref (f 15), .int (nI nw)])), ((f 12), .inl (cI, 8, .inl na)), ((f 13), .inl (cL, 8, .inr (.inl de))), ((f 14), .inl (cI, 14, .inl sc)), ((f 15), .inl (cL, 100, .inr (.inl wt))), ((f 1), .inr (1, [.ref (f 2), .ref (f 3), .int (nI lz)])), ((f 2), .inl (cI, 100, .inl lk)), ((f 3), .inl (cI, 100, .inl lv))] sz) (fun (u : Int32 × Nat × Nat × Int64 × Nat × Nat × (Nat → Int32) × (Nat → Int64) × (Nat → Int32) × (Nat → Int64)) => [((f 11), .inr (3, [.ref (f 1), .ref (f 4), .int u.1, .ref (f 12), .int (nI u.2.1), .ref (f 13), .int (nI u.2.2.1), .long u.2.2.2.1, .ref (f 14), .int (nI u.2.2.2.2.1), .ref (f 15), .int (nI u.2.2.2.2.2.1)])), ((f 12), .inl (cI, 8, .inl u.2.2.2.2.2.2.1)), ((f 13), .inl (cL, 8, .inr (.inl u.2.2.2.2.2.2.2.1))), ((f 14), .inl (cI, 14, .inl u.2.2.2.2.2.2.2.2.1)), ((f 15), .inl (cL, 100, .inr (.inl u.2.2.2.2.2.2.2.2.2))), ((f 1), .inr (1, [.ref (f 2), .ref (f 3), .int (nI lz)])), ((f 2), .inl (cI, 100, .inl lk)), ((f 3), .inl (cI, 100, .inl lv))]) (fun v (u : Int32 × Nat × Nat × Int64 × Nat × Nat × (Nat → Int32) × (Nat → Int64) × (Nat → Int32) × (Nat → Int64)) => v = none ∧ (u.2.1 ≤ 8 ∧ u.2.2.1 ≤ 8 ∧ wfw 1024 u.2.2.2.1 ∧ u.2.2.2.2.1 ≤ 14 ∧ u.2.2.2.2.2.1 ≤ 100 ∧ wfa 1024 u.2.2.2.2.2.2.2.1 ∧ wfa 1024 u.2.2.2.2.2.2.2.2.2 ∧ u.2.1 = nd ∧ u.2.2.1 = df ∧ u.2.2.2.2.1 = ns ∧ u.2.2.2.2.2.1 = nw)) (fun C (u : Int32 × Nat × Nat × Int64 × Nat × Nat × (Nat → Int32) × (Nat → Int64) × (Nat → Int32) × (Nat → Int64)) => (C = "java/lang/IllegalArgumentException" ∨ C = "java/lang/IllegalStateException") ∧ u.2.1 ≤ 8 ∧ u.2.2.1 ≤ 8 ∧ wfw 1024 u.2.2.2.1 ∧ u.2.2.2.2.1 ≤ 14 ∧ u.2.2.2.2.2.1 ≤ 100 ∧ wfa 1024 u.2.2.2.2.2.2.2.1 ∧ wfa 1024 u.2.2.2.2.2.2.2.2.2) 1 6 := by
  refine em_Met.ofW (cc := b_RD_expectWord) (maxL := 2) (ret := none) (by decide) rfl ?_
  intro p e s m args below meth c s₁ B hml hv hno
  obtain ⟨rfl, ⟨hsz, hP, hK, hD0⟩, hE⟩ := hv
  have hx := B.exec
  have hb := B.bytes
  have hr := B.returns
  have hts := atoms_spec (ws := wz y_RD_expectWord b_RD_expectWord 2 none) B.pre
  have hG := wz_G hts
  have hown : s.vm.findClass rn_RD = some m.cls := findClass_of_methodNamed B.named
  have hlocks := B.notSynchronized
  subst hsz
  have hD := hD0.self (sz := s.heap.size)
  have hst := tw_st hP
  generalize hAe : va_A [((f 11), .inr (3, [.ref (f 1), .ref (f 4), .int at_, .ref (f 12), .int (nI nd), .ref (f 13), .int (nI df), .long mt, .ref (f 14), .int (nI ns), .ref (f 15), .int (nI nw)])), ((f 12), .inl (cI, 8, .inl na)), ((f 13), .inl (cL, 8, .inr (.inl de))), ((f 14), .inl (cI, 14, .inl sc)), ((f 15), .inl (cL, 100, .inr (.inl wt))), ((f 1), .inr (1, [.ref (f 2), .ref (f 3), .int (nI lz)])), ((f 2), .inl (cI, 100, .inl lk)), ((f 3), .inl (cI, 100, .inl lv))] s.heap.size = A at hD hst ⊢
  have hA : ∀ q : Nat, s.heap.size ≤ q → A q := fun q h => by rw [← hAe]; exact Or.inr h
  have hS : va_S A s.heap s.heap [] := va_S.rf
  have hl := lv_entry ([.ref (f 11), .int w]) (n := 2) (Nat.le_of_ble_eq_true rfl)
  rw [lg_entry_eq]
  generalize (lg_sl ([.ref (f 11), .int w]) ++ List.replicate (2 - (lg_sl ([.ref (f 11), .int w])).length) Slot.unset).toArray = ls at hl ⊢
  have hl : lv_has ls 2 [(0, .ref (f 11)), (1, .int w)] := hl
  refine lv_aload_n hx hb d_RD_expectWord_0 rfl (lv_at hl 0 rfl) ?_
  refine lv_iload_n hx hb d_RD_expectWord_1 rfl (lv_at hl 1 rfl) ?_
  refine W.callR (W.runV (As := [.int w]) (rest := []) ⟨hx, hb, hml, hown, hG⟩ (rd_isWord l D cI cL cZ cC f at_ nd df mt ns nw na de sc wt lz lk lv w (by omega) (by omega) hmt (by omega) (by omega) hde hwt (by omega)) (cwV 1 hG (gd_V k_681 k_683 k_4 k_110 k_684) rfl rfl rfl (by decide +kernel) ⟨Nat.le_of_ble_eq_true rfl, Nat.le_of_ble_eq_true rfl⟩) (wq_V (q0 := 0) hP hK rfl rfl [0, 1, 2, 3, 4, 5, 6, 7] rfl) rfl rfl hl.1 rfl (lv_room (Nat.le_of_ble_eq_true rfl)) d_RD_expectWord_2 ⟨Nat.le_of_ble_eq_true rfl, Nat.le_of_ble_eq_true rfl⟩) ?_
  refine W.eq (g2 := F0 m 5 ls [.int (isw (lxa lk lz at_) (lxa lv lz at_) w)]) rfl ?_
  refine lv_if_ne (tgt := 18) hx hb d_RD_expectWord_5 (by decide) (fun hb_1 => ?_) (fun hb_1 => ?_)
  · skip
    refine lv_aload_n hx hb d_RD_expectWord_18 rfl (lv_at hl 0 rfl) ?_
    refine lv_dup hx hb d_RD_expectWord_19 rfl ?_
    refine va_get (D := D) (ci := 3) (v := .int at_) (C := rn_RD) (T := fl_RD) (N := 12) hx hb hG in_RD hown hK hP 0 rfl rfl 2 (by decide) (hG _ k_197) (fun _ h9 => h9) rfl d_RD_expectWord_20 ?_
    refine lv_iconst (v := 1) hx hb d_RD_expectWord_23 (by decide) ?_
    refine lv_iadd hx hb d_RD_expectWord_24 ?_
    refine va_put (D := D) (ci := 3) (v := .int (at_ + 1)) (ty := .int) (C := rn_RD) (T := fl_RD) (N := 12) hx hb hG in_RD tt_RD tk_RD nn_RD hown hK hP hD hS 0 rfl rfl 2 (by decide) (hG _ k_197) (fun _ h9 => h9) rfl (by decide +kernel) rfl rfl (Nat.le_of_ble_eq_true rfl) d_RD_expectWord_25 (fun H locs hP hD hS => ?_)
    have hP : va_P D classes [((f 11), .inr (3, [.ref (f 1), .ref (f 4), .int (at_ + 1), .ref (f 12), .int (nI nd), .ref (f 13), .int (nI df), .long mt, .ref (f 14), .int (nI ns), .ref (f 15), .int (nI nw)])), ((f 12), .inl (cI, 8, .inl na)), ((f 13), .inl (cL, 8, .inr (.inl de))), ((f 14), .inl (cI, 14, .inl sc)), ((f 15), .inl (cL, 100, .inr (.inl wt))), ((f 1), .inr (1, [.ref (f 2), .ref (f 3), .int (nI lz)])), ((f 2), .inl (cI, 100, .inl lk)), ((f 3), .inl (cI, 100, .inl lv))] H := hP
    have hD : va_D A [((f 11), .inr (3, [.ref (f 1), .ref (f 4), .int (at_ + 1), .ref (f 12), .int (nI nd), .ref (f 13), .int (nI df), .long mt, .ref (f 14), .int (nI ns), .ref (f 15), .int (nI nw)])), ((f 12), .inl (cI, 8, .inl na)), ((f 13), .inl (cL, 8, .inr (.inl de))), ((f 14), .inl (cI, 14, .inl sc)), ((f 15), .inl (cL, 100, .inr (.inl wt))), ((f 1), .inr (1, [.ref (f 2), .ref (f 3), .int (nI lz)])), ((f 2), .inl (cI, 100, .inl lk)), ((f 3), .inl (cI, 100, .inl lv))] := hD
    exact em_vret hx hb hr hlocks hP hD hK hS (at_ + 1, nd, df, mt, ns, nw, na, de, sc, wt) [0, 1, 2, 3, 4, 5, 6, 7] (by decide) rfl ⟨rfl, ⟨(show nd ≤ 8 by omega), (show df ≤ 8 by omega), hmt, (show ns ≤ 14 by omega), (show nw ≤ 100 by omega), hde, hwt, (show nd = nd by first | rfl | omega | (subst_vars; rfl)), (show df = df by first | rfl | omega | (subst_vars; rfl)), (show ns = ns by first | rfl | omega | (subst_vars; rfl)), (show nw = nw by first | rfl | omega | (subst_vars; rfl))⟩⟩ d_RD_expectWord_28
  · skip
    obtain ⟨qs, hz⟩ := hE.1 (rn_RD, 182, "another word is due") (by decide)
    exact em_throw (names := xnames) hx hb hml hl.1 hnt hlocks hown (by decide +kernel) (by decide +kernel) (tw_at_RD_IAE hG hE) (hG _ k_693) (hG _ k_120) hz hno hP hD hK hS hA hst (at_, nd, df, mt, ns, nw, na, de, sc, wt) [0, 1, 2, 3, 4, 5, 6, 7] (by decide) rfl ⟨(Or.inl rfl), (show nd ≤ 8 by omega), (show df ≤ 8 by omega), hmt, (show ns ≤ 14 by omega), (show nw ≤ 100 by omega), hde, hwt⟩ (Nat.le_of_ble_eq_true rfl) (Nat.le_of_ble_eq_true rfl) (Nat.le_of_ble_eq_true rfl) (Nat.le_of_ble_eq_true rfl) d_RD_expectWord_8 d_RD_expectWord_11 d_RD_expectWord_12 d_RD_expectWord_14 d_RD_expectWord_17
set_option maxHeartbeats 8000000 in
set_option maxRecDepth 100000 in
theorem rd_await (l : Launch) (D : va_G) (cI cL cZ cC : ClassId) (f : Nat → Nat) (at_ : Int32) (nd : Nat) (df : Nat) (mt : Int64) (ns : Nat) (nw : Nat) (na : Nat → Int32) (de : Nat → Int64) (sc : Nat → Int32) (wt : Nat → Int64) (a : Int64) (sz : Nat) (hnd : nd ≤ 8) (hdf : df ≤ 8) (hmt : wfw 1024 mt) (hns : ns ≤ 14) (hnw : nw ≤ 100) (hde : wfa 1024 de) (hwt : wfa 1024 wt) (hwa : wfw 1024 a) (hnt : l.stackTraces = false) : em_Met l y_RD_await (wz y_RD_await b_RD_await 3 none) ({ frames := 0, cells := 0, slots := 0, locals := 0 }) (va_Pc [.ref (f 11), .long a] (tw_pre D (tys4 cI cL cZ cC) [((f 11), .inr (3, [.ref (f 1), .ref (f 4), .int at_, .ref (f 12), .int (nI nd), .ref (f 13), .int (nI df), .long mt, .ref (f 14), .int (nI ns), .ref (f 15), .int (nI nw)])), ((f 12), .inl (cI, 8, .inl na)), ((f 13), .inl (cL, 8, .inr (.inl de))), ((f 14), .inl (cI, 14, .inl sc)), ((f 15), .inl (cL, 100, .inr (.inl wt)))] sz)) D (tys4 cI cL cZ cC) (va_A [((f 11), .inr (3, [.ref (f 1), .ref (f 4), .int at_, .ref (f 12), .int (nI nd), .ref (f 13), .int (nI df), .long mt, .ref (f 14), .int (nI ns), .ref (f 15), .int (nI nw)])), ((f 12), .inl (cI, 8, .inl na)), ((f 13), .inl (cL, 8, .inr (.inl de))), ((f 14), .inl (cI, 14, .inl sc)), ((f 15), .inl (cL, 100, .inr (.inl wt)))] sz) (fun (u : Int32 × Nat × Nat × Int64 × Nat × Nat × (Nat → Int32) × (Nat → Int64) × (Nat → Int32) × (Nat → Int64)) => [((f 11), .inr (3, [.ref (f 1), .ref (f 4), .int u.1, .ref (f 12), .int (nI u.2.1), .ref (f 13), .int (nI u.2.2.1), .long u.2.2.2.1, .ref (f 14), .int (nI u.2.2.2.2.1), .ref (f 15), .int (nI u.2.2.2.2.2.1)])), ((f 12), .inl (cI, 8, .inl u.2.2.2.2.2.2.1)), ((f 13), .inl (cL, 8, .inr (.inl u.2.2.2.2.2.2.2.1))), ((f 14), .inl (cI, 14, .inl u.2.2.2.2.2.2.2.2.1)), ((f 15), .inl (cL, 100, .inr (.inl u.2.2.2.2.2.2.2.2.2)))]) (fun v (u : Int32 × Nat × Nat × Int64 × Nat × Nat × (Nat → Int32) × (Nat → Int64) × (Nat → Int32) × (Nat → Int64)) => v = none ∧ (u.2.1 ≤ 8 ∧ u.2.2.1 ≤ 8 ∧ wfw 1024 u.2.2.2.1 ∧ u.2.2.2.2.1 ≤ 14 ∧ u.2.2.2.2.2.1 ≤ 100 ∧ wfa 1024 u.2.2.2.2.2.2.2.1 ∧ wfa 1024 u.2.2.2.2.2.2.2.2.2 ∧ u.2.1 = nd ∧ u.2.2.1 = df ∧ u.2.2.2.2.1 = ns)) (fun C (u : Int32 × Nat × Nat × Int64 × Nat × Nat × (Nat → Int32) × (Nat → Int64) × (Nat → Int32) × (Nat → Int64)) => False) 0 0 := by
  refine em_Met.ofW (cc := b_RD_await) (maxL := 3) (ret := none) (by decide) rfl ?_
  intro p e s m args below meth c s₁ B hml hv hno
  obtain ⟨rfl, ⟨hsz, hP, hK, hD0⟩, hE⟩ := hv
  have hx := B.exec
  have hb := B.bytes
  have hr := B.returns
  have hts := atoms_spec (ws := wz y_RD_await b_RD_await 3 none) B.pre
  have hG := wz_G hts
  have hown : s.vm.findClass rn_RD = some m.cls := findClass_of_methodNamed B.named
  have hlocks := B.notSynchronized
  subst hsz
  have hD := hD0.self (sz := s.heap.size)
  have hst := tw_st hP
  generalize hAe : va_A [((f 11), .inr (3, [.ref (f 1), .ref (f 4), .int at_, .ref (f 12), .int (nI nd), .ref (f 13), .int (nI df), .long mt, .ref (f 14), .int (nI ns), .ref (f 15), .int (nI nw)])), ((f 12), .inl (cI, 8, .inl na)), ((f 13), .inl (cL, 8, .inr (.inl de))), ((f 14), .inl (cI, 14, .inl sc)), ((f 15), .inl (cL, 100, .inr (.inl wt)))] s.heap.size = A at hD hst ⊢
  have hA : ∀ q : Nat, s.heap.size ≤ q → A q := fun q h => by rw [← hAe]; exact Or.inr h
  have hS : va_S A s.heap s.heap [] := va_S.rf
  have hl := lv_entry ([.ref (f 11), .long a]) (n := 3) (Nat.le_of_ble_eq_true rfl)
  rw [lg_entry_eq]
  generalize (lg_sl ([.ref (f 11), .long a]) ++ List.replicate (3 - (lg_sl ([.ref (f 11), .long a])).length) Slot.unset).toArray = ls at hl ⊢
  have hl : lv_has ls 3 [(0, .ref (f 11)), (1, .long a)] := hl
  refine lv_aload_n hx hb d_RD_await_0 rfl (lv_at hl 0 rfl) ?_
  refine va_get (D := D) (ci := 3) (v := .int (nI nw)) (C := rn_RD) (T := fl_RD) (N := 12) hx hb hG in_RD hown hK hP 0 rfl rfl 11 (by decide) (hG _ k_206) (fun _ h9 => h9) rfl d_RD_await_1 ?_
  refine lv_bipush (v := 100) hx hb d_RD_await_4 (by decide) ?_
  refine lv_icmp_ge (tgt := 29) hx hb d_RD_await_6 (by decide) (fun hb_1 => ?_) (fun hb_1 => ?_)
  · skip
    have hn_2 : 100 ≤ nw := (nI_leI (a := 100) (b := nw) (by omega) (by omega)).mp hb_1
    exact em_vret hx hb hr hlocks hP hD hK hS (at_, nd, df, mt, ns, nw, na, de, sc, wt) [0, 1, 2, 3, 4] (by decide) rfl ⟨rfl, ⟨(show nd ≤ 8 by omega), (show df ≤ 8 by omega), hmt, (show ns ≤ 14 by omega), (show nw ≤ 100 by omega), hde, hwt, (show nd = nd by first | rfl | omega | (subst_vars; rfl)), (show df = df by first | rfl | omega | (subst_vars; rfl)), (show ns = ns by first | rfl | omega | (subst_vars; rfl))⟩⟩ d_RD_await_29
  · skip
    have hn_3 : ¬ 100 ≤ nw := fun h => hb_1 ((nI_leI (a := 100) (b := nw) (by omega) (by omega)).mpr h)
    refine lv_aload_n hx hb d_RD_await_9 rfl (lv_at hl 0 rfl) ?_
    refine va_get (D := D) (ci := 3) (v := .ref (f 15)) (C := rn_RD) (T := fl_RD) (N := 12) hx hb hG in_RD hown hK hP 0 rfl rfl 10 (by decide) (hG _ k_205) (fun _ h9 => h9) rfl d_RD_await_10 ?_
    refine lv_aload_n hx hb d_RD_await_13 rfl (lv_at hl 0 rfl) ?_
    refine va_get (D := D) (ci := 3) (v := .int (nI nw)) (C := rn_RD) (T := fl_RD) (N := 12) hx hb hG in_RD hown hK hP 0 rfl rfl 11 (by decide) (hG _ k_206) (fun _ h9 => h9) rfl d_RD_await_14 ?_
    refine lv_lload_n hx hb d_RD_await_17 rfl (lv_at hl 1 rfl) ?_
    refine va_last hx hb hK hP hD hS 4 1 rfl rfl (vp_in_nI (n := nw) (N := 100) (by omega) (by omega)) d_RD_await_18 (fun H locs hP hD hS => ?_)
    have hP : va_P D classes [((f 11), .inr (3, [.ref (f 1), .ref (f 4), .int at_, .ref (f 12), .int (nI nd), .ref (f 13), .int (nI df), .long mt, .ref (f 14), .int (nI ns), .ref (f 15), .int (nI nw)])), ((f 12), .inl (cI, 8, .inl na)), ((f 13), .inl (cL, 8, .inr (.inl de))), ((f 14), .inl (cI, 14, .inl sc)), ((f 15), .inl (cL, 100, .inr (.inl (vp_updL wt (nI nw).toNatClampNeg a))))] H := hP
    have hD : va_D A [((f 11), .inr (3, [.ref (f 1), .ref (f 4), .int at_, .ref (f 12), .int (nI nd), .ref (f 13), .int (nI df), .long mt, .ref (f 14), .int (nI ns), .ref (f 15), .int (nI nw)])), ((f 12), .inl (cI, 8, .inl na)), ((f 13), .inl (cL, 8, .inr (.inl de))), ((f 14), .inl (cI, 14, .inl sc)), ((f 15), .inl (cL, 100, .inr (.inl (vp_updL wt (nI nw).toNatClampNeg a))))] := hD
    obtain ⟨g_4, eg_4⟩ : ∃ z, z = vp_updL wt (nI nw).toNatClampNeg a := ⟨_, rfl⟩
    rw [← eg_4] at hP hD
    have hg_4 : wfa 1024 g_4 := by rw [eg_4]; exact wfa_up hwt hwa
    refine lv_aload_n hx hb d_RD_await_19 rfl (lv_at hl 0 rfl) ?_
    refine lv_dup hx hb d_RD_await_20 rfl ?_
    refine va_get (D := D) (ci := 3) (v := .int (nI nw)) (C := rn_RD) (T := fl_RD) (N := 12) hx hb hG in_RD hown hK hP 0 rfl rfl 11 (by decide) (hG _ k_206) (fun _ h9 => h9) rfl d_RD_await_21 ?_
    refine lv_iconst (v := 1) hx hb d_RD_await_24 (by decide) ?_
    refine lw_iadd (a := nw) (b := 1) hx hb d_RD_await_25 ?_
    refine va_put (D := D) (ci := 3) (v := .int (nI (nw + 1))) (ty := .int) (C := rn_RD) (T := fl_RD) (N := 12) hx hb hG in_RD tt_RD tk_RD nn_RD hown hK hP hD hS 0 rfl rfl 11 (by decide) (hG _ k_206) (fun _ h9 => h9) rfl (by decide +kernel) rfl rfl (Nat.le_of_ble_eq_true rfl) d_RD_await_26 (fun H locs hP hD hS => ?_)
    have hP : va_P D classes [((f 11), .inr (3, [.ref (f 1), .ref (f 4), .int at_, .ref (f 12), .int (nI nd), .ref (f 13), .int (nI df), .long mt, .ref (f 14), .int (nI ns), .ref (f 15), .int (nI (nw + 1))])), ((f 12), .inl (cI, 8, .inl na)), ((f 13), .inl (cL, 8, .inr (.inl de))), ((f 14), .inl (cI, 14, .inl sc)), ((f 15), .inl (cL, 100, .inr (.inl g_4)))] H := hP
    have hD : va_D A [((f 11), .inr (3, [.ref (f 1), .ref (f 4), .int at_, .ref (f 12), .int (nI nd), .ref (f 13), .int (nI df), .long mt, .ref (f 14), .int (nI ns), .ref (f 15), .int (nI (nw + 1))])), ((f 12), .inl (cI, 8, .inl na)), ((f 13), .inl (cL, 8, .inr (.inl de))), ((f 14), .inl (cI, 14, .inl sc)), ((f 15), .inl (cL, 100, .inr (.inl g_4)))] := hD
    exact em_vret hx hb hr hlocks hP hD hK hS (at_, nd, df, mt, ns, nw + 1, na, de, sc, g_4) [0, 1, 2, 3, 4] (by decide) rfl ⟨rfl, ⟨(show nd ≤ 8 by omega), (show df ≤ 8 by omega), hmt, (show ns ≤ 14 by omega), (show (nw + 1) ≤ 100 by omega), hde, hg_4, (show nd = nd by first | rfl | omega | (subst_vars; rfl)), (show df = df by first | rfl | omega | (subst_vars; rfl)), (show ns = ns by first | rfl | omega | (subst_vars; rfl))⟩⟩ d_RD_await_29
set_option maxHeartbeats 8000000 in
set_option maxRecDepth 100000 in
theorem rd_readParameter (l : Launch) (D : va_G) (cI cL cZ cC : ClassId) (f : Nat → Nat) (at_ : Int32) (nd : Nat) (df : Nat) (mt : Int64) (ns : Nat) (nw : Nat) (na : Nat → Int32) (de : Nat → Int64) (sc : Nat → Int32) (wt : Nat → Int64) (lz : Nat) (lk : Nat → Int32) (lv : Nat → Int32) (sz : Nat) (hnd : nd ≤ 8) (hdf : df ≤ 8) (hmt : wfw 1024 mt) (hns : ns ≤ 14) (hnw : nw ≤ 100) (hde : wfa 1024 de) (hwt : wfa 1024 wt) (hlz : lz ≤ 100) (hnt : l.stackTraces = false) : em_Met l y_RD_readParameter (wz y_RD_readParameter b_RD_readParameter 2 none) ({ frames := 6, cells := 1, slots := 6, locals := 82 }) (va_Pc [.ref (f 11)] (tw_pre D (tys4 cI cL cZ cC) [((f 11), .inr (3, [.ref (f 1), .ref (f 4), .int at_, .ref (f 12), .int (nI nd), .ref (f 13), .int (nI df), .long mt, .ref (f 14), .int (nI ns), .ref (f 15), .int (nI nw)])), ((f 12), .inl (cI, 8, .inl na)), ((f 13), .inl (cL, 8, .inr (.inl de))), ((f 14), .inl (cI, 14, .inl sc)), ((f 15), .inl (cL, 100, .inr (.inl wt))), ((f 1), .inr (1, [.ref (f 2), .ref (f 3), .int (nI lz)])), ((f 2), .inl (cI, 100, .inl lk)), ((f 3), .inl (cI, 100, .inl lv))] sz)) D (tys4 cI cL cZ cC) (va_A [((f 11), .inr (3, [.ref (f 1), .ref (f 4), .int at_, .ref (f 12), .int (nI nd), .ref (f 13), .int (nI df), .long mt, .ref (f 14), .int (nI ns), .ref (f 15), .int (nI nw)])), ((f 12), .inl (cI, 8, .inl na)), ((f 13), .inl (cL, 8, .inr (.inl de))), ((f 14), .inl (cI, 14, .inl sc)), ((f 15), .inl (cL, 100, .inr (.inl wt))), ((f 1), .inr (1, [.ref (f 2), .ref (f 3), .int (nI lz)])), ((f 2), .inl (cI, 100, .inl lk)), ((f 3), .inl (cI, 100, .inl lv))] sz) (fun (u : Int32 × Nat × Nat × Int64 × Nat × Nat × (Nat → Int32) × (Nat → Int64) × (Nat → Int32) × (Nat → Int64)) => [((f 11), .inr (3, [.ref (f 1), .ref (f 4), .int u.1, .ref (f 12), .int (nI u.2.1), .ref (f 13), .int (nI u.2.2.1), .long u.2.2.2.1, .ref (f 14), .int (nI u.2.2.2.2.1), .ref (f 15), .int (nI u.2.2.2.2.2.1)])), ((f 12), .inl (cI, 8, .inl u.2.2.2.2.2.2.1)), ((f 13), .inl (cL, 8, .inr (.inl u.2.2.2.2.2.2.2.1))), ((f 14), .inl (cI, 14, .inl u.2.2.2.2.2.2.2.2.1)), ((f 15), .inl (cL, 100, .inr (.inl u.2.2.2.2.2.2.2.2.2))), ((f 1), .inr (1, [.ref (f 2), .ref (f 3), .int (nI lz)])), ((f 2), .inl (cI, 100, .inl lk)), ((f 3), .inl (cI, 100, .inl lv))]) (fun v (u : Int32 × Nat × Nat × Int64 × Nat × Nat × (Nat → Int32) × (Nat → Int64) × (Nat → Int32) × (Nat → Int64)) => v = none ∧ (u.2.1 ≤ 8 ∧ u.2.2.1 ≤ 8 ∧ wfw 1024 u.2.2.2.1 ∧ u.2.2.2.2.1 ≤ 14 ∧ u.2.2.2.2.2.1 ≤ 100 ∧ wfa 1024 u.2.2.2.2.2.2.2.1 ∧ wfa 1024 u.2.2.2.2.2.2.2.2.2 ∧ u.2.1 = nd ∧ u.2.2.1 = df ∧ u.2.2.2.2.2.1 = nw)) (fun C (u : Int32 × Nat × Nat × Int64 × Nat × Nat × (Nat → Int32) × (Nat → Int64) × (Nat → Int32) × (Nat → Int64)) => (C = "java/lang/IllegalArgumentException" ∨ C = "java/lang/IllegalStateException") ∧ u.2.1 ≤ 8 ∧ u.2.2.1 ≤ 8 ∧ wfw 1024 u.2.2.2.1 ∧ u.2.2.2.2.1 ≤ 14 ∧ u.2.2.2.2.2.1 ≤ 100 ∧ wfa 1024 u.2.2.2.2.2.2.2.1 ∧ wfa 1024 u.2.2.2.2.2.2.2.2.2) 1 6 := by
  refine em_Met.ofW (cc := b_RD_readParameter) (maxL := 2) (ret := none) (by decide) rfl ?_
  intro p e s m args below meth c s₁ B hml hv hno
  obtain ⟨rfl, ⟨hsz, hP, hK, hD0⟩, hE⟩ := hv
  have hx := B.exec
  have hb := B.bytes
  have hr := B.returns
  have hts := atoms_spec (ws := wz y_RD_readParameter b_RD_readParameter 2 none) B.pre
  have hG := wz_G hts
  have hown : s.vm.findClass rn_RD = some m.cls := findClass_of_methodNamed B.named
  have hlocks := B.notSynchronized
  subst hsz
  have hD := hD0.self (sz := s.heap.size)
  have hst := tw_st hP
  generalize hAe : va_A [((f 11), .inr (3, [.ref (f 1), .ref (f 4), .int at_, .ref (f 12), .int (nI nd), .ref (f 13), .int (nI df), .long mt, .ref (f 14), .int (nI ns), .ref (f 15), .int (nI nw)])), ((f 12), .inl (cI, 8, .inl na)), ((f 13), .inl (cL, 8, .inr (.inl de))), ((f 14), .inl (cI, 14, .inl sc)), ((f 15), .inl (cL, 100, .inr (.inl wt))), ((f 1), .inr (1, [.ref (f 2), .ref (f 3), .int (nI lz)])), ((f 2), .inl (cI, 100, .inl lk)), ((f 3), .inl (cI, 100, .inl lv))] s.heap.size = A at hD hst ⊢
  have hA : ∀ q : Nat, s.heap.size ≤ q → A q := fun q h => by rw [← hAe]; exact Or.inr h
  have hS : va_S A s.heap s.heap [] := va_S.rf
  have hl := lv_entry ([.ref (f 11)]) (n := 2) (Nat.le_of_ble_eq_true rfl)
  rw [lg_entry_eq]
  generalize (lg_sl ([.ref (f 11)]) ++ List.replicate (2 - (lg_sl ([.ref (f 11)])).length) Slot.unset).toArray = ls at hl ⊢
  have hl : lv_has ls 2 [(0, .ref (f 11))] := hl
  refine lv_aload_n hx hb d_RD_readParameter_0 rfl (lv_at hl 0 rfl) ?_
  refine va_get (D := D) (ci := 3) (v := .ref (f 1)) (C := rn_RD) (T := fl_RD) (N := 12) hx hb hG in_RD hown hK hP 0 rfl rfl 0 (by decide) (hG _ k_195) (fun _ h9 => h9) rfl d_RD_readParameter_1 ?_
  refine lv_aload_n hx hb d_RD_readParameter_4 rfl (lv_at hl 0 rfl) ?_
  refine va_get (D := D) (ci := 3) (v := .int at_) (C := rn_RD) (T := fl_RD) (N := 12) hx hb hG in_RD hown hK hP 0 rfl rfl 2 (by decide) (hG _ k_197) (fun _ h9 => h9) rfl d_RD_readParameter_5 ?_
  refine W.callR (W.runV (As := [.int at_]) (rest := []) ⟨hx, hb, hml, hown, hG⟩ (lx_value l D cI cL cZ cC f lz lk lv at_ (by omega)) (cwV 1 hG (gd_V k_672 k_673 k_674 k_108 k_675) rfl rfl rfl (by decide +kernel) ⟨Nat.le_of_ble_eq_true rfl, Nat.le_of_ble_eq_true rfl⟩) (wq_V (q0 := 5) hP hK rfl rfl [5, 6, 7] rfl) rfl rfl hl.1 rfl (lv_room (Nat.le_of_ble_eq_true rfl)) d_RD_readParameter_8 ⟨Nat.le_of_ble_eq_true rfl, Nat.le_of_ble_eq_true rfl⟩) ?_
  refine W.eq (g2 := F0 m 11 ls [.int (lxa lv lz at_)]) rfl ?_
  refine lv_istore_n (lv' := [(1, .int (lxa lv lz at_)), (0, .ref (f 11))]) hx hb d_RD_readParameter_11 rfl hl (Nat.le_of_ble_eq_true rfl) rfl (fun ls hl => ?_)
  refine lv_aload_n hx hb d_RD_readParameter_12 rfl (lv_at hl 1 rfl) ?_
  refine va_get (D := D) (ci := 3) (v := .int (nI ns)) (C := rn_RD) (T := fl_RD) (N := 12) hx hb hG in_RD hown hK hP 0 rfl rfl 9 (by decide) (hG _ k_204) (fun _ h9 => h9) rfl d_RD_readParameter_13 ?_
  refine lv_bipush (v := 6) hx hb d_RD_readParameter_16 (by decide) ?_
  refine lv_icmp_ge (tgt := 29) hx hb d_RD_readParameter_18 (by decide) (fun hb_1 => ?_) (fun hb_1 => ?_)
  · skip
    have hn_2 : 6 ≤ ns := (nI_leI (a := 6) (b := ns) (by omega) (by omega)).mp hb_1
    obtain ⟨qs, hz⟩ := hE.1 (rn_RD, 107, "too many parameters, or two alike") (by decide)
    exact em_throw (names := xnames) hx hb hml hl.1 hnt hlocks hown (by decide +kernel) (by decide +kernel) (tw_at_RD_IAE hG hE) (hG _ k_693) (hG _ k_120) hz hno hP hD hK hS hA hst (at_, nd, df, mt, ns, nw, na, de, sc, wt) [0, 1, 2, 3, 4, 5, 6, 7] (by decide) rfl ⟨(Or.inl rfl), (show nd ≤ 8 by omega), (show df ≤ 8 by omega), hmt, (show ns ≤ 14 by omega), (show nw ≤ 100 by omega), hde, hwt⟩ (Nat.le_of_ble_eq_true rfl) (Nat.le_of_ble_eq_true rfl) (Nat.le_of_ble_eq_true rfl) (Nat.le_of_ble_eq_true rfl) d_RD_readParameter_29 d_RD_readParameter_32 d_RD_readParameter_33 d_RD_readParameter_35 d_RD_readParameter_38
  · skip
    have hn_3 : ¬ 6 ≤ ns := fun h => hb_1 ((nI_leI (a := 6) (b := ns) (by omega) (by omega)).mpr h)
    refine lv_aload_n hx hb d_RD_readParameter_21 rfl (lv_at hl 1 rfl) ?_
    refine lv_iload_n hx hb d_RD_readParameter_22 rfl (lv_at hl 0 rfl) ?_
    refine em_call (wr := [((f 1), .inr (1, [.ref (f 2), .ref (f 3), .int (nI lz)])), ((f 2), .inl (cI, 100, .inl lk)), ((f 3), .inl (cI, 100, .inl lv))]) (em_runV (As := [.int (lxa lv lz at_)]) (rest := []) ⟨hx, hb, hml, hown, hG⟩ (rd_isInScope l D cI cL cZ cC f at_ nd df mt ns nw na de sc wt (lxa lv lz at_) _ (by omega) (by omega) hmt (by omega) (by omega) hde hwt hnt) (cwV 1 hG (gd_V k_700 k_702 k_7 k_110 k_703) rfl rfl rfl (by decide +kernel) ⟨Nat.le_of_ble_eq_true rfl, Nat.le_of_ble_eq_true rfl⟩) (tw_V (q0 := 0) hP hD hK hE hst hS rfl rfl [0, 1, 2, 3, 4] rfl (by decide)) rfl rfl hl.1 rfl (lv_room (Nat.le_of_ble_eq_true rfl)) d_RD_readParameter_23 ⟨Nat.le_of_ble_eq_true rfl, Nat.le_of_ble_eq_true rfl⟩) hP hD hS hA [0, 1, 2, 3, 4] [5, 6, 7] rfl rfl (by decide) (by decide) (fun v u H locs hok hP hD hS => ?_) (fun x C u H locs hbad hxx hP hD hS => ?_)
    · skip
      obtain ⟨r_4, rfl, hp_5⟩ := hok
      have hres_6 : (r_4 = 0 ∨ r_4 = 1) := hp_5
      have hP : va_P D classes [((f 1), .inr (1, [.ref (f 2), .ref (f 3), .int (nI lz)])), ((f 2), .inl (cI, 100, .inl lk)), ((f 3), .inl (cI, 100, .inl lv)), ((f 11), .inr (3, [.ref (f 1), .ref (f 4), .int at_, .ref (f 12), .int (nI nd), .ref (f 13), .int (nI df), .long mt, .ref (f 14), .int (nI ns), .ref (f 15), .int (nI nw)])), ((f 12), .inl (cI, 8, .inl na)), ((f 13), .inl (cL, 8, .inr (.inl de))), ((f 14), .inl (cI, 14, .inl sc)), ((f 15), .inl (cL, 100, .inr (.inl wt)))] H := hP
      have hD : va_D A [((f 1), .inr (1, [.ref (f 2), .ref (f 3), .int (nI lz)])), ((f 2), .inl (cI, 100, .inl lk)), ((f 3), .inl (cI, 100, .inl lv)), ((f 11), .inr (3, [.ref (f 1), .ref (f 4), .int at_, .ref (f 12), .int (nI nd), .ref (f 13), .int (nI df), .long mt, .ref (f 14), .int (nI ns), .ref (f 15), .int (nI nw)])), ((f 12), .inl (cI, 8, .inl na)), ((f 13), .inl (cL, 8, .inr (.inl de))), ((f 14), .inl (cI, 14, .inl sc)), ((f 15), .inl (cL, 100, .inr (.inl wt)))] := hD
      rcases hres_6 with rfl | rfl
      · skip
        refine W.eq (g2 := F0 m 26 ls [.int 0]) rfl ?_
        refine lv_if_eq (tgt := 39) hx hb d_RD_readParameter_26 (by decide) (fun hbr => ?_) (fun hbr => absurd (by decide) hbr)
        refine lv_aload_n hx hb d_RD_readParameter_39 rfl (lv_at hl 1 rfl) ?_
        refine va_get (D := D) (ci := 3) (v := .ref (f 14)) (C := rn_RD) (T := fl_RD) (N := 12) hx hb hG in_RD hown hK hP 3 rfl rfl 8 (by decide) (hG _ k_203) (fun _ h9 => h9) rfl d_RD_readParameter_40 ?_
        refine lv_aload_n hx hb d_RD_readParameter_43 rfl (lv_at hl 1 rfl) ?_
        refine va_get (D := D) (ci := 3) (v := .int (nI ns)) (C := rn_RD) (T := fl_RD) (N := 12) hx hb hG in_RD hown hK hP 3 rfl rfl 9 (by decide) (hG _ k_204) (fun _ h9 => h9) rfl d_RD_readParameter_44 ?_
        refine lv_iload_n hx hb d_RD_readParameter_47 rfl (lv_at hl 0 rfl) ?_
        refine va_iast hx hb hK hP hD hS 6 0 rfl rfl (vp_in_nI (n := ns) (N := 14) (by omega) (by omega)) d_RD_readParameter_48 (fun H locs hP hD hS => ?_)
        have hP : va_P D classes [((f 1), .inr (1, [.ref (f 2), .ref (f 3), .int (nI lz)])), ((f 2), .inl (cI, 100, .inl lk)), ((f 3), .inl (cI, 100, .inl lv)), ((f 11), .inr (3, [.ref (f 1), .ref (f 4), .int at_, .ref (f 12), .int (nI nd), .ref (f 13), .int (nI df), .long mt, .ref (f 14), .int (nI ns), .ref (f 15), .int (nI nw)])), ((f 12), .inl (cI, 8, .inl na)), ((f 13), .inl (cL, 8, .inr (.inl de))), ((f 14), .inl (cI, 14, .inl (upd sc (nI ns).toNatClampNeg (lxa lv lz at_)))), ((f 15), .inl (cL, 100, .inr (.inl wt)))] H := hP
        have hD : va_D A [((f 1), .inr (1, [.ref (f 2), .ref (f 3), .int (nI lz)])), ((f 2), .inl (cI, 100, .inl lk)), ((f 3), .inl (cI, 100, .inl lv)), ((f 11), .inr (3, [.ref (f 1), .ref (f 4), .int at_, .ref (f 12), .int (nI nd), .ref (f 13), .int (nI df), .long mt, .ref (f 14), .int (nI ns), .ref (f 15), .int (nI nw)])), ((f 12), .inl (cI, 8, .inl na)), ((f 13), .inl (cL, 8, .inr (.inl de))), ((f 14), .inl (cI, 14, .inl (upd sc (nI ns).toNatClampNeg (lxa lv lz at_)))), ((f 15), .inl (cL, 100, .inr (.inl wt)))] := hD
        obtain ⟨g_7, eg_7⟩ : ∃ z, z = upd sc (nI ns).toNatClampNeg (lxa lv lz at_) := ⟨_, rfl⟩
        rw [← eg_7] at hP hD
        refine lv_aload_n hx hb d_RD_readParameter_49 rfl (lv_at hl 1 rfl) ?_
        refine lv_dup hx hb d_RD_readParameter_50 rfl ?_
        refine va_get (D := D) (ci := 3) (v := .int (nI ns)) (C := rn_RD) (T := fl_RD) (N := 12) hx hb hG in_RD hown hK hP 3 rfl rfl 9 (by decide) (hG _ k_204) (fun _ h9 => h9) rfl d_RD_readParameter_51 ?_
        refine lv_iconst (v := 1) hx hb d_RD_readParameter_54 (by decide) ?_
        refine lw_iadd (a := ns) (b := 1) hx hb d_RD_readParameter_55 ?_
        refine va_put (D := D) (ci := 3) (v := .int (nI (ns + 1))) (ty := .int) (C := rn_RD) (T := fl_RD) (N := 12) hx hb hG in_RD tt_RD tk_RD nn_RD hown hK hP hD hS 3 rfl rfl 9 (by decide) (hG _ k_204) (fun _ h9 => h9) rfl (by decide +kernel) rfl rfl (Nat.le_of_ble_eq_true rfl) d_RD_readParameter_56 (fun H locs hP hD hS => ?_)
        have hP : va_P D classes [((f 1), .inr (1, [.ref (f 2), .ref (f 3), .int (nI lz)])), ((f 2), .inl (cI, 100, .inl lk)), ((f 3), .inl (cI, 100, .inl lv)), ((f 11), .inr (3, [.ref (f 1), .ref (f 4), .int at_, .ref (f 12), .int (nI nd), .ref (f 13), .int (nI df), .long mt, .ref (f 14), .int (nI (ns + 1)), .ref (f 15), .int (nI nw)])), ((f 12), .inl (cI, 8, .inl na)), ((f 13), .inl (cL, 8, .inr (.inl de))), ((f 14), .inl (cI, 14, .inl g_7)), ((f 15), .inl (cL, 100, .inr (.inl wt)))] H := hP
        have hD : va_D A [((f 1), .inr (1, [.ref (f 2), .ref (f 3), .int (nI lz)])), ((f 2), .inl (cI, 100, .inl lk)), ((f 3), .inl (cI, 100, .inl lv)), ((f 11), .inr (3, [.ref (f 1), .ref (f 4), .int at_, .ref (f 12), .int (nI nd), .ref (f 13), .int (nI df), .long mt, .ref (f 14), .int (nI (ns + 1)), .ref (f 15), .int (nI nw)])), ((f 12), .inl (cI, 8, .inl na)), ((f 13), .inl (cL, 8, .inr (.inl de))), ((f 14), .inl (cI, 14, .inl g_7)), ((f 15), .inl (cL, 100, .inr (.inl wt)))] := hD
        refine lv_aload_n hx hb d_RD_readParameter_59 rfl (lv_at hl 1 rfl) ?_
        refine lv_dup hx hb d_RD_readParameter_60 rfl ?_
        refine va_get (D := D) (ci := 3) (v := .int at_) (C := rn_RD) (T := fl_RD) (N := 12) hx hb hG in_RD hown hK hP 3 rfl rfl 2 (by decide) (hG _ k_197) (fun _ h9 => h9) rfl d_RD_readParameter_61 ?_
        refine lv_iconst (v := 1) hx hb d_RD_readParameter_64 (by decide) ?_
        refine lv_iadd hx hb d_RD_readParameter_65 ?_
        refine va_put (D := D) (ci := 3) (v := .int (at_ + 1)) (ty := .int) (C := rn_RD) (T := fl_RD) (N := 12) hx hb hG in_RD tt_RD tk_RD nn_RD hown hK hP hD hS 3 rfl rfl 2 (by decide) (hG _ k_197) (fun _ h9 => h9) rfl (by decide +kernel) rfl rfl (Nat.le_of_ble_eq_true rfl) d_RD_readParameter_66 (fun H locs hP hD hS => ?_)
        have hP : va_P D classes [((f 1), .inr (1, [.ref (f 2), .ref (f 3), .int (nI lz)])), ((f 2), .inl (cI, 100, .inl lk)), ((f 3), .inl (cI, 100, .inl lv)), ((f 11), .inr (3, [.ref (f 1), .ref (f 4), .int (at_ + 1), .ref (f 12), .int (nI nd), .ref (f 13), .int (nI df), .long mt, .ref (f 14), .int (nI (ns + 1)), .ref (f 15), .int (nI nw)])), ((f 12), .inl (cI, 8, .inl na)), ((f 13), .inl (cL, 8, .inr (.inl de))), ((f 14), .inl (cI, 14, .inl g_7)), ((f 15), .inl (cL, 100, .inr (.inl wt)))] H := hP
        have hD : va_D A [((f 1), .inr (1, [.ref (f 2), .ref (f 3), .int (nI lz)])), ((f 2), .inl (cI, 100, .inl lk)), ((f 3), .inl (cI, 100, .inl lv)), ((f 11), .inr (3, [.ref (f 1), .ref (f 4), .int (at_ + 1), .ref (f 12), .int (nI nd), .ref (f 13), .int (nI df), .long mt, .ref (f 14), .int (nI (ns + 1)), .ref (f 15), .int (nI nw)])), ((f 12), .inl (cI, 8, .inl na)), ((f 13), .inl (cL, 8, .inr (.inl de))), ((f 14), .inl (cI, 14, .inl g_7)), ((f 15), .inl (cL, 100, .inr (.inl wt)))] := hD
        exact em_vret hx hb hr hlocks hP hD hK hS (at_ + 1, nd, df, mt, ns + 1, nw, na, de, g_7, wt) [3, 4, 5, 6, 7, 0, 1, 2] (by decide) rfl ⟨rfl, ⟨(show nd ≤ 8 by omega), (show df ≤ 8 by omega), hmt, (show (ns + 1) ≤ 14 by omega), (show nw ≤ 100 by omega), hde, hwt, (show nd = nd by first | rfl | omega | (subst_vars; rfl)), (show df = df by first | rfl | omega | (subst_vars; rfl)), (show nw = nw by first | rfl | omega | (subst_vars; rfl))⟩⟩ d_RD_readParameter_69
      · skip
        refine W.eq (g2 := F0 m 26 ls [.int 1]) rfl ?_
        refine lv_if_eq (tgt := 39) hx hb d_RD_readParameter_26 (by decide) (fun hbr => absurd hbr (by decide)) (fun hbr => ?_)
        obtain ⟨qs, hz⟩ := hE.1 (rn_RD, 107, "too many parameters, or two alike") (by decide)
        exact em_throw (names := xnames) hx hb hml hl.1 hnt hlocks hown (by decide +kernel) (by decide +kernel) (tw_at_RD_IAE hG hE) (hG _ k_693) (hG _ k_120) hz hno hP hD hK hS hA hst (at_, nd, df, mt, ns, nw, na, de, sc, wt) [3, 4, 5, 6, 7, 0, 1, 2] (by decide) rfl ⟨(Or.inl rfl), (show nd ≤ 8 by omega), (show df ≤ 8 by omega), hmt, (show ns ≤ 14 by omega), (show nw ≤ 100 by omega), hde, hwt⟩ (Nat.le_of_ble_eq_true rfl) (Nat.le_of_ble_eq_true rfl) (Nat.le_of_ble_eq_true rfl) (Nat.le_of_ble_eq_true rfl) d_RD_readParameter_29 d_RD_readParameter_32 d_RD_readParameter_33 d_RD_readParameter_35 d_RD_readParameter_38
    · skip
      exact hbad.elim
set_option maxHeartbeats 8000000 in
set_option maxRecDepth 100000 in
theorem rd_meaning (l : Launch) (D : va_G) (cI cL cZ cC : ClassId) (f : Nat → Nat) (at_ : Int32) (nd : Nat) (df : Nat) (mt : Int64) (ns : Nat) (nw : Nat) (na : Nat → Int32) (de : Nat → Int64) (sc : Nat → Int32) (wt : Nat → Int64) (w : Int32) (sz : Nat) (hnd : nd ≤ 8) (hdf : df ≤ 8) (hmt : wfw 1024 mt) (hns : ns ≤ 14) (hnw : nw ≤ 100) (hde : wfa 1024 de) (hwt : wfa 1024 wt) (hnt : l.stackTraces = false) : em_Met l y_RD_meaning (wz y_RD_meaning b_RD_meaning 3 (some .long)) ({ frames := 6, cells := 1, slots := 6, locals := 82 }) (va_Pc [.ref (f 11), .int w] (tw_pre D (tys4 cI cL cZ cC) [((f 11), .inr (3, [.ref (f 1), .ref (f 4), .int at_, .ref (f 12), .int (nI nd), .ref (f 13), .int (nI df), .long mt, .ref (f 14), .int (nI ns), .ref (f 15), .int (nI nw)])), ((f 12), .inl (cI, 8, .inl na)), ((f 13), .inl (cL, 8, .inr (.inl de))), ((f 14), .inl (cI, 14, .inl sc)), ((f 15), .inl (cL, 100, .inr (.inl wt)))] sz)) D (tys4 cI cL cZ cC) (va_A [((f 11), .inr (3, [.ref (f 1), .ref (f 4), .int at_, .ref (f 12), .int (nI nd), .ref (f 13), .int (nI df), .long mt, .ref (f 14), .int (nI ns), .ref (f 15), .int (nI nw)])), ((f 12), .inl (cI, 8, .inl na)), ((f 13), .inl (cL, 8, .inr (.inl de))), ((f 14), .inl (cI, 14, .inl sc)), ((f 15), .inl (cL, 100, .inr (.inl wt)))] sz) (fun (u : Int32 × Nat × Nat × Int64 × Nat × Nat × (Nat → Int32) × (Nat → Int64) × (Nat → Int32) × (Nat → Int64)) => [((f 11), .inr (3, [.ref (f 1), .ref (f 4), .int u.1, .ref (f 12), .int (nI u.2.1), .ref (f 13), .int (nI u.2.2.1), .long u.2.2.2.1, .ref (f 14), .int (nI u.2.2.2.2.1), .ref (f 15), .int (nI u.2.2.2.2.2.1)])), ((f 12), .inl (cI, 8, .inl u.2.2.2.2.2.2.1)), ((f 13), .inl (cL, 8, .inr (.inl u.2.2.2.2.2.2.2.1))), ((f 14), .inl (cI, 14, .inl u.2.2.2.2.2.2.2.2.1)), ((f 15), .inl (cL, 100, .inr (.inl u.2.2.2.2.2.2.2.2.2)))]) (fun v (u : Int32 × Nat × Nat × Int64 × Nat × Nat × (Nat → Int32) × (Nat → Int64) × (Nat → Int32) × (Nat → Int64)) => ∃ r : Int64, v = some (.long r) ∧ (u.2.1 ≤ 8 ∧ u.2.2.1 ≤ 8 ∧ wfw 1024 u.2.2.2.1 ∧ u.2.2.2.2.1 ≤ 14 ∧ u.2.2.2.2.2.1 ≤ 100 ∧ wfa 1024 u.2.2.2.2.2.2.2.1 ∧ wfa 1024 u.2.2.2.2.2.2.2.2.2 ∧ u.2.1 = nd ∧ u.2.2.1 = df ∧ u.2.2.2.2.1 = ns ∧ u.2.2.2.2.2.1 = nw ∧ wfw 1024 r)) (fun C (u : Int32 × Nat × Nat × Int64 × Nat × Nat × (Nat → Int32) × (Nat → Int64) × (Nat → Int32) × (Nat → Int64)) => (C = "java/lang/IllegalArgumentException" ∨ C = "java/lang/IllegalStateException") ∧ u.2.1 ≤ 8 ∧ u.2.2.1 ≤ 8 ∧ wfw 1024 u.2.2.2.1 ∧ u.2.2.2.2.1 ≤ 14 ∧ u.2.2.2.2.2.1 ≤ 100 ∧ wfa 1024 u.2.2.2.2.2.2.2.1 ∧ wfa 1024 u.2.2.2.2.2.2.2.2.2) 1 6 := by
  refine em_Met.ofW (cc := b_RD_meaning) (maxL := 3) (ret := (some .long)) (by decide) rfl ?_
  intro p e s m args below meth c s₁ B hml hv hno
  obtain ⟨rfl, ⟨hsz, hP, hK, hD0⟩, hE⟩ := hv
  have hx := B.exec
  have hb := B.bytes
  have hr := B.returns
  have hts := atoms_spec (ws := wz y_RD_meaning b_RD_meaning 3 (some .long)) B.pre
  have hG := wz_G hts
  have hown : s.vm.findClass rn_RD = some m.cls := findClass_of_methodNamed B.named
  have hlocks := B.notSynchronized
  subst hsz
  have hD := hD0.self (sz := s.heap.size)
  have hst := tw_st hP
  generalize hAe : va_A [((f 11), .inr (3, [.ref (f 1), .ref (f 4), .int at_, .ref (f 12), .int (nI nd), .ref (f 13), .int (nI df), .long mt, .ref (f 14), .int (nI ns), .ref (f 15), .int (nI nw)])), ((f 12), .inl (cI, 8, .inl na)), ((f 13), .inl (cL, 8, .inr (.inl de))), ((f 14), .inl (cI, 14, .inl sc)), ((f 15), .inl (cL, 100, .inr (.inl wt)))] s.heap.size = A at hD hst ⊢
  have hA : ∀ q : Nat, s.heap.size ≤ q → A q := fun q h => by rw [← hAe]; exact Or.inr h
  have hS : va_S A s.heap s.heap [] := va_S.rf
  have hl := lv_entry ([.ref (f 11), .int w]) (n := 3) (Nat.le_of_ble_eq_true rfl)
  rw [lg_entry_eq]
  generalize (lg_sl ([.ref (f 11), .int w]) ++ List.replicate (3 - (lg_sl ([.ref (f 11), .int w])).length) Slot.unset).toArray = ls at hl ⊢
  have hl : lv_has ls 3 [(0, .ref (f 11)), (1, .int w)] := hl
  have loop_2 : ∀ (k_1 : Nat) (i : Nat) (H : Heap) (locs : List Loc) (ls : Array Slot), 8 - i < k_1 → (i ≤ 8) → lv_has ls 3 [(0, .ref (f 11)), (1, .int w), (2, .int (nI i))] → va_P D classes [((f 11), .inr (3, [.ref (f 1), .ref (f 4), .int at_, .ref (f 12), .int (nI nd), .ref (f 13), .int (nI df), .long mt, .ref (f 14), .int (nI ns), .ref (f 15), .int (nI nw)])), ((f 12), .inl (cI, 8, .inl na)), ((f 13), .inl (cL, 8, .inr (.inl de))), ((f 14), .inl (cI, 14, .inl sc)), ((f 15), .inl (cL, 100, .inr (.inl wt)))] H → va_D A [((f 11), .inr (3, [.ref (f 1), .ref (f 4), .int at_, .ref (f 12), .int (nI nd), .ref (f 13), .int (nI df), .long mt, .ref (f 14), .int (nI ns), .ref (f 15), .int (nI nw)])), ((f 12), .inl (cI, 8, .inl na)), ((f 13), .inl (cL, 8, .inr (.inl de))), ((f 14), .inl (cI, 14, .inl sc)), ((f 15), .inl (cL, 100, .inr (.inl wt)))] → va_S A s.heap H locs → W p l e (headSpec (wz y_RD_meaning b_RD_meaning 3 (some .long)) ({ frames := 6, cells := 1, slots := 6, locals := 82 })).room s m ([.ref (f 11), .int w] : List Value).toArray below meth c H locs 0 0 (em_MQ below D (tys4 cI cL cZ cC) A (fun (u : Int32 × Nat × Nat × Int64 × Nat × Nat × (Nat → Int32) × (Nat → Int64) × (Nat → Int32) × (Nat → Int64)) => [((f 11), .inr (3, [.ref (f 1), .ref (f 4), .int u.1, .ref (f 12), .int (nI u.2.1), .ref (f 13), .int (nI u.2.2.1), .long u.2.2.2.1, .ref (f 14), .int (nI u.2.2.2.2.1), .ref (f 15), .int (nI u.2.2.2.2.2.1)])), ((f 12), .inl (cI, 8, .inl u.2.2.2.2.2.2.1)), ((f 13), .inl (cL, 8, .inr (.inl u.2.2.2.2.2.2.2.1))), ((f 14), .inl (cI, 14, .inl u.2.2.2.2.2.2.2.2.1)), ((f 15), .inl (cL, 100, .inr (.inl u.2.2.2.2.2.2.2.2.2)))]) (fun v (u : Int32 × Nat × Nat × Int64 × Nat × Nat × (Nat → Int32) × (Nat → Int64) × (Nat → Int32) × (Nat → Int64)) => ∃ r : Int64, v = some (.long r) ∧ (u.2.1 ≤ 8 ∧ u.2.2.1 ≤ 8 ∧ wfw 1024 u.2.2.2.1 ∧ u.2.2.2.2.1 ≤ 14 ∧ u.2.2.2.2.2.1 ≤ 100 ∧ wfa 1024 u.2.2.2.2.2.2.2.1 ∧ wfa 1024 u.2.2.2.2.2.2.2.2.2 ∧ u.2.1 = nd ∧ u.2.2.1 = df ∧ u.2.2.2.2.1 = ns ∧ u.2.2.2.2.2.1 = nw ∧ wfw 1024 r)) (fun C (u : Int32 × Nat × Nat × Int64 × Nat × Nat × (Nat → Int32) × (Nat → Int64) × (Nat → Int32) × (Nat → Int64)) => (C = "java/lang/IllegalArgumentException" ∨ C = "java/lang/IllegalStateException") ∧ u.2.1 ≤ 8 ∧ u.2.2.1 ≤ 8 ∧ wfw 1024 u.2.2.2.1 ∧ u.2.2.2.2.1 ≤ 14 ∧ u.2.2.2.2.2.1 ≤ 100 ∧ wfa 1024 u.2.2.2.2.2.2.2.1 ∧ wfa 1024 u.2.2.2.2.2.2.2.2.2) s 1 6) (F0 m 17 ls []) := by
    intro k_1
    induction k_1 with
    | zero => intro i H locs ls hm; exact absurd hm (Nat.not_lt_zero _)
    | succ k_1 ih_3 =>
      intro i H locs ls hm hi hl hP hD hS
      refine lv_iload_n hx hb d_RD_meaning_17 rfl (lv_at hl 2 rfl) ?_
      refine lv_aload_n hx hb d_RD_meaning_18 rfl (lv_at hl 0 rfl) ?_
      refine va_get (D := D) (ci := 3) (v := .int (nI nd)) (C := rn_RD) (T := fl_RD) (N := 12) hx hb hG in_RD hown hK hP 0 rfl rfl 4 (by decide) (hG _ k_199) (fun _ h9 => h9) rfl d_RD_meaning_19 ?_
      refine lv_icmp_ge (tgt := 47) hx hb d_RD_meaning_22 (by decide) (fun hb_4 => ?_) (fun hb_4 => ?_)
      · skip
        have hn_5 : nd ≤ i := (nI_leI (a := nd) (b := i) (by omega) (by omega)).mp hb_4
        refine lv_iload_n hx hb d_RD_meaning_47 rfl (lv_at hl 1 rfl) ?_
        by_cases hk_6 : w = 260
        · skip
          refine lv_lookup (off := 36) (tgt := 84) hx hb d_RD_meaning_48 (by decide) (by rw [hk_6]; rfl) (by decide) ?_
          refine lv_bipush (v := 18) hx hb d_RD_meaning_84 (by decide) ?_
          refine W.callRL (W.runS (As := [.int 18]) (rest := []) ⟨hx, hb, hml, hown, hG⟩ (wd_constant l D cI cL cZ cC 18 ) (va_cwS 1 hG (gd_T k_839 k_729 k_127 k_730) rfl rfl rfl (by decide +kernel) ⟨Nat.le_of_ble_eq_true rfl, Nat.le_of_ble_eq_true rfl⟩) (wq_S hP hK [] rfl) rfl rfl hl.1 rfl (lv_room (Nat.le_of_ble_eq_true rfl)) d_RD_meaning_86 ⟨Nat.le_of_ble_eq_true rfl, Nat.le_of_ble_eq_true rfl⟩) ?_
          refine W.eq (g2 := F0 m 89 ls [.long (wcon 18)]) rfl ?_
          exact em_lret hx hb hr hlocks hP hD hK hS (at_, nd, df, mt, ns, nw, na, de, sc, wt) [0, 1, 2, 3, 4] (by decide) rfl ⟨_, rfl, ⟨(show nd ≤ 8 by omega), (show df ≤ 8 by omega), hmt, (show ns ≤ 14 by omega), (show nw ≤ 100 by omega), hde, hwt, (show nd = nd by first | rfl | omega | (subst_vars; rfl)), (show df = df by first | rfl | omega | (subst_vars; rfl)), (show ns = ns by first | rfl | omega | (subst_vars; rfl)), (show nw = nw by first | rfl | omega | (subst_vars; rfl)), (wfw_con (by decide))⟩⟩ d_RD_meaning_89
        · skip
          by_cases hk_7 : w = 652
          · skip
            refine lv_lookup (off := 42) (tgt := 90) hx hb d_RD_meaning_48 (by decide) (by rw [hk_7]; rfl) (by decide) ?_
            refine lv_bipush (v := 19) hx hb d_RD_meaning_90 (by decide) ?_
            refine W.callRL (W.runS (As := [.int 19]) (rest := []) ⟨hx, hb, hml, hown, hG⟩ (wd_constant l D cI cL cZ cC 19 ) (va_cwS 1 hG (gd_T k_839 k_729 k_127 k_730) rfl rfl rfl (by decide +kernel) ⟨Nat.le_of_ble_eq_true rfl, Nat.le_of_ble_eq_true rfl⟩) (wq_S hP hK [] rfl) rfl rfl hl.1 rfl (lv_room (Nat.le_of_ble_eq_true rfl)) d_RD_meaning_92 ⟨Nat.le_of_ble_eq_true rfl, Nat.le_of_ble_eq_true rfl⟩) ?_
            refine W.eq (g2 := F0 m 95 ls [.long (wcon 19)]) rfl ?_
            exact em_lret hx hb hr hlocks hP hD hK hS (at_, nd, df, mt, ns, nw, na, de, sc, wt) [0, 1, 2, 3, 4] (by decide) rfl ⟨_, rfl, ⟨(show nd ≤ 8 by omega), (show df ≤ 8 by omega), hmt, (show ns ≤ 14 by omega), (show nw ≤ 100 by omega), hde, hwt, (show nd = nd by first | rfl | omega | (subst_vars; rfl)), (show df = df by first | rfl | omega | (subst_vars; rfl)), (show ns = ns by first | rfl | omega | (subst_vars; rfl)), (show nw = nw by first | rfl | omega | (subst_vars; rfl)), (wfw_con (by decide))⟩⟩ d_RD_meaning_95
          · skip
            by_cases hk_8 : w = 15020
            · skip
              refine lv_lookup (off := 48) (tgt := 96) hx hb d_RD_meaning_48 (by decide) (by rw [hk_8]; rfl) (by decide) ?_
              refine lv_bipush (v := 20) hx hb d_RD_meaning_96 (by decide) ?_
              refine W.callRL (W.runS (As := [.int 20]) (rest := []) ⟨hx, hb, hml, hown, hG⟩ (wd_constant l D cI cL cZ cC 20 ) (va_cwS 1 hG (gd_T k_839 k_729 k_127 k_730) rfl rfl rfl (by decide +kernel) ⟨Nat.le_of_ble_eq_true rfl, Nat.le_of_ble_eq_true rfl⟩) (wq_S hP hK [] rfl) rfl rfl hl.1 rfl (lv_room (Nat.le_of_ble_eq_true rfl)) d_RD_meaning_98 ⟨Nat.le_of_ble_eq_true rfl, Nat.le_of_ble_eq_true rfl⟩) ?_
              refine W.eq (g2 := F0 m 101 ls [.long (wcon 20)]) rfl ?_
              exact em_lret hx hb hr hlocks hP hD hK hS (at_, nd, df, mt, ns, nw, na, de, sc, wt) [0, 1, 2, 3, 4] (by decide) rfl ⟨_, rfl, ⟨(show nd ≤ 8 by omega), (show df ≤ 8 by omega), hmt, (show ns ≤ 14 by omega), (show nw ≤ 100 by omega), hde, hwt, (show nd = nd by first | rfl | omega | (subst_vars; rfl)), (show df = df by first | rfl | omega | (subst_vars; rfl)), (show ns = ns by first | rfl | omega | (subst_vars; rfl)), (show nw = nw by first | rfl | omega | (subst_vars; rfl)), (wfw_con (by decide))⟩⟩ d_RD_meaning_101
            · skip
              refine lv_lookup (off := 54) (tgt := 102) hx hb d_RD_meaning_48 (by decide) (by first | (rw [lv_osw (a := 260) hk_6 (by decide), lv_osw (a := 652) hk_7 (by decide), lv_osw (a := 15020) hk_8 (by decide)]; rfl) | (show Op.lookupswitch.offset (_ :: _) _ _ = _; rw [lv_osw (a := 260) hk_6 (by decide), lv_osw (a := 652) hk_7 (by decide), lv_osw (a := 15020) hk_8 (by decide)]; rfl)) (by decide) ?_
              obtain ⟨qs, hz⟩ := hE.1 (rn_RD, 180, "a name that means nothing") (by decide)
              exact em_throw (names := xnames) hx hb hml hl.1 hnt hlocks hown (by decide +kernel) (by decide +kernel) (tw_at_RD_IAE hG hE) (hG _ k_693) (hG _ k_120) hz hno hP hD hK hS hA hst (at_, nd, df, mt, ns, nw, na, de, sc, wt) [0, 1, 2, 3, 4] (by decide) rfl ⟨(Or.inl rfl), (show nd ≤ 8 by omega), (show df ≤ 8 by omega), hmt, (show ns ≤ 14 by omega), (show nw ≤ 100 by omega), hde, hwt⟩ (Nat.le_of_ble_eq_true rfl) (Nat.le_of_ble_eq_true rfl) (Nat.le_of_ble_eq_true rfl) (Nat.le_of_ble_eq_true rfl) d_RD_meaning_102 d_RD_meaning_105 d_RD_meaning_106 d_RD_meaning_108 d_RD_meaning_111
      · skip
        have hn_9 : ¬ nd ≤ i := fun h => hb_4 ((nI_leI (a := nd) (b := i) (by omega) (by omega)).mpr h)
        refine lv_aload_n hx hb d_RD_meaning_25 rfl (lv_at hl 0 rfl) ?_
        refine va_get (D := D) (ci := 3) (v := .ref (f 12)) (C := rn_RD) (T := fl_RD) (N := 12) hx hb hG in_RD hown hK hP 0 rfl rfl 3 (by decide) (hG _ k_198) (fun _ h9 => h9) rfl d_RD_meaning_26 ?_
        refine lv_iload_n hx hb d_RD_meaning_29 rfl (lv_at hl 2 rfl) ?_
        refine va_iald hx hb hK hP 1 0 rfl rfl (vp_in_nI (n := i) (N := 8) (by omega) (by omega)) d_RD_meaning_30 ?_
        refine lv_topi (fun v_10 ev_10 => ?_)
        refine lv_iload_n hx hb d_RD_meaning_31 rfl (lv_at hl 1 rfl) ?_
        refine lv_icmp_ne (tgt := 41) hx hb d_RD_meaning_32 (by decide) (fun hb_11 => ?_) (fun hb_11 => ?_)
        · skip
          refine lv_iinc (k := 2) (v := nI (i + 1)) (lv' := [(2, .int (nI (i + 1))), (0, .ref (f 11)), (1, .int w)]) hx hb d_RD_meaning_41 hl rfl (lw_inc i 1) (Nat.le_of_ble_eq_true rfl) rfl (fun ls hl => ?_)
          refine lv_goto (tgt := 17) hx hb d_RD_meaning_44 (by decide) ?_
          have hl := lv_sub (l' := [(0, .ref (f 11)), (1, .int w), (2, .int (nI (i + 1)))]) hl [1, 2, 0] rfl
          exact ih_3 (i + 1) _ _ _ (by omega) (by omega) hl hP hD hS
        · skip
          refine lv_iconst (v := 1) hx hb d_RD_meaning_35 (by decide) ?_
          refine lv_iload_n hx hb d_RD_meaning_36 rfl (lv_at hl 2 rfl) ?_
          refine W.callRL (W.runS (As := [.int 1, .int (nI i)]) (rest := []) ⟨hx, hb, hml, hown, hG⟩ (wd_of l D cI cL cZ cC 1 (nI i) ) (va_cwS 2 hG (gd_T k_834 k_736 k_127 k_737) rfl rfl rfl (by decide +kernel) ⟨Nat.le_of_ble_eq_true rfl, Nat.le_of_ble_eq_true rfl⟩) (wq_S hP hK [] rfl) rfl rfl hl.1 rfl (lv_room (Nat.le_of_ble_eq_true rfl)) d_RD_meaning_37 ⟨Nat.le_of_ble_eq_true rfl, Nat.le_of_ble_eq_true rfl⟩) ?_
          refine W.eq (g2 := F0 m 40 ls [.long (wof 1 (nI i))]) rfl ?_
          exact em_lret hx hb hr hlocks hP hD hK hS (at_, nd, df, mt, ns, nw, na, de, sc, wt) [0, 1, 2, 3, 4] (by decide) rfl ⟨_, rfl, ⟨(show nd ≤ 8 by omega), (show df ≤ 8 by omega), hmt, (show ns ≤ 14 by omega), (show nw ≤ 100 by omega), hde, hwt, (show nd = nd by first | rfl | omega | (subst_vars; rfl)), (show df = df by first | rfl | omega | (subst_vars; rfl)), (show ns = ns by first | rfl | omega | (subst_vars; rfl)), (show nw = nw by first | rfl | omega | (subst_vars; rfl)), (wfw_of (by decide))⟩⟩ d_RD_meaning_40
  refine lv_aload_n hx hb d_RD_meaning_0 rfl (lv_at hl 0 rfl) ?_
  refine lv_iload_n hx hb d_RD_meaning_1 rfl (lv_at hl 1 rfl) ?_
  refine em_call (wr := []) (em_runV (As := [.int w]) (rest := []) ⟨hx, hb, hml, hown, hG⟩ (rd_isInScope l D cI cL cZ cC f at_ nd df mt ns nw na de sc wt w _ (by omega) (by omega) hmt (by omega) (by omega) hde hwt hnt) (cwV 1 hG (gd_V k_700 k_702 k_7 k_110 k_703) rfl rfl rfl (by decide +kernel) ⟨Nat.le_of_ble_eq_true rfl, Nat.le_of_ble_eq_true rfl⟩) (tw_V (q0 := 0) hP hD hK hE hst hS rfl rfl [0, 1, 2, 3, 4] rfl (by decide)) rfl rfl hl.1 rfl (lv_room (Nat.le_of_ble_eq_true rfl)) d_RD_meaning_2 ⟨Nat.le_of_ble_eq_true rfl, Nat.le_of_ble_eq_true rfl⟩) hP hD hS hA [0, 1, 2, 3, 4] [] rfl rfl (by decide) (by decide) (fun v u H locs hok hP hD hS => ?_) (fun x C u H locs hbad hxx hP hD hS => ?_)
  · skip
    obtain ⟨r_12, rfl, hp_13⟩ := hok
    have hres_14 : (r_12 = 0 ∨ r_12 = 1) := hp_13
    have hP : va_P D classes [((f 11), .inr (3, [.ref (f 1), .ref (f 4), .int at_, .ref (f 12), .int (nI nd), .ref (f 13), .int (nI df), .long mt, .ref (f 14), .int (nI ns), .ref (f 15), .int (nI nw)])), ((f 12), .inl (cI, 8, .inl na)), ((f 13), .inl (cL, 8, .inr (.inl de))), ((f 14), .inl (cI, 14, .inl sc)), ((f 15), .inl (cL, 100, .inr (.inl wt)))] H := hP
    have hD : va_D A [((f 11), .inr (3, [.ref (f 1), .ref (f 4), .int at_, .ref (f 12), .int (nI nd), .ref (f 13), .int (nI df), .long mt, .ref (f 14), .int (nI ns), .ref (f 15), .int (nI nw)])), ((f 12), .inl (cI, 8, .inl na)), ((f 13), .inl (cL, 8, .inr (.inl de))), ((f 14), .inl (cI, 14, .inl sc)), ((f 15), .inl (cL, 100, .inr (.inl wt)))] := hD
    rcases hres_14 with rfl | rfl
    · skip
      refine W.eq (g2 := F0 m 5 ls [.int 0]) rfl ?_
      refine lv_if_eq (tgt := 15) hx hb d_RD_meaning_5 (by decide) (fun hbr => ?_) (fun hbr => absurd (by decide) hbr)
      refine lv_iconst (v := 0) hx hb d_RD_meaning_15 (by decide) ?_
      refine lv_istore_n (lv' := [(2, .int 0), (0, .ref (f 11)), (1, .int w)]) hx hb d_RD_meaning_16 rfl hl (Nat.le_of_ble_eq_true rfl) rfl (fun ls hl => ?_)
      have hl := lv_sub (l' := [(0, .ref (f 11)), (1, .int w), (2, .int 0)]) hl [1, 2, 0] rfl
      exact loop_2 _ 0 _ _ _ (Nat.lt_succ_self _) (by omega) hl hP hD hS
    · skip
      refine W.eq (g2 := F0 m 5 ls [.int 1]) rfl ?_
      refine lv_if_eq (tgt := 15) hx hb d_RD_meaning_5 (by decide) (fun hbr => absurd hbr (by decide)) (fun hbr => ?_)
      refine lv_bipush (v := 24) hx hb d_RD_meaning_8 (by decide) ?_
      refine lv_iload_n hx hb d_RD_meaning_10 rfl (lv_at hl 1 rfl) ?_
      refine W.callRL (W.runS (As := [.int 24, .int w]) (rest := []) ⟨hx, hb, hml, hown, hG⟩ (wd_of l D cI cL cZ cC 24 w ) (va_cwS 2 hG (gd_T k_834 k_736 k_127 k_737) rfl rfl rfl (by decide +kernel) ⟨Nat.le_of_ble_eq_true rfl, Nat.le_of_ble_eq_true rfl⟩) (wq_S hP hK [] rfl) rfl rfl hl.1 rfl (lv_room (Nat.le_of_ble_eq_true rfl)) d_RD_meaning_11 ⟨Nat.le_of_ble_eq_true rfl, Nat.le_of_ble_eq_true rfl⟩) ?_
      refine W.eq (g2 := F0 m 14 ls [.long (wof 24 w)]) rfl ?_
      exact em_lret hx hb hr hlocks hP hD hK hS (at_, nd, df, mt, ns, nw, na, de, sc, wt) [0, 1, 2, 3, 4] (by decide) rfl ⟨_, rfl, ⟨(show nd ≤ 8 by omega), (show df ≤ 8 by omega), hmt, (show ns ≤ 14 by omega), (show nw ≤ 100 by omega), hde, hwt, (show nd = nd by first | rfl | omega | (subst_vars; rfl)), (show df = df by first | rfl | omega | (subst_vars; rfl)), (show ns = ns by first | rfl | omega | (subst_vars; rfl)), (show nw = nw by first | rfl | omega | (subst_vars; rfl)), (wfw_of (by decide))⟩⟩ d_RD_meaning_14
  · skip
    exact hbad.elim
