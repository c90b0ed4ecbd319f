set_option maxHeartbeats 8000000 in
set_option maxRecDepth 100000 in
theorem lx_nameOf (l : Launch) (D : va_G) (cI cL cZ cC : ClassId) (f : Nat → Nat) (tx : Nat → Int32) (fm : Nat) (en : Nat) (sz : Nat) (hfm : fm ≤ 240) (hen : en ≤ 240) (hnt : l.stackTraces = false) : em_Met l y_LX_nameOf (wz y_LX_nameOf b_LX_nameOf 5 (some .int)) ({ frames := 0, cells := 0, slots := 0, locals := 0 }) (va_Pc [.ref (f 0), .int (nI fm), .int (nI en)] (tw_pre D (tys4 cI cL cZ cC) [((f 0), .inl (cC, 240, .inl tx))] sz)) D (tys4 cI cL cZ cC) (va_A [((f 0), .inl (cC, 240, .inl tx))] sz) (fun (_ : Unit) => [((f 0), .inl (cC, 240, .inl tx))]) (fun v (_ : Unit) => ∃ r : Int32, v = some (.int r) ∧ (True)) (fun C (_ : Unit) => False) 0 0 := by
  refine em_Met.ofW (cc := b_LX_nameOf) (maxL := 5) (ret := (some .int)) (by decide) rfl ?_
  intro p e s m args below meth c s₁ B hml hv hno
  obtain ⟨rfl, ⟨hsz, hP, hK, hD0⟩, hE⟩ := hv
  have hx := B.exec
  have hb := B.bytes
  have hr := B.returns
  have hts := atoms_spec (ws := wz y_LX_nameOf b_LX_nameOf 5 (some .int)) B.pre
  have hG := wz_G hts
  have hown : s.vm.findClass rn_LX = some m.cls := findClass_of_methodNamed B.named
  have hlocks := B.notSynchronized
  subst hsz
  have hD := hD0.self (sz := s.heap.size)
  have hst := tw_st hP
  generalize hAe : va_A [((f 0), .inl (cC, 240, .inl tx))] s.heap.size = A at hD hst ⊢
  have hA : ∀ q : Nat, s.heap.size ≤ q → A q := fun q h => by rw [← hAe]; exact Or.inr h
  have hS : va_S A s.heap s.heap [] := va_S.rf
  have hl := lv_entry ([.ref (f 0), .int (nI fm), .int (nI en)]) (n := 5) (Nat.le_of_ble_eq_true rfl)
  rw [lg_entry_eq]
  generalize (lg_sl ([.ref (f 0), .int (nI fm), .int (nI en)]) ++ List.replicate (5 - (lg_sl ([.ref (f 0), .int (nI fm), .int (nI en)])).length) Slot.unset).toArray = ls at hl ⊢
  have hl : lv_has ls 5 [(0, .ref (f 0)), (1, .int (nI fm)), (2, .int (nI en))] := hl
  have loop_2 : ∀ (k_1 : Nat) (co : Int32) (i : Nat) (H : Heap) (locs : List Loc) (ls : Array Slot), en - i < k_1 → (i ≤ 240) → lv_has ls 5 [(0, .ref (f 0)), (2, .int (nI en)), (3, .int co), (4, .int (nI i))] → va_P D classes [((f 0), .inl (cC, 240, .inl tx))] H → va_D A [((f 0), .inl (cC, 240, .inl tx))] → va_S A s.heap H locs → W p l e (headSpec (wz y_LX_nameOf b_LX_nameOf 5 (some .int)) ({ frames := 0, cells := 0, slots := 0, locals := 0 })).room s m ([.ref (f 0), .int (nI fm), .int (nI en)] : List Value).toArray below meth c H locs 0 0 (em_MQ below D (tys4 cI cL cZ cC) A (fun (_ : Unit) => [((f 0), .inl (cC, 240, .inl tx))]) (fun v (_ : Unit) => ∃ r : Int32, v = some (.int r) ∧ (True)) (fun C (_ : Unit) => False) s 0 0) (F0 m 5 ls []) := by
    intro k_1
    induction k_1 with
    | zero => intro co i H locs ls hm; exact absurd hm (Nat.not_lt_zero _)
    | succ k_1 ih_3 =>
      intro co i H locs ls hm hi hl hP hD hS
      refine lv_iload hx hb d_LX_nameOf_5 (lv_at hl 3 rfl) ?_
      refine lv_iload_n hx hb d_LX_nameOf_7 rfl (lv_at hl 1 rfl) ?_
      refine lv_icmp_ge (tgt := 32) hx hb d_LX_nameOf_8 (by decide) (fun hb_4 => ?_) (fun hb_4 => ?_)
      · skip
        have hn_5 : en ≤ i := (nI_leI (a := en) (b := i) (by omega) (by omega)).mp hb_4
        refine lv_iload_n hx hb d_LX_nameOf_32 rfl (lv_at hl 2 rfl) ?_
        exact em_iret hx hb hr hlocks hP hD hK hS () [0] (by decide) rfl ⟨_, rfl, trivial⟩ d_LX_nameOf_33
      · skip
        have hn_6 : ¬ en ≤ i := fun h => hb_4 ((nI_leI (a := en) (b := i) (by omega) (by omega)).mpr h)
        refine lv_iload_n hx hb d_LX_nameOf_11 rfl (lv_at hl 2 rfl) ?_
        refine lv_bipush (v := 32) hx hb d_LX_nameOf_12 (by decide) ?_
        refine lv_imul hx hb d_LX_nameOf_14 ?_
        refine lv_aload_n hx hb d_LX_nameOf_15 rfl (lv_at hl 0 rfl) ?_
        refine lv_iload hx hb d_LX_nameOf_16 (lv_at hl 3 rfl) ?_
        refine va_cald hx hb hK hP 0 3 rfl rfl (vp_in_nI (n := i) (N := 240) (by omega) (by omega)) d_LX_nameOf_18 ?_
        refine lv_topi (fun v_7 ev_7 => ?_)
        refine lv_bipush (v := 97) hx hb d_LX_nameOf_19 (by decide) ?_
        refine lv_isub hx hb d_LX_nameOf_21 ?_
        refine lv_iconst (v := 1) hx hb d_LX_nameOf_22 (by decide) ?_
        refine lv_iadd hx hb d_LX_nameOf_23 ?_
        refine lv_iadd hx hb d_LX_nameOf_24 ?_
        refine lv_istore_n (lv' := [(3, .int ((co * 32) + ((v_7 - 97) + 1))), (0, .ref (f 0)), (2, .int (nI en)), (4, .int (nI i))]) hx hb d_LX_nameOf_25 rfl hl (Nat.le_of_ble_eq_true rfl) rfl (fun ls hl => ?_)
        refine lv_iinc (k := 3) (v := nI (i + 1)) (lv' := [(4, .int (nI (i + 1))), (3, .int ((co * 32) + ((v_7 - 97) + 1))), (0, .ref (f 0)), (2, .int (nI en))]) hx hb d_LX_nameOf_26 hl rfl (lw_inc i 1) (Nat.le_of_ble_eq_true rfl) rfl (fun ls hl => ?_)
        refine lv_goto (tgt := 5) hx hb d_LX_nameOf_29 (by decide) ?_
        have hl := lv_sub (l' := [(0, .ref (f 0)), (2, .int (nI en)), (3, .int ((co * 32) + ((v_7 - 97) + 1))), (4, .int (nI (i + 1)))]) hl [2, 3, 1, 0] rfl
        exact ih_3 ((co * 32) + ((v_7 - 97) + 1)) (i + 1) _ _ _ (by omega) (by omega) hl hP hD hS
  refine lv_iconst (v := 0) hx hb d_LX_nameOf_0 (by decide) ?_
  refine lv_istore_n (lv' := [(3, .int 0), (0, .ref (f 0)), (1, .int (nI fm)), (2, .int (nI en))]) hx hb d_LX_nameOf_1 rfl hl (Nat.le_of_ble_eq_true rfl) rfl (fun ls hl => ?_)
  refine lv_iload_n hx hb d_LX_nameOf_2 rfl (lv_at hl 2 rfl) ?_
  refine lv_istore (lv' := [(4, .int (nI fm)), (3, .int 0), (0, .ref (f 0)), (1, .int (nI fm)), (2, .int (nI en))]) hx hb d_LX_nameOf_3 hl (Nat.le_of_ble_eq_true rfl) rfl (fun ls hl => ?_)
  have hl := lv_sub (l' := [(0, .ref (f 0)), (2, .int (nI en)), (3, .int 0), (4, .int (nI fm))]) hl [2, 4, 1, 0] rfl
  exact loop_2 _ 0 fm _ _ _ (Nat.lt_succ_self _) (by omega) hl hP hD hS
set_option maxHeartbeats 8000000 in
set_option maxRecDepth 100000 in
theorem lx_numberOf (l : Launch) (D : va_G) (cI cL cZ cC : ClassId) (f : Nat → Nat) (tx : Nat → Int32) (fm : Nat) (en : Nat) (sz : Nat) (hfm : fm ≤ 240) (hen : en ≤ 240) (hnt : l.stackTraces = false) : em_Met l y_LX_numberOf (wz y_LX_numberOf b_LX_numberOf 5 (some .int)) ({ frames := 0, cells := 0, slots := 0, locals := 0 }) (va_Pc [.ref (f 0), .int (nI fm), .int (nI en)] (tw_pre D (tys4 cI cL cZ cC) [((f 0), .inl (cC, 240, .inl tx))] sz)) D (tys4 cI cL cZ cC) (va_A [((f 0), .inl (cC, 240, .inl tx))] sz) (fun (_ : Unit) => [((f 0), .inl (cC, 240, .inl tx))]) (fun v (_ : Unit) => ∃ r : Int32, v = some (.int r) ∧ (True)) (fun C (_ : Unit) => False) 0 0 := by
  refine em_Met.ofW (cc := b_LX_numberOf) (maxL := 5) (ret := (some .int)) (by decide) rfl ?_
  intro p e s m args below meth c s₁ B hml hv hno
  obtain ⟨rfl, ⟨hsz, hP, hK, hD0⟩, hE⟩ := hv
  have hx := B.exec
  have hb := B.bytes
  have hr := B.returns
  have hts := atoms_spec (ws := wz y_LX_numberOf b_LX_numberOf 5 (some .int)) B.pre
  have hG := wz_G hts
  have hown : s.vm.findClass rn_LX = some m.cls := findClass_of_methodNamed B.named
  have hlocks := B.notSynchronized
  subst hsz
  have hD := hD0.self (sz := s.heap.size)
  have hst := tw_st hP
  generalize hAe : va_A [((f 0), .inl (cC, 240, .inl tx))] s.heap.size = A at hD hst ⊢
  have hA : ∀ q : Nat, s.heap.size ≤ q → A q := fun q h => by rw [← hAe]; exact Or.inr h
  have hS : va_S A s.heap s.heap [] := va_S.rf
  have hl := lv_entry ([.ref (f 0), .int (nI fm), .int (nI en)]) (n := 5) (Nat.le_of_ble_eq_true rfl)
  rw [lg_entry_eq]
  generalize (lg_sl ([.ref (f 0), .int (nI fm), .int (nI en)]) ++ List.replicate (5 - (lg_sl ([.ref (f 0), .int (nI fm), .int (nI en)])).length) Slot.unset).toArray = ls at hl ⊢
  have hl : lv_has ls 5 [(0, .ref (f 0)), (1, .int (nI fm)), (2, .int (nI en))] := hl
  have loop_2 : ∀ (k_1 : Nat) (co : Int32) (i : Nat) (H : Heap) (locs : List Loc) (ls : Array Slot), en - i < k_1 → (i ≤ 240) → lv_has ls 5 [(0, .ref (f 0)), (2, .int (nI en)), (3, .int co), (4, .int (nI i))] → va_P D classes [((f 0), .inl (cC, 240, .inl tx))] H → va_D A [((f 0), .inl (cC, 240, .inl tx))] → va_S A s.heap H locs → W p l e (headSpec (wz y_LX_numberOf b_LX_numberOf 5 (some .int)) ({ frames := 0, cells := 0, slots := 0, locals := 0 })).room s m ([.ref (f 0), .int (nI fm), .int (nI en)] : List Value).toArray below meth c H locs 0 0 (em_MQ below D (tys4 cI cL cZ cC) A (fun (_ : Unit) => [((f 0), .inl (cC, 240, .inl tx))]) (fun v (_ : Unit) => ∃ r : Int32, v = some (.int r) ∧ (True)) (fun C (_ : Unit) => False) s 0 0) (F0 m 5 ls []) := by
    intro k_1
    induction k_1 with
    | zero => intro co i H locs ls hm; exact absurd hm (Nat.not_lt_zero _)
    | succ k_1 ih_3 =>
      intro co i H locs ls hm hi hl hP hD hS
      refine lv_iload hx hb d_LX_numberOf_5 (lv_at hl 3 rfl) ?_
      refine lv_iload_n hx hb d_LX_numberOf_7 rfl (lv_at hl 1 rfl) ?_
      refine lv_icmp_ge (tgt := 30) hx hb d_LX_numberOf_8 (by decide) (fun hb_4 => ?_) (fun hb_4 => ?_)
      · skip
        have hn_5 : en ≤ i := (nI_leI (a := en) (b := i) (by omega) (by omega)).mp hb_4
        refine lv_iload_n hx hb d_LX_numberOf_30 rfl (lv_at hl 2 rfl) ?_
        exact em_iret hx hb hr hlocks hP hD hK hS () [0] (by decide) rfl ⟨_, rfl, trivial⟩ d_LX_numberOf_31
      · skip
        have hn_6 : ¬ en ≤ i := fun h => hb_4 ((nI_leI (a := en) (b := i) (by omega) (by omega)).mpr h)
        refine lv_iload_n hx hb d_LX_numberOf_11 rfl (lv_at hl 2 rfl) ?_
        refine lv_bipush (v := 10) hx hb d_LX_numberOf_12 (by decide) ?_
        refine lv_imul hx hb d_LX_numberOf_14 ?_
        refine lv_aload_n hx hb d_LX_numberOf_15 rfl (lv_at hl 0 rfl) ?_
        refine lv_iload hx hb d_LX_numberOf_16 (lv_at hl 3 rfl) ?_
        refine va_cald hx hb hK hP 0 3 rfl rfl (vp_in_nI (n := i) (N := 240) (by omega) (by omega)) d_LX_numberOf_18 ?_
        refine lv_topi (fun v_7 ev_7 => ?_)
        refine lv_bipush (v := 48) hx hb d_LX_numberOf_19 (by decide) ?_
        refine lv_isub hx hb d_LX_numberOf_21 ?_
        refine lv_iadd hx hb d_LX_numberOf_22 ?_
        refine lv_istore_n (lv' := [(3, .int ((co * 10) + (v_7 - 48))), (0, .ref (f 0)), (2, .int (nI en)), (4, .int (nI i))]) hx hb d_LX_numberOf_23 rfl hl (Nat.le_of_ble_eq_true rfl) rfl (fun ls hl => ?_)
        refine lv_iinc (k := 3) (v := nI (i + 1)) (lv' := [(4, .int (nI (i + 1))), (3, .int ((co * 10) + (v_7 - 48))), (0, .ref (f 0)), (2, .int (nI en))]) hx hb d_LX_numberOf_24 hl rfl (lw_inc i 1) (Nat.le_of_ble_eq_true rfl) rfl (fun ls hl => ?_)
        refine lv_goto (tgt := 5) hx hb d_LX_numberOf_27 (by decide) ?_
        have hl := lv_sub (l' := [(0, .ref (f 0)), (2, .int (nI en)), (3, .int ((co * 10) + (v_7 - 48))), (4, .int (nI (i + 1)))]) hl [2, 3, 1, 0] rfl
        exact ih_3 ((co * 10) + (v_7 - 48)) (i + 1) _ _ _ (by omega) (by omega) hl hP hD hS
  refine lv_iconst (v := 0) hx hb d_LX_numberOf_0 (by decide) ?_
  refine lv_istore_n (lv' := [(3, .int 0), (0, .ref (f 0)), (1, .int (nI fm)), (2, .int (nI en))]) hx hb d_LX_numberOf_1 rfl hl (Nat.le_of_ble_eq_true rfl) rfl (fun ls hl => ?_)
  refine lv_iload_n hx hb d_LX_numberOf_2 rfl (lv_at hl 2 rfl) ?_
  refine lv_istore (lv' := [(4, .int (nI fm)), (3, .int 0), (0, .ref (f 0)), (1, .int (nI fm)), (2, .int (nI en))]) hx hb d_LX_numberOf_3 hl (Nat.le_of_ble_eq_true rfl) rfl (fun ls hl => ?_)
  have hl := lv_sub (l' := [(0, .ref (f 0)), (2, .int (nI en)), (3, .int 0), (4, .int (nI fm))]) hl [2, 4, 1, 0] rfl
  exact loop_2 _ 0 fm _ _ _ (Nat.lt_succ_self _) (by omega) hl hP hD hS
set_option maxHeartbeats 8000000 in
set_option maxRecDepth 100000 in
theorem lx_endL (l : Launch) (D : va_G) (cI cL cZ cC : ClassId) (f : Nat → Nat) (tx : Nat → Int32) (fm : Nat) (bd : Nat) (sz : Nat) (hfm : fm < bd) (hbd : bd ≤ 240) (hnt : l.stackTraces = false) : em_Met l y_LX_endOf (wz y_LX_endOf b_LX_endOf 5 (some .int)) ({ frames := 1, cells := 0, slots := 0, locals := 20 }) (va_Pc [.ref (f 0), .int (nI fm), .int (nI bd), .int 1] (tw_pre D (tys4 cI cL cZ cC) [((f 0), .inl (cC, 240, .inl tx))] sz)) D (tys4 cI cL cZ cC) (va_A [((f 0), .inl (cC, 240, .inl tx))] sz) (fun (_ : Unit) => [((f 0), .inl (cC, 240, .inl tx))]) (fun v (_ : Unit) => ∃ r : Int32, v = some (.int r) ∧ ((∃ j : Nat, r = nI j ∧ fm ≤ j ∧ j ≤ bd ∧ (¬ isLet (tx (nI fm).toNatClampNeg) = 0 → fm < j)))) (fun C (_ : Unit) => False) 0 0 := by
  refine em_Met.ofW (cc := b_LX_endOf) (maxL := 5) (ret := (some .int)) (by decide) rfl ?_
  intro p e s m args below meth c s₁ B hml hv hno
  obtain ⟨rfl, ⟨hsz, hP, hK, hD0⟩, hE⟩ := hv
  have hx := B.exec
  have hb := B.bytes
  have hr := B.returns
  have hts := atoms_spec (ws := wz y_LX_endOf b_LX_endOf 5 (some .int)) B.pre
  have hG := wz_G hts
  have hown : s.vm.findClass rn_LX = some m.cls := findClass_of_methodNamed B.named
  have hlocks := B.notSynchronized
  subst hsz
  have hD := hD0.self (sz := s.heap.size)
  have hst := tw_st hP
  generalize hAe : va_A [((f 0), .inl (cC, 240, .inl tx))] s.heap.size = A at hD hst ⊢
  have hA : ∀ q : Nat, s.heap.size ≤ q → A q := fun q h => by rw [← hAe]; exact Or.inr h
  have hS : va_S A s.heap s.heap [] := va_S.rf
  have hl := lv_entry ([.ref (f 0), .int (nI fm), .int (nI bd), .int 1]) (n := 5) (Nat.le_of_ble_eq_true rfl)
  rw [lg_entry_eq]
  generalize (lg_sl ([.ref (f 0), .int (nI fm), .int (nI bd), .int 1]) ++ List.replicate (5 - (lg_sl ([.ref (f 0), .int (nI fm), .int (nI bd), .int 1])).length) Slot.unset).toArray = ls at hl ⊢
  have hl : lv_has ls 5 [(0, .ref (f 0)), (1, .int (nI fm)), (2, .int (nI bd)), (3, .int 1)] := hl
  have loop_2 : ∀ (k_1 : Nat) (i : Nat) (H : Heap) (locs : List Loc) (ls : Array Slot), bd - i < k_1 → (fm ≤ i) → (i ≤ bd) → lv_has ls 5 [(0, .ref (f 0)), (2, .int (nI bd)), (3, .int 1), (4, .int (nI i))] → va_P D classes [((f 0), .inl (cC, 240, .inl tx))] H → va_D A [((f 0), .inl (cC, 240, .inl tx))] → va_S A s.heap H locs → W p l e (headSpec (wz y_LX_endOf b_LX_endOf 5 (some .int)) ({ frames := 1, cells := 0, slots := 0, locals := 20 })).room s m ([.ref (f 0), .int (nI fm), .int (nI bd), .int 1] : List Value).toArray below meth c H locs 0 0 (em_MQ below D (tys4 cI cL cZ cC) A (fun (_ : Unit) => [((f 0), .inl (cC, 240, .inl tx))]) (fun v (_ : Unit) => ∃ r : Int32, v = some (.int r) ∧ ((∃ j : Nat, r = nI j ∧ fm ≤ j ∧ j ≤ bd ∧ (¬ isLet (tx (nI fm).toNatClampNeg) = 0 → fm < j)))) (fun C (_ : Unit) => False) s 0 0) (F0 m 3 ls []) := by
    intro k_1
    induction k_1 with
    | zero => intro i H locs ls hm; exact absurd hm (Nat.not_lt_zero _)
    | succ k_1 ih_3 =>
      intro i H locs ls hm hi1 hi2 hl hP hD hS
      refine lv_iload hx hb d_LX_endOf_3 (lv_at hl 3 rfl) ?_
      refine lv_iload_n hx hb d_LX_endOf_5 rfl (lv_at hl 1 rfl) ?_
      refine lv_icmp_ge (tgt := 42) hx hb d_LX_endOf_6 (by decide) (fun hb_4 => ?_) (fun hb_4 => ?_)
      · skip
        have hn_5 : bd ≤ i := (nI_leI (a := bd) (b := i) (by omega) (by omega)).mp hb_4
        refine lv_iload hx hb d_LX_endOf_42 (lv_at hl 3 rfl) ?_
        exact em_iret hx hb hr hlocks hP hD hK hS () [0] (by decide) rfl ⟨_, rfl, ⟨i, rfl, by omega, by omega, fun _ => by omega⟩⟩ d_LX_endOf_44
      · skip
        have hn_6 : ¬ bd ≤ i := fun h => hb_4 ((nI_leI (a := bd) (b := i) (by omega) (by omega)).mpr h)
        refine lv_iload_n hx hb d_LX_endOf_9 rfl (lv_at hl 2 rfl) ?_
        refine lv_if_eq (tgt := 26) hx hb d_LX_endOf_10 (by decide) (fun hbr => absurd hbr (by decide)) (fun hbr => ?_)
        refine lv_aload_n hx hb d_LX_endOf_13 rfl (lv_at hl 0 rfl) ?_
        refine lv_iload hx hb d_LX_endOf_14 (lv_at hl 3 rfl) ?_
        refine va_cald hx hb hK hP 0 3 rfl rfl (vp_in_nI (n := i) (N := 240) (by omega) (by omega)) d_LX_endOf_16 ?_
        refine W.callR (W.runS (As := [.int (tx (nI i).toNatClampNeg)]) (rest := []) ⟨hx, hb, hml, hown, hG⟩ (lx_isLetter l D cI cL cZ cC f (tx (nI i).toNatClampNeg) ) (cwS 1 hG (gd_S k_543 k_544 k_108 k_545) rfl rfl rfl (by decide +kernel) ⟨Nat.le_of_ble_eq_true rfl, Nat.le_of_ble_eq_true rfl⟩) (wq_S hP hK [] rfl) rfl rfl hl.1 rfl (lv_room (Nat.le_of_ble_eq_true rfl)) d_LX_endOf_17 ⟨Nat.le_of_ble_eq_true rfl, Nat.le_of_ble_eq_true rfl⟩) ?_
        refine W.eq (g2 := F0 m 20 ls [.int (isLet (tx (nI i).toNatClampNeg))]) rfl ?_
        refine lv_if_eq (tgt := 42) hx hb d_LX_endOf_20 (by decide) (fun hb_7 => ?_) (fun hb_7 => ?_)
        · skip
          refine lv_iload hx hb d_LX_endOf_42 (lv_at hl 3 rfl) ?_
          exact em_iret hx hb hr hlocks hP hD hK hS () [0] (by decide) rfl ⟨_, rfl, ⟨i, rfl, by omega, by omega, fun h => (Nat.lt_or_ge fm i).elim id (fun h1 => absurd (show isLet (tx (nI fm).toNatClampNeg) = 0 by rw [show fm = i by omega]; exact hb_7) h)⟩⟩ d_LX_endOf_44
        · skip
          refine lv_goto (tgt := 36) hx hb d_LX_endOf_23 (by decide) ?_
          refine lv_iinc (k := 3) (v := nI (i + 1)) (lv' := [(4, .int (nI (i + 1))), (0, .ref (f 0)), (2, .int (nI bd)), (3, .int 1)]) hx hb d_LX_endOf_36 hl rfl (lw_inc i 1) (Nat.le_of_ble_eq_true rfl) rfl (fun ls hl => ?_)
          refine lv_goto (tgt := 3) hx hb d_LX_endOf_39 (by decide) ?_
          have hl := lv_sub (l' := [(0, .ref (f 0)), (2, .int (nI bd)), (3, .int 1), (4, .int (nI (i + 1)))]) hl [1, 2, 3, 0] rfl
          exact ih_3 (i + 1) _ _ _ (by omega) (by omega) (by omega) hl hP hD hS
  refine lv_iload_n hx hb d_LX_endOf_0 rfl (lv_at hl 1 rfl) ?_
  refine lv_istore (lv' := [(4, .int (nI fm)), (0, .ref (f 0)), (1, .int (nI fm)), (2, .int (nI bd)), (3, .int 1)]) hx hb d_LX_endOf_1 hl (Nat.le_of_ble_eq_true rfl) rfl (fun ls hl => ?_)
  have hl := lv_sub (l' := [(0, .ref (f 0)), (2, .int (nI bd)), (3, .int 1), (4, .int (nI fm))]) hl [1, 3, 4, 0] rfl
  exact loop_2 _ fm _ _ _ (Nat.lt_succ_self _) (by omega) (by omega) hl hP hD hS
set_option maxHeartbeats 8000000 in
set_option maxRecDepth 100000 in
theorem lx_endD (l : Launch) (D : va_G) (cI cL cZ cC : ClassId) (f : Nat → Nat) (tx : Nat → Int32) (fm : Nat) (bd : Nat) (sz : Nat) (hfm : fm < bd) (hbd : bd ≤ 240) (hnt : l.stackTraces = false) : em_Met l y_LX_endOf (wz y_LX_endOf b_LX_endOf 5 (some .int)) ({ frames := 1, cells := 0, slots := 0, locals := 20 }) (va_Pc [.ref (f 0), .int (nI fm), .int (nI bd), .int 0] (tw_pre D (tys4 cI cL cZ cC) [((f 0), .inl (cC, 240, .inl tx))] sz)) D (tys4 cI cL cZ cC) (va_A [((f 0), .inl (cC, 240, .inl tx))] sz) (fun (_ : Unit) => [((f 0), .inl (cC, 240, .inl tx))]) (fun v (_ : Unit) => ∃ r : Int32, v = some (.int r) ∧ ((∃ j : Nat, r = nI j ∧ fm ≤ j ∧ j ≤ bd ∧ (¬ isDig (tx (nI fm).toNatClampNeg) = 0 → fm < j)))) (fun C (_ : Unit) => False) 0 0 := by
  refine em_Met.ofW (cc := b_LX_endOf) (maxL := 5) (ret := (some .int)) (by decide) rfl ?_
  intro p e s m args below meth c s₁ B hml hv hno
  obtain ⟨rfl, ⟨hsz, hP, hK, hD0⟩, hE⟩ := hv
  have hx := B.exec
  have hb := B.bytes
  have hr := B.returns
  have hts := atoms_spec (ws := wz y_LX_endOf b_LX_endOf 5 (some .int)) B.pre
  have hG := wz_G hts
  have hown : s.vm.findClass rn_LX = some m.cls := findClass_of_methodNamed B.named
  have hlocks := B.notSynchronized
  subst hsz
  have hD := hD0.self (sz := s.heap.size)
  have hst := tw_st hP
  generalize hAe : va_A [((f 0), .inl (cC, 240, .inl tx))] s.heap.size = A at hD hst ⊢
  have hA : ∀ q : Nat, s.heap.size ≤ q → A q := fun q h => by rw [← hAe]; exact Or.inr h
  have hS : va_S A s.heap s.heap [] := va_S.rf
  have hl := lv_entry ([.ref (f 0), .int (nI fm), .int (nI bd), .int 0]) (n := 5) (Nat.le_of_ble_eq_true rfl)
  rw [lg_entry_eq]
  generalize (lg_sl ([.ref (f 0), .int (nI fm), .int (nI bd), .int 0]) ++ List.replicate (5 - (lg_sl ([.ref (f 0), .int (nI fm), .int (nI bd), .int 0])).length) Slot.unset).toArray = ls at hl ⊢
  have hl : lv_has ls 5 [(0, .ref (f 0)), (1, .int (nI fm)), (2, .int (nI bd)), (3, .int 0)] := hl
  have loop_2 : ∀ (k_1 : Nat) (i : Nat) (H : Heap) (locs : List Loc) (ls : Array Slot), bd - i < k_1 → (fm ≤ i) → (i ≤ bd) → lv_has ls 5 [(0, .ref (f 0)), (2, .int (nI bd)), (3, .int 0), (4, .int (nI i))] → va_P D classes [((f 0), .inl (cC, 240, .inl tx))] H → va_D A [((f 0), .inl (cC, 240, .inl tx))] → va_S A s.heap H locs → W p l e (headSpec (wz y_LX_endOf b_LX_endOf 5 (some .int)) ({ frames := 1, cells := 0, slots := 0, locals := 20 })).room s m ([.ref (f 0), .int (nI fm), .int (nI bd), .int 0] : List Value).toArray below meth c H locs 0 0 (em_MQ below D (tys4 cI cL cZ cC) A (fun (_ : Unit) => [((f 0), .inl (cC, 240, .inl tx))]) (fun v (_ : Unit) => ∃ r : Int32, v = some (.int r) ∧ ((∃ j : Nat, r = nI j ∧ fm ≤ j ∧ j ≤ bd ∧ (¬ isDig (tx (nI fm).toNatClampNeg) = 0 → fm < j)))) (fun C (_ : Unit) => False) s 0 0) (F0 m 3 ls []) := by
    intro k_1
    induction k_1 with
    | zero => intro i H locs ls hm; exact absurd hm (Nat.not_lt_zero _)
    | succ k_1 ih_3 =>
      intro i H locs ls hm hi1 hi2 hl hP hD hS
      refine lv_iload hx hb d_LX_endOf_3 (lv_at hl 3 rfl) ?_
      refine lv_iload_n hx hb d_LX_endOf_5 rfl (lv_at hl 1 rfl) ?_
      refine lv_icmp_ge (tgt := 42) hx hb d_LX_endOf_6 (by decide) (fun hb_4 => ?_) (fun hb_4 => ?_)
      · skip
        have hn_5 : bd ≤ i := (nI_leI (a := bd) (b := i) (by omega) (by omega)).mp hb_4
        refine lv_iload hx hb d_LX_endOf_42 (lv_at hl 3 rfl) ?_
        exact em_iret hx hb hr hlocks hP hD hK hS () [0] (by decide) rfl ⟨_, rfl, ⟨i, rfl, by omega, by omega, fun _ => by omega⟩⟩ d_LX_endOf_44
      · skip
        have hn_6 : ¬ bd ≤ i := fun h => hb_4 ((nI_leI (a := bd) (b := i) (by omega) (by omega)).mpr h)
        refine lv_iload_n hx hb d_LX_endOf_9 rfl (lv_at hl 2 rfl) ?_
        refine lv_if_eq (tgt := 26) hx hb d_LX_endOf_10 (by decide) (fun hbr => ?_) (fun hbr => absurd (by decide) hbr)
        refine lv_aload_n hx hb d_LX_endOf_26 rfl (lv_at hl 0 rfl) ?_
        refine lv_iload hx hb d_LX_endOf_27 (lv_at hl 3 rfl) ?_
        refine va_cald hx hb hK hP 0 3 rfl rfl (vp_in_nI (n := i) (N := 240) (by omega) (by omega)) d_LX_endOf_29 ?_
        refine W.callR (W.runS (As := [.int (tx (nI i).toNatClampNeg)]) (rest := []) ⟨hx, hb, hml, hown, hG⟩ (lx_isDigit l D cI cL cZ cC f (tx (nI i).toNatClampNeg) ) (cwS 1 hG (gd_S k_550 k_551 k_108 k_552) rfl rfl rfl (by decide +kernel) ⟨Nat.le_of_ble_eq_true rfl, Nat.le_of_ble_eq_true rfl⟩) (wq_S hP hK [] rfl) rfl rfl hl.1 rfl (lv_room (Nat.le_of_ble_eq_true rfl)) d_LX_endOf_30 ⟨Nat.le_of_ble_eq_true rfl, Nat.le_of_ble_eq_true rfl⟩) ?_
        refine W.eq (g2 := F0 m 33 ls [.int (isDig (tx (nI i).toNatClampNeg))]) rfl ?_
        refine lv_if_eq (tgt := 42) hx hb d_LX_endOf_33 (by decide) (fun hb_7 => ?_) (fun hb_7 => ?_)
        · skip
          refine lv_iload hx hb d_LX_endOf_42 (lv_at hl 3 rfl) ?_
          exact em_iret hx hb hr hlocks hP hD hK hS () [0] (by decide) rfl ⟨_, rfl, ⟨i, rfl, by omega, by omega, fun h => (Nat.lt_or_ge fm i).elim id (fun h1 => absurd (show isDig (tx (nI fm).toNatClampNeg) = 0 by rw [show fm = i by omega]; exact hb_7) h)⟩⟩ d_LX_endOf_44
        · skip
          refine lv_iinc (k := 3) (v := nI (i + 1)) (lv' := [(4, .int (nI (i + 1))), (0, .ref (f 0)), (2, .int (nI bd)), (3, .int 0)]) hx hb d_LX_endOf_36 hl rfl (lw_inc i 1) (Nat.le_of_ble_eq_true rfl) rfl (fun ls hl => ?_)
          refine lv_goto (tgt := 3) hx hb d_LX_endOf_39 (by decide) ?_
          have hl := lv_sub (l' := [(0, .ref (f 0)), (2, .int (nI bd)), (3, .int 0), (4, .int (nI (i + 1)))]) hl [1, 2, 3, 0] rfl
          exact ih_3 (i + 1) _ _ _ (by omega) (by omega) (by omega) hl hP hD hS
  refine lv_iload_n hx hb d_LX_endOf_0 rfl (lv_at hl 1 rfl) ?_
  refine lv_istore (lv' := [(4, .int (nI fm)), (0, .ref (f 0)), (1, .int (nI fm)), (2, .int (nI bd)), (3, .int 0)]) hx hb d_LX_endOf_1 hl (Nat.le_of_ble_eq_true rfl) rfl (fun ls hl => ?_)
  have hl := lv_sub (l' := [(0, .ref (f 0)), (2, .int (nI bd)), (3, .int 0), (4, .int (nI fm))]) hl [1, 3, 4, 0] rfl
  exact loop_2 _ fm _ _ _ (Nat.lt_succ_self _) (by omega) (by omega) hl hP hD hS
