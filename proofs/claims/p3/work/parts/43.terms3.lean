set_option maxHeartbeats 8000000 in
set_option maxRecDepth 100000 in
theorem tm_isK (l : Launch) (D : va_G) (cI cL cZ cC : ClassId) (f : Nat → Nat) (fs : Nat) (tb : Int32) (le : Nat → Int64) (ri : Nat → Int64) (wo : Nat → Int64) (fr : Nat → Int32) (od : Nat → Int32) (ha : Nat → Int32) (a : Int64) (sz : Nat) (hfs : fs ≤ 1024) (htb : (tb = 0 ∨ tb = 1)) (hle : wfa 1024 le) (hri : wfa 1024 ri) (hwo : wfa 1024 wo) (hfr : rng 1024 fr) (hod : rng 1024 od) (hha : bln ha) (hwa : wfw 1024 a) (hnt : l.stackTraces = false) : em_Met l y_TM_isK (wz y_TM_isK b_TM_isK 3 (some .boolean)) ({ frames := 1, cells := 0, slots := 0, locals := 21 }) (va_Pc [.ref (f 4), .long a] (tw_pre D (tys4 cI cL cZ cC) [((f 4), .inr (2, [.ref (f 5), .ref (f 6), .ref (f 7), .int (nI fs), .ref (f 8), .ref (f 9), .ref (f 10), .int tb])), ((f 5), .inl (cL, 1024, .inr (.inl le))), ((f 6), .inl (cL, 1024, .inr (.inl ri))), ((f 7), .inl (cI, 1024, .inl fr)), ((f 8), .inl (cI, 1024, .inl od)), ((f 9), .inl (cZ, 1024, .inl ha)), ((f 10), .inl (cL, 1024, .inr (.inl wo)))] sz)) D (tys4 cI cL cZ cC) (va_A [((f 4), .inr (2, [.ref (f 5), .ref (f 6), .ref (f 7), .int (nI fs), .ref (f 8), .ref (f 9), .ref (f 10), .int tb])), ((f 5), .inl (cL, 1024, .inr (.inl le))), ((f 6), .inl (cL, 1024, .inr (.inl ri))), ((f 7), .inl (cI, 1024, .inl fr)), ((f 8), .inl (cI, 1024, .inl od)), ((f 9), .inl (cZ, 1024, .inl ha)), ((f 10), .inl (cL, 1024, .inr (.inl wo)))] sz) (fun (_ : Unit) => [((f 4), .inr (2, [.ref (f 5), .ref (f 6), .ref (f 7), .int (nI fs), .ref (f 8), .ref (f 9), .ref (f 10), .int tb])), ((f 5), .inl (cL, 1024, .inr (.inl le))), ((f 6), .inl (cL, 1024, .inr (.inl ri))), ((f 7), .inl (cI, 1024, .inl fr)), ((f 8), .inl (cI, 1024, .inl od)), ((f 9), .inl (cZ, 1024, .inl ha)), ((f 10), .inl (cL, 1024, .inr (.inl wo)))]) (fun v (_ : Unit) => ∃ r : Int32, v = some (.int r) ∧ ((r = 0 ∨ (r = 1 ∧ ¬ wcell a = 0)))) (fun C (_ : Unit) => False) 0 0 := by
  refine em_Met.ofW (cc := b_TM_isK) (maxL := 3) (ret := (some .boolean)) (by decide) rfl ?_
  intro p e s m args below meth c s₁ B hml hv hno
  obtain ⟨rfl, ⟨hsz, hP, hK, hD0⟩, hE⟩ := hv
  have hx := B.exec
  have hb := B.bytes
  have hr := B.returns
  have hts := atoms_spec (ws := wz y_TM_isK b_TM_isK 3 (some .boolean)) B.pre
  have hG := wz_G hts
  have hown : s.vm.findClass rn_TM = some m.cls := findClass_of_methodNamed B.named
  have hlocks := B.notSynchronized
  subst hsz
  have hD := hD0.self (sz := s.heap.size)
  have hst := tw_st hP
  generalize hAe : va_A [((f 4), .inr (2, [.ref (f 5), .ref (f 6), .ref (f 7), .int (nI fs), .ref (f 8), .ref (f 9), .ref (f 10), .int tb])), ((f 5), .inl (cL, 1024, .inr (.inl le))), ((f 6), .inl (cL, 1024, .inr (.inl ri))), ((f 7), .inl (cI, 1024, .inl fr)), ((f 8), .inl (cI, 1024, .inl od)), ((f 9), .inl (cZ, 1024, .inl ha)), ((f 10), .inl (cL, 1024, .inr (.inl wo)))] s.heap.size = A at hD hst ⊢
  have hA : ∀ q : Nat, s.heap.size ≤ q → A q := fun q h => by rw [← hAe]; exact Or.inr h
  have hS : va_S A s.heap s.heap [] := va_S.rf
  have hl := lv_entry ([.ref (f 4), .long a]) (n := 3) (Nat.le_of_ble_eq_true rfl)
  rw [lg_entry_eq]
  generalize (lg_sl ([.ref (f 4), .long a]) ++ List.replicate (3 - (lg_sl ([.ref (f 4), .long a])).length) Slot.unset).toArray = ls at hl ⊢
  have hl : lv_has ls 3 [(0, .ref (f 4)), (1, .long a)] := hl
  refine lv_lload_n hx hb d_TM_isK_0 rfl (lv_at hl 1 rfl) ?_
  refine W.callR (W.runS (As := [.long a]) (rest := []) ⟨hx, hb, hml, hown, hG⟩ (wd_isCell l D cI cL cZ cC a ) (va_cwS 1 hG (gd_T k_752 k_753 k_127 k_754) rfl rfl rfl (by decide +kernel) ⟨Nat.le_of_ble_eq_true rfl, Nat.le_of_ble_eq_true rfl⟩) (wq_S hP hK [] rfl) rfl rfl hl.1 rfl (lv_room (Nat.le_of_ble_eq_true rfl)) d_TM_isK_1 ⟨Nat.le_of_ble_eq_true rfl, Nat.le_of_ble_eq_true rfl⟩) ?_
  refine W.eq (g2 := F0 m 4 ls [.int (wcell a)]) rfl ?_
  refine lv_if_eq (tgt := 28) hx hb d_TM_isK_4 (by decide) (fun hb_1 => ?_) (fun hb_1 => ?_)
  · skip
    refine lv_iconst (v := 0) hx hb d_TM_isK_28 (by decide) ?_
    exact em_zret hx hb hr hlocks rfl hP hD hK hS () [0, 1, 2, 3, 4, 5, 6] (by decide) rfl ⟨_, rfl, (Or.inl rfl)⟩ d_TM_isK_29
  · skip
    obtain ⟨j_2, hj_2, ej_2⟩ := wcell_t hwa hb_1
    refine lv_aload_n hx hb d_TM_isK_7 rfl (lv_at hl 0 rfl) ?_
    refine va_get (D := D) (ci := 2) (v := .ref (f 5)) (C := rn_TM) (T := fl_TM) (N := 8) hx hb hG in_TM hown hK hP 0 rfl rfl 0 (by decide) (hG _ k_162) (fun _ h9 => h9) rfl d_TM_isK_8 ?_
    refine lv_lload_n hx hb d_TM_isK_11 rfl (lv_at hl 1 rfl) ?_
    refine W.callR (W.runS (As := [.long a]) (rest := [.ref (f 5)]) ⟨hx, hb, hml, hown, hG⟩ (wd_number l D cI cL cZ cC a ) (va_cwS 1 hG (gd_T k_755 k_756 k_127 k_757) rfl rfl rfl (by decide +kernel) ⟨Nat.le_of_ble_eq_true rfl, Nat.le_of_ble_eq_true rfl⟩) (wq_S hP hK [] rfl) rfl rfl hl.1 rfl (lv_room (Nat.le_of_ble_eq_true rfl)) d_TM_isK_12 ⟨Nat.le_of_ble_eq_true rfl, Nat.le_of_ble_eq_true rfl⟩) ?_
    refine W.eq (g2 := F0 m 15 ls [.int a.toInt32, .ref (f 5)]) rfl ?_
    refine W.eq (g2 := F0 m 15 ls [.int (nI j_2), .ref (f 5)]) (by rw [ej_2]) ?_
    refine va_lald hx hb hK hP 1 1 rfl rfl (vp_in_nI (n := j_2) (N := 1024) (by omega) (by omega)) d_TM_isK_15 ?_
    refine lv_topl (fun w_3 ew_3 => ?_)
    have hw_3 : wfw 1024 w_3 := by rw [ew_3]; exact hle _
    refine lv_iconst (v := 3) hx hb d_TM_isK_16 (by decide) ?_
    refine W.callRL (W.runS (As := [.int 3]) (rest := [.long w_3]) ⟨hx, hb, hml, hown, hG⟩ (wd_constant l D cI cL cZ cC 3 ) (va_cwS 1 hG (gd_T k_728 k_729 k_127 k_730) rfl rfl rfl (by decide +kernel) ⟨Nat.le_of_ble_eq_true rfl, Nat.le_of_ble_eq_true rfl⟩) (wq_S hP hK [] rfl) rfl rfl hl.1 rfl (lv_room (Nat.le_of_ble_eq_true rfl)) d_TM_isK_17 ⟨Nat.le_of_ble_eq_true rfl, Nat.le_of_ble_eq_true rfl⟩) ?_
    refine W.eq (g2 := F0 m 20 ls [.long (wcon 3), .long w_3]) rfl ?_
    refine W.lcmp hx hb d_TM_isK_20 ?_
    refine lv_if_ne (tgt := 28) hx hb d_TM_isK_21 (by decide) (fun hb_4 => ?_) (fun hb_4 => ?_)
    · skip
      refine lv_iconst (v := 0) hx hb d_TM_isK_28 (by decide) ?_
      exact em_zret hx hb hr hlocks rfl hP hD hK hS () [0, 1, 2, 3, 4, 5, 6] (by decide) rfl ⟨_, rfl, (Or.inl rfl)⟩ d_TM_isK_29
    · skip
      refine lv_iconst (v := 1) hx hb d_TM_isK_24 (by decide) ?_
      refine lv_goto (tgt := 29) hx hb d_TM_isK_25 (by decide) ?_
      exact em_zret hx hb hr hlocks rfl hP hD hK hS () [0, 1, 2, 3, 4, 5, 6] (by decide) rfl ⟨_, rfl, (Or.inr ⟨rfl, hb_1⟩)⟩ d_TM_isK_29
set_option maxHeartbeats 8000000 in
set_option maxRecDepth 100000 in
theorem tm_isB (l : Launch) (D : va_G) (cI cL cZ cC : ClassId) (f : Nat → Nat) (fs : Nat) (tb : Int32) (le : Nat → Int64) (ri : Nat → Int64) (wo : Nat → Int64) (fr : Nat → Int32) (od : Nat → Int32) (ha : Nat → Int32) (a : Int64) (sz : Nat) (hfs : fs ≤ 1024) (htb : (tb = 0 ∨ tb = 1)) (hle : wfa 1024 le) (hri : wfa 1024 ri) (hwo : wfa 1024 wo) (hfr : rng 1024 fr) (hod : rng 1024 od) (hha : bln ha) (hwa : wfw 1024 a) (hnt : l.stackTraces = false) : em_Met l y_TM_isB (wz y_TM_isB b_TM_isB 5 (some .boolean)) ({ frames := 1, cells := 0, slots := 0, locals := 21 }) (va_Pc [.ref (f 4), .long a] (tw_pre D (tys4 cI cL cZ cC) [((f 4), .inr (2, [.ref (f 5), .ref (f 6), .ref (f 7), .int (nI fs), .ref (f 8), .ref (f 9), .ref (f 10), .int tb])), ((f 5), .inl (cL, 1024, .inr (.inl le))), ((f 6), .inl (cL, 1024, .inr (.inl ri))), ((f 7), .inl (cI, 1024, .inl fr)), ((f 8), .inl (cI, 1024, .inl od)), ((f 9), .inl (cZ, 1024, .inl ha)), ((f 10), .inl (cL, 1024, .inr (.inl wo)))] sz)) D (tys4 cI cL cZ cC) (va_A [((f 4), .inr (2, [.ref (f 5), .ref (f 6), .ref (f 7), .int (nI fs), .ref (f 8), .ref (f 9), .ref (f 10), .int tb])), ((f 5), .inl (cL, 1024, .inr (.inl le))), ((f 6), .inl (cL, 1024, .inr (.inl ri))), ((f 7), .inl (cI, 1024, .inl fr)), ((f 8), .inl (cI, 1024, .inl od)), ((f 9), .inl (cZ, 1024, .inl ha)), ((f 10), .inl (cL, 1024, .inr (.inl wo)))] sz) (fun (_ : Unit) => [((f 4), .inr (2, [.ref (f 5), .ref (f 6), .ref (f 7), .int (nI fs), .ref (f 8), .ref (f 9), .ref (f 10), .int tb])), ((f 5), .inl (cL, 1024, .inr (.inl le))), ((f 6), .inl (cL, 1024, .inr (.inl ri))), ((f 7), .inl (cI, 1024, .inl fr)), ((f 8), .inl (cI, 1024, .inl od)), ((f 9), .inl (cZ, 1024, .inl ha)), ((f 10), .inl (cL, 1024, .inr (.inl wo)))]) (fun v (_ : Unit) => ∃ r : Int32, v = some (.int r) ∧ ((r = 0 ∨ (r = 1 ∧ ¬ wcell a = 0 ∧ ¬ wcell (le a.toInt32.toNatClampNeg) = 0)))) (fun C (_ : Unit) => False) 0 0 := by
  refine em_Met.ofW (cc := b_TM_isB) (maxL := 5) (ret := (some .boolean)) (by decide) rfl ?_
  intro p e s m args below meth c s₁ B hml hv hno
  obtain ⟨rfl, ⟨hsz, hP, hK, hD0⟩, hE⟩ := hv
  have hx := B.exec
  have hb := B.bytes
  have hr := B.returns
  have hts := atoms_spec (ws := wz y_TM_isB b_TM_isB 5 (some .boolean)) B.pre
  have hG := wz_G hts
  have hown : s.vm.findClass rn_TM = some m.cls := findClass_of_methodNamed B.named
  have hlocks := B.notSynchronized
  subst hsz
  have hD := hD0.self (sz := s.heap.size)
  have hst := tw_st hP
  generalize hAe : va_A [((f 4), .inr (2, [.ref (f 5), .ref (f 6), .ref (f 7), .int (nI fs), .ref (f 8), .ref (f 9), .ref (f 10), .int tb])), ((f 5), .inl (cL, 1024, .inr (.inl le))), ((f 6), .inl (cL, 1024, .inr (.inl ri))), ((f 7), .inl (cI, 1024, .inl fr)), ((f 8), .inl (cI, 1024, .inl od)), ((f 9), .inl (cZ, 1024, .inl ha)), ((f 10), .inl (cL, 1024, .inr (.inl wo)))] s.heap.size = A at hD hst ⊢
  have hA : ∀ q : Nat, s.heap.size ≤ q → A q := fun q h => by rw [← hAe]; exact Or.inr h
  have hS : va_S A s.heap s.heap [] := va_S.rf
  have hl := lv_entry ([.ref (f 4), .long a]) (n := 5) (Nat.le_of_ble_eq_true rfl)
  rw [lg_entry_eq]
  generalize (lg_sl ([.ref (f 4), .long a]) ++ List.replicate (5 - (lg_sl ([.ref (f 4), .long a])).length) Slot.unset).toArray = ls at hl ⊢
  have hl : lv_has ls 5 [(0, .ref (f 4)), (1, .long a)] := hl
  refine lv_lload_n hx hb d_TM_isB_0 rfl (lv_at hl 1 rfl) ?_
  refine W.callR (W.runS (As := [.long a]) (rest := []) ⟨hx, hb, hml, hown, hG⟩ (wd_isCell l D cI cL cZ cC a ) (va_cwS 1 hG (gd_T k_752 k_753 k_127 k_754) rfl rfl rfl (by decide +kernel) ⟨Nat.le_of_ble_eq_true rfl, Nat.le_of_ble_eq_true rfl⟩) (wq_S hP hK [] rfl) rfl rfl hl.1 rfl (lv_room (Nat.le_of_ble_eq_true rfl)) d_TM_isB_1 ⟨Nat.le_of_ble_eq_true rfl, Nat.le_of_ble_eq_true rfl⟩) ?_
  refine W.eq (g2 := F0 m 4 ls [.int (wcell a)]) rfl ?_
  refine lv_if_ne (tgt := 9) hx hb d_TM_isB_4 (by decide) (fun hb_1 => ?_) (fun hb_1 => ?_)
  · skip
    obtain ⟨j_2, hj_2, ej_2⟩ := wcell_t hwa hb_1
    refine lv_aload_n hx hb d_TM_isB_9 rfl (lv_at hl 0 rfl) ?_
    refine va_get (D := D) (ci := 2) (v := .ref (f 5)) (C := rn_TM) (T := fl_TM) (N := 8) hx hb hG in_TM hown hK hP 0 rfl rfl 0 (by decide) (hG _ k_162) (fun _ h9 => h9) rfl d_TM_isB_10 ?_
    refine lv_lload_n hx hb d_TM_isB_13 rfl (lv_at hl 1 rfl) ?_
    refine W.callR (W.runS (As := [.long a]) (rest := [.ref (f 5)]) ⟨hx, hb, hml, hown, hG⟩ (wd_number l D cI cL cZ cC a ) (va_cwS 1 hG (gd_T k_755 k_756 k_127 k_757) rfl rfl rfl (by decide +kernel) ⟨Nat.le_of_ble_eq_true rfl, Nat.le_of_ble_eq_true rfl⟩) (wq_S hP hK [] rfl) rfl rfl hl.1 rfl (lv_room (Nat.le_of_ble_eq_true rfl)) d_TM_isB_14 ⟨Nat.le_of_ble_eq_true rfl, Nat.le_of_ble_eq_true rfl⟩) ?_
    refine W.eq (g2 := F0 m 17 ls [.int a.toInt32, .ref (f 5)]) rfl ?_
    refine W.eq (g2 := F0 m 17 ls [.int (nI j_2), .ref (f 5)]) (by rw [ej_2]) ?_
    refine va_lald hx hb hK hP 1 1 rfl rfl (vp_in_nI (n := j_2) (N := 1024) (by omega) (by omega)) d_TM_isB_17 ?_
    refine lv_topl (fun w_3 ew_3 => ?_)
    have hw_3 : wfw 1024 w_3 := by rw [ew_3]; exact hle _
    refine lv_lstore_n (lv' := [(3, .long w_3), (0, .ref (f 4)), (1, .long a)]) hx hb d_TM_isB_18 rfl hl (Nat.le_of_ble_eq_true rfl) rfl (fun ls hl => ?_)
    refine lv_lload_n hx hb d_TM_isB_19 rfl (lv_at hl 0 rfl) ?_
    refine W.callR (W.runS (As := [.long w_3]) (rest := []) ⟨hx, hb, hml, hown, hG⟩ (wd_isCell l D cI cL cZ cC w_3 ) (va_cwS 1 hG (gd_T k_752 k_753 k_127 k_754) rfl rfl rfl (by decide +kernel) ⟨Nat.le_of_ble_eq_true rfl, Nat.le_of_ble_eq_true rfl⟩) (wq_S hP hK [] rfl) rfl rfl hl.1 rfl (lv_room (Nat.le_of_ble_eq_true rfl)) d_TM_isB_20 ⟨Nat.le_of_ble_eq_true rfl, Nat.le_of_ble_eq_true rfl⟩) ?_
    refine W.eq (g2 := F0 m 23 ls [.int (wcell w_3)]) rfl ?_
    refine lv_if_eq (tgt := 47) hx hb d_TM_isB_23 (by decide) (fun hb_4 => ?_) (fun hb_4 => ?_)
    · skip
      refine lv_iconst (v := 0) hx hb d_TM_isB_47 (by decide) ?_
      exact em_zret hx hb hr hlocks rfl hP hD hK hS () [0, 1, 2, 3, 4, 5, 6] (by decide) rfl ⟨_, rfl, (Or.inl rfl)⟩ d_TM_isB_48
    · skip
      obtain ⟨j_5, hj_5, ej_5⟩ := wcell_t hw_3 hb_4
      refine lv_aload_n hx hb d_TM_isB_26 rfl (lv_at hl 1 rfl) ?_
      refine va_get (D := D) (ci := 2) (v := .ref (f 5)) (C := rn_TM) (T := fl_TM) (N := 8) hx hb hG in_TM hown hK hP 0 rfl rfl 0 (by decide) (hG _ k_162) (fun _ h9 => h9) rfl d_TM_isB_27 ?_
      refine lv_lload_n hx hb d_TM_isB_30 rfl (lv_at hl 0 rfl) ?_
      refine W.callR (W.runS (As := [.long w_3]) (rest := [.ref (f 5)]) ⟨hx, hb, hml, hown, hG⟩ (wd_number l D cI cL cZ cC w_3 ) (va_cwS 1 hG (gd_T k_755 k_756 k_127 k_757) rfl rfl rfl (by decide +kernel) ⟨Nat.le_of_ble_eq_true rfl, Nat.le_of_ble_eq_true rfl⟩) (wq_S hP hK [] rfl) rfl rfl hl.1 rfl (lv_room (Nat.le_of_ble_eq_true rfl)) d_TM_isB_31 ⟨Nat.le_of_ble_eq_true rfl, Nat.le_of_ble_eq_true rfl⟩) ?_
      refine W.eq (g2 := F0 m 34 ls [.int w_3.toInt32, .ref (f 5)]) rfl ?_
      refine W.eq (g2 := F0 m 34 ls [.int (nI j_5), .ref (f 5)]) (by rw [ej_5]) ?_
      refine va_lald hx hb hK hP 1 1 rfl rfl (vp_in_nI (n := j_5) (N := 1024) (by omega) (by omega)) d_TM_isB_34 ?_
      refine lv_topl (fun w_6 ew_6 => ?_)
      have hw_6 : wfw 1024 w_6 := by rw [ew_6]; exact hle _
      refine lv_iconst (v := 5) hx hb d_TM_isB_35 (by decide) ?_
      refine W.callRL (W.runS (As := [.int 5]) (rest := [.long w_6]) ⟨hx, hb, hml, hown, hG⟩ (wd_constant l D cI cL cZ cC 5 ) (va_cwS 1 hG (gd_T k_728 k_729 k_127 k_730) rfl rfl rfl (by decide +kernel) ⟨Nat.le_of_ble_eq_true rfl, Nat.le_of_ble_eq_true rfl⟩) (wq_S hP hK [] rfl) rfl rfl hl.1 rfl (lv_room (Nat.le_of_ble_eq_true rfl)) d_TM_isB_36 ⟨Nat.le_of_ble_eq_true rfl, Nat.le_of_ble_eq_true rfl⟩) ?_
      refine W.eq (g2 := F0 m 39 ls [.long (wcon 5), .long w_6]) rfl ?_
      refine W.lcmp hx hb d_TM_isB_39 ?_
      refine lv_if_ne (tgt := 47) hx hb d_TM_isB_40 (by decide) (fun hb_7 => ?_) (fun hb_7 => ?_)
      · skip
        refine lv_iconst (v := 0) hx hb d_TM_isB_47 (by decide) ?_
        exact em_zret hx hb hr hlocks rfl hP hD hK hS () [0, 1, 2, 3, 4, 5, 6] (by decide) rfl ⟨_, rfl, (Or.inl rfl)⟩ d_TM_isB_48
      · skip
        refine lv_iconst (v := 1) hx hb d_TM_isB_43 (by decide) ?_
        refine lv_goto (tgt := 48) hx hb d_TM_isB_44 (by decide) ?_
        exact em_zret hx hb hr hlocks rfl hP hD hK hS () [0, 1, 2, 3, 4, 5, 6] (by decide) rfl ⟨_, rfl, (Or.inr ⟨rfl, hb_1, by rw [ej_2, ← ew_3]; exact hb_4⟩)⟩ d_TM_isB_48
  · skip
    refine lv_iconst (v := 0) hx hb d_TM_isB_7 (by decide) ?_
    exact em_zret hx hb hr hlocks rfl hP hD hK hS () [0, 1, 2, 3, 4, 5, 6] (by decide) rfl ⟨_, rfl, (Or.inl rfl)⟩ d_TM_isB_8
set_option maxHeartbeats 8000000 in
set_option maxRecDepth 100000 in
theorem tm_hasName (l : Launch) (D : va_G) (cI cL cZ cC : ClassId) (f : Nat → Nat) (fs : Nat) (tb : Int32) (le : Nat → Int64) (ri : Nat → Int64) (wo : Nat → Int64) (fr : Nat → Int32) (od : Nat → Int32) (ha : Nat → Int32) (a : Int64) (b : Int64) (sz : Nat) (hfs : fs ≤ 1024) (htb : (tb = 0 ∨ tb = 1)) (hle : wfa 1024 le) (hri : wfa 1024 ri) (hwo : wfa 1024 wo) (hfr : rng 1024 fr) (hod : rng 1024 od) (hha : bln ha) (hwa : wfw 1024 a) (hnt : l.stackTraces = false) : em_Met l y_TM_hasName (wz y_TM_hasName b_TM_hasName 5 (some .boolean)) ({ frames := 1, cells := 0, slots := 0, locals := 21 }) (va_Pc [.ref (f 4), .long a, .long b] (tw_pre D (tys4 cI cL cZ cC) [((f 4), .inr (2, [.ref (f 5), .ref (f 6), .ref (f 7), .int (nI fs), .ref (f 8), .ref (f 9), .ref (f 10), .int tb])), ((f 5), .inl (cL, 1024, .inr (.inl le))), ((f 6), .inl (cL, 1024, .inr (.inl ri))), ((f 7), .inl (cI, 1024, .inl fr)), ((f 8), .inl (cI, 1024, .inl od)), ((f 9), .inl (cZ, 1024, .inl ha)), ((f 10), .inl (cL, 1024, .inr (.inl wo)))] sz)) D (tys4 cI cL cZ cC) (va_A [((f 4), .inr (2, [.ref (f 5), .ref (f 6), .ref (f 7), .int (nI fs), .ref (f 8), .ref (f 9), .ref (f 10), .int tb])), ((f 5), .inl (cL, 1024, .inr (.inl le))), ((f 6), .inl (cL, 1024, .inr (.inl ri))), ((f 7), .inl (cI, 1024, .inl fr)), ((f 8), .inl (cI, 1024, .inl od)), ((f 9), .inl (cZ, 1024, .inl ha)), ((f 10), .inl (cL, 1024, .inr (.inl wo)))] sz) (fun (_ : Unit) => [((f 4), .inr (2, [.ref (f 5), .ref (f 6), .ref (f 7), .int (nI fs), .ref (f 8), .ref (f 9), .ref (f 10), .int tb])), ((f 5), .inl (cL, 1024, .inr (.inl le))), ((f 6), .inl (cL, 1024, .inr (.inl ri))), ((f 7), .inl (cI, 1024, .inl fr)), ((f 8), .inl (cI, 1024, .inl od)), ((f 9), .inl (cZ, 1024, .inl ha)), ((f 10), .inl (cL, 1024, .inr (.inl wo)))]) (fun v (_ : Unit) => ∃ r : Int32, v = some (.int r) ∧ ((r = 0 ∨ r = 1))) (fun C (_ : Unit) => False) 0 0 := by
  refine em_Met.ofW (cc := b_TM_hasName) (maxL := 5) (ret := (some .boolean)) (by decide) rfl ?_
  intro p e s m args below meth c s₁ B hml hv hno
  obtain ⟨rfl, ⟨hsz, hP, hK, hD0⟩, hE⟩ := hv
  have hx := B.exec
  have hb := B.bytes
  have hr := B.returns
  have hts := atoms_spec (ws := wz y_TM_hasName b_TM_hasName 5 (some .boolean)) B.pre
  have hG := wz_G hts
  have hown : s.vm.findClass rn_TM = some m.cls := findClass_of_methodNamed B.named
  have hlocks := B.notSynchronized
  subst hsz
  have hD := hD0.self (sz := s.heap.size)
  have hst := tw_st hP
  generalize hAe : va_A [((f 4), .inr (2, [.ref (f 5), .ref (f 6), .ref (f 7), .int (nI fs), .ref (f 8), .ref (f 9), .ref (f 10), .int tb])), ((f 5), .inl (cL, 1024, .inr (.inl le))), ((f 6), .inl (cL, 1024, .inr (.inl ri))), ((f 7), .inl (cI, 1024, .inl fr)), ((f 8), .inl (cI, 1024, .inl od)), ((f 9), .inl (cZ, 1024, .inl ha)), ((f 10), .inl (cL, 1024, .inr (.inl wo)))] s.heap.size = A at hD hst ⊢
  have hA : ∀ q : Nat, s.heap.size ≤ q → A q := fun q h => by rw [← hAe]; exact Or.inr h
  have hS : va_S A s.heap s.heap [] := va_S.rf
  have hl := lv_entry ([.ref (f 4), .long a, .long b]) (n := 5) (Nat.le_of_ble_eq_true rfl)
  rw [lg_entry_eq]
  generalize (lg_sl ([.ref (f 4), .long a, .long b]) ++ List.replicate (5 - (lg_sl ([.ref (f 4), .long a, .long b])).length) Slot.unset).toArray = ls at hl ⊢
  have hl : lv_has ls 5 [(0, .ref (f 4)), (1, .long a), (3, .long b)] := hl
  refine lv_lload_n hx hb d_TM_hasName_0 rfl (lv_at hl 1 rfl) ?_
  refine W.callR (W.runS (As := [.long a]) (rest := []) ⟨hx, hb, hml, hown, hG⟩ (wd_isCell l D cI cL cZ cC a ) (va_cwS 1 hG (gd_T k_752 k_753 k_127 k_754) rfl rfl rfl (by decide +kernel) ⟨Nat.le_of_ble_eq_true rfl, Nat.le_of_ble_eq_true rfl⟩) (wq_S hP hK [] rfl) rfl rfl hl.1 rfl (lv_room (Nat.le_of_ble_eq_true rfl)) d_TM_hasName_1 ⟨Nat.le_of_ble_eq_true rfl, Nat.le_of_ble_eq_true rfl⟩) ?_
  refine W.eq (g2 := F0 m 4 ls [.int (wcell a)]) rfl ?_
  refine lv_if_eq (tgt := 19) hx hb d_TM_hasName_4 (by decide) (fun hb_1 => ?_) (fun hb_1 => ?_)
  · skip
    refine lv_lload_n hx hb d_TM_hasName_19 rfl (lv_at hl 1 rfl) ?_
    refine lv_lload_n hx hb d_TM_hasName_20 rfl (lv_at hl 2 rfl) ?_
    refine W.lcmp hx hb d_TM_hasName_21 ?_
    refine lv_if_ne (tgt := 29) hx hb d_TM_hasName_22 (by decide) (fun hb_2 => ?_) (fun hb_2 => ?_)
    · skip
      refine lv_iconst (v := 0) hx hb d_TM_hasName_29 (by decide) ?_
      exact em_zret hx hb hr hlocks rfl hP hD hK hS () [0, 1, 2, 3, 4, 5, 6] (by decide) rfl ⟨_, rfl, (Or.inl rfl)⟩ d_TM_hasName_30
    · skip
      refine lv_iconst (v := 1) hx hb d_TM_hasName_25 (by decide) ?_
      refine lv_goto (tgt := 30) hx hb d_TM_hasName_26 (by decide) ?_
      exact em_zret hx hb hr hlocks rfl hP hD hK hS () [0, 1, 2, 3, 4, 5, 6] (by decide) rfl ⟨_, rfl, (Or.inr rfl)⟩ d_TM_hasName_30
  · skip
    obtain ⟨j_3, hj_3, ej_3⟩ := wcell_t hwa hb_1
    refine lv_aload_n hx hb d_TM_hasName_7 rfl (lv_at hl 0 rfl) ?_
    refine va_get (D := D) (ci := 2) (v := .ref (f 9)) (C := rn_TM) (T := fl_TM) (N := 8) hx hb hG in_TM hown hK hP 0 rfl rfl 5 (by decide) (hG _ k_167) (fun _ h9 => h9) rfl d_TM_hasName_8 ?_
    refine lv_lload_n hx hb d_TM_hasName_11 rfl (lv_at hl 1 rfl) ?_
    refine W.callR (W.runS (As := [.long a]) (rest := [.ref (f 9)]) ⟨hx, hb, hml, hown, hG⟩ (wd_number l D cI cL cZ cC a ) (va_cwS 1 hG (gd_T k_755 k_756 k_127 k_757) rfl rfl rfl (by decide +kernel) ⟨Nat.le_of_ble_eq_true rfl, Nat.le_of_ble_eq_true rfl⟩) (wq_S hP hK [] rfl) rfl rfl hl.1 rfl (lv_room (Nat.le_of_ble_eq_true rfl)) d_TM_hasName_12 ⟨Nat.le_of_ble_eq_true rfl, Nat.le_of_ble_eq_true rfl⟩) ?_
    refine W.eq (g2 := F0 m 15 ls [.int a.toInt32, .ref (f 9)]) rfl ?_
    refine W.eq (g2 := F0 m 15 ls [.int (nI j_3), .ref (f 9)]) (by rw [ej_3]) ?_
    refine va_zald hx hb hK hP 5 2 rfl rfl (vp_in_nI (n := j_3) (N := 1024) (by omega) (by omega)) d_TM_hasName_15 ?_
    refine lv_topi (fun v_4 ev_4 => ?_)
    have hv_4 : v_4 = 0 ∨ v_4 = 1 := by rw [ev_4]; exact hha _
    refine lv_goto (tgt := 30) hx hb d_TM_hasName_16 (by decide) ?_
    exact em_zret hx hb hr hlocks (bln_n hv_4) hP hD hK hS () [0, 1, 2, 3, 4, 5, 6] (by decide) rfl ⟨_, rfl, hv_4⟩ d_TM_hasName_30
set_option maxHeartbeats 8000000 in
set_option maxRecDepth 100000 in
theorem tm_withoutName (l : Launch) (D : va_G) (cI cL cZ cC : ClassId) (f : Nat → Nat) (fs : Nat) (tb : Int32) (le : Nat → Int64) (ri : Nat → Int64) (wo : Nat → Int64) (fr : Nat → Int32) (od : Nat → Int32) (ha : Nat → Int32) (a : Int64) (sz : Nat) (hfs : fs ≤ 1024) (htb : (tb = 0 ∨ tb = 1)) (hle : wfa 1024 le) (hri : wfa 1024 ri) (hwo : wfa 1024 wo) (hfr : rng 1024 fr) (hod : rng 1024 od) (hha : bln ha) (hwa : wfw 1024 a) (hnt : l.stackTraces = false) : em_Met l y_TM_withoutName (wz y_TM_withoutName b_TM_withoutName 3 (some .long)) ({ frames := 1, cells := 0, slots := 0, locals := 21 }) (va_Pc [.ref (f 4), .long a] (tw_pre D (tys4 cI cL cZ cC) [((f 4), .inr (2, [.ref (f 5), .ref (f 6), .ref (f 7), .int (nI fs), .ref (f 8), .ref (f 9), .ref (f 10), .int tb])), ((f 5), .inl (cL, 1024, .inr (.inl le))), ((f 6), .inl (cL, 1024, .inr (.inl ri))), ((f 7), .inl (cI, 1024, .inl fr)), ((f 8), .inl (cI, 1024, .inl od)), ((f 9), .inl (cZ, 1024, .inl ha)), ((f 10), .inl (cL, 1024, .inr (.inl wo)))] sz)) D (tys4 cI cL cZ cC) (va_A [((f 4), .inr (2, [.ref (f 5), .ref (f 6), .ref (f 7), .int (nI fs), .ref (f 8), .ref (f 9), .ref (f 10), .int tb])), ((f 5), .inl (cL, 1024, .inr (.inl le))), ((f 6), .inl (cL, 1024, .inr (.inl ri))), ((f 7), .inl (cI, 1024, .inl fr)), ((f 8), .inl (cI, 1024, .inl od)), ((f 9), .inl (cZ, 1024, .inl ha)), ((f 10), .inl (cL, 1024, .inr (.inl wo)))] sz) (fun (_ : Unit) => [((f 4), .inr (2, [.ref (f 5), .ref (f 6), .ref (f 7), .int (nI fs), .ref (f 8), .ref (f 9), .ref (f 10), .int tb])), ((f 5), .inl (cL, 1024, .inr (.inl le))), ((f 6), .inl (cL, 1024, .inr (.inl ri))), ((f 7), .inl (cI, 1024, .inl fr)), ((f 8), .inl (cI, 1024, .inl od)), ((f 9), .inl (cZ, 1024, .inl ha)), ((f 10), .inl (cL, 1024, .inr (.inl wo)))]) (fun v (_ : Unit) => ∃ r : Int64, v = some (.long r) ∧ (wfw 1024 r)) (fun C (_ : Unit) => False) 0 0 := by
  refine em_Met.ofW (cc := b_TM_withoutName) (maxL := 3) (ret := (some .long)) (by decide) rfl ?_
  intro p e s m args below meth c s₁ B hml hv hno
  obtain ⟨rfl, ⟨hsz, hP, hK, hD0⟩, hE⟩ := hv
  have hx := B.exec
  have hb := B.bytes
  have hr := B.returns
  have hts := atoms_spec (ws := wz y_TM_withoutName b_TM_withoutName 3 (some .long)) B.pre
  have hG := wz_G hts
  have hown : s.vm.findClass rn_TM = some m.cls := findClass_of_methodNamed B.named
  have hlocks := B.notSynchronized
  subst hsz
  have hD := hD0.self (sz := s.heap.size)
  have hst := tw_st hP
  generalize hAe : va_A [((f 4), .inr (2, [.ref (f 5), .ref (f 6), .ref (f 7), .int (nI fs), .ref (f 8), .ref (f 9), .ref (f 10), .int tb])), ((f 5), .inl (cL, 1024, .inr (.inl le))), ((f 6), .inl (cL, 1024, .inr (.inl ri))), ((f 7), .inl (cI, 1024, .inl fr)), ((f 8), .inl (cI, 1024, .inl od)), ((f 9), .inl (cZ, 1024, .inl ha)), ((f 10), .inl (cL, 1024, .inr (.inl wo)))] s.heap.size = A at hD hst ⊢
  have hA : ∀ q : Nat, s.heap.size ≤ q → A q := fun q h => by rw [← hAe]; exact Or.inr h
  have hS : va_S A s.heap s.heap [] := va_S.rf
  have hl := lv_entry ([.ref (f 4), .long a]) (n := 3) (Nat.le_of_ble_eq_true rfl)
  rw [lg_entry_eq]
  generalize (lg_sl ([.ref (f 4), .long a]) ++ List.replicate (3 - (lg_sl ([.ref (f 4), .long a])).length) Slot.unset).toArray = ls at hl ⊢
  have hl : lv_has ls 3 [(0, .ref (f 4)), (1, .long a)] := hl
  refine lv_lload_n hx hb d_TM_withoutName_0 rfl (lv_at hl 1 rfl) ?_
  refine W.callR (W.runS (As := [.long a]) (rest := []) ⟨hx, hb, hml, hown, hG⟩ (wd_isCell l D cI cL cZ cC a ) (va_cwS 1 hG (gd_T k_752 k_753 k_127 k_754) rfl rfl rfl (by decide +kernel) ⟨Nat.le_of_ble_eq_true rfl, Nat.le_of_ble_eq_true rfl⟩) (wq_S hP hK [] rfl) rfl rfl hl.1 rfl (lv_room (Nat.le_of_ble_eq_true rfl)) d_TM_withoutName_1 ⟨Nat.le_of_ble_eq_true rfl, Nat.le_of_ble_eq_true rfl⟩) ?_
  refine W.eq (g2 := F0 m 4 ls [.int (wcell a)]) rfl ?_
  refine lv_if_eq (tgt := 19) hx hb d_TM_withoutName_4 (by decide) (fun hb_1 => ?_) (fun hb_1 => ?_)
  · skip
    refine lv_iconst (v := 2) hx hb d_TM_withoutName_19 (by decide) ?_
    refine W.callRL (W.runS (As := [.int 2]) (rest := []) ⟨hx, hb, hml, hown, hG⟩ (wd_constant l D cI cL cZ cC 2 ) (va_cwS 1 hG (gd_T k_728 k_729 k_127 k_730) rfl rfl rfl (by decide +kernel) ⟨Nat.le_of_ble_eq_true rfl, Nat.le_of_ble_eq_true rfl⟩) (wq_S hP hK [] rfl) rfl rfl hl.1 rfl (lv_room (Nat.le_of_ble_eq_true rfl)) d_TM_withoutName_20 ⟨Nat.le_of_ble_eq_true rfl, Nat.le_of_ble_eq_true rfl⟩) ?_
    refine W.eq (g2 := F0 m 23 ls [.long (wcon 2)]) rfl ?_
    exact em_lret hx hb hr hlocks hP hD hK hS () [0, 1, 2, 3, 4, 5, 6] (by decide) rfl ⟨_, rfl, (wfw_con (by decide))⟩ d_TM_withoutName_23
  · skip
    obtain ⟨j_2, hj_2, ej_2⟩ := wcell_t hwa hb_1
    refine lv_aload_n hx hb d_TM_withoutName_7 rfl (lv_at hl 0 rfl) ?_
    refine va_get (D := D) (ci := 2) (v := .ref (f 10)) (C := rn_TM) (T := fl_TM) (N := 8) hx hb hG in_TM hown hK hP 0 rfl rfl 6 (by decide) (hG _ k_168) (fun _ h9 => h9) rfl d_TM_withoutName_8 ?_
    refine lv_lload_n hx hb d_TM_withoutName_11 rfl (lv_at hl 1 rfl) ?_
    refine W.callR (W.runS (As := [.long a]) (rest := [.ref (f 10)]) ⟨hx, hb, hml, hown, hG⟩ (wd_number l D cI cL cZ cC a ) (va_cwS 1 hG (gd_T k_755 k_756 k_127 k_757) rfl rfl rfl (by decide +kernel) ⟨Nat.le_of_ble_eq_true rfl, Nat.le_of_ble_eq_true rfl⟩) (wq_S hP hK [] rfl) rfl rfl hl.1 rfl (lv_room (Nat.le_of_ble_eq_true rfl)) d_TM_withoutName_12 ⟨Nat.le_of_ble_eq_true rfl, Nat.le_of_ble_eq_true rfl⟩) ?_
    refine W.eq (g2 := F0 m 15 ls [.int a.toInt32, .ref (f 10)]) rfl ?_
    refine W.eq (g2 := F0 m 15 ls [.int (nI j_2), .ref (f 10)]) (by rw [ej_2]) ?_
    refine va_lald hx hb hK hP 6 1 rfl rfl (vp_in_nI (n := j_2) (N := 1024) (by omega) (by omega)) d_TM_withoutName_15 ?_
    refine lv_topl (fun w_3 ew_3 => ?_)
    have hw_3 : wfw 1024 w_3 := by rw [ew_3]; exact hwo _
    refine lv_goto (tgt := 23) hx hb d_TM_withoutName_16 (by decide) ?_
    exact em_lret hx hb hr hlocks hP hD hK hS () [0, 1, 2, 3, 4, 5, 6] (by decide) rfl ⟨_, rfl, hw_3⟩ d_TM_withoutName_23
set_option maxHeartbeats 8000000 in
set_option maxRecDepth 100000 in
theorem tm_unwrap (l : Launch) (D : va_G) (cI cL cZ cC : ClassId) (f : Nat → Nat) (fs : Nat) (tb : Int32) (le : Nat → Int64) (ri : Nat → Int64) (wo : Nat → Int64) (fr : Nat → Int32) (od : Nat → Int32) (ha : Nat → Int32) (a : Int64) (sz : Nat) (hfs : fs ≤ 1024) (htb : (tb = 0 ∨ tb = 1)) (hle : wfa 1024 le) (hri : wfa 1024 ri) (hwo : wfa 1024 wo) (hfr : rng 1024 fr) (hod : rng 1024 od) (hha : bln ha) (hwa : wfw 1024 a) (hca : ¬ wcell a = 0) (hnt : l.stackTraces = false) : em_Met l y_TM_unwrap (wz y_TM_unwrap b_TM_unwrap 4 (some .long)) ({ frames := 1, cells := 0, slots := 0, locals := 21 }) (va_Pc [.ref (f 4), .long a] (tw_pre D (tys4 cI cL cZ cC) [((f 4), .inr (2, [.ref (f 5), .ref (f 6), .ref (f 7), .int (nI fs), .ref (f 8), .ref (f 9), .ref (f 10), .int tb])), ((f 5), .inl (cL, 1024, .inr (.inl le))), ((f 6), .inl (cL, 1024, .inr (.inl ri))), ((f 7), .inl (cI, 1024, .inl fr)), ((f 8), .inl (cI, 1024, .inl od)), ((f 9), .inl (cZ, 1024, .inl ha)), ((f 10), .inl (cL, 1024, .inr (.inl wo)))] sz)) D (tys4 cI cL cZ cC) (va_A [((f 4), .inr (2, [.ref (f 5), .ref (f 6), .ref (f 7), .int (nI fs), .ref (f 8), .ref (f 9), .ref (f 10), .int tb])), ((f 5), .inl (cL, 1024, .inr (.inl le))), ((f 6), .inl (cL, 1024, .inr (.inl ri))), ((f 7), .inl (cI, 1024, .inl fr)), ((f 8), .inl (cI, 1024, .inl od)), ((f 9), .inl (cZ, 1024, .inl ha)), ((f 10), .inl (cL, 1024, .inr (.inl wo)))] sz) (fun (u : Nat × Int32 × (Nat → Int64) × (Nat → Int64) × (Nat → Int64) × (Nat → Int32) × (Nat → Int32) × (Nat → Int32)) => [((f 4), .inr (2, [.ref (f 5), .ref (f 6), .ref (f 7), .int (nI u.1), .ref (f 8), .ref (f 9), .ref (f 10), .int u.2.1])), ((f 5), .inl (cL, 1024, .inr (.inl u.2.2.1))), ((f 6), .inl (cL, 1024, .inr (.inl u.2.2.2.1))), ((f 7), .inl (cI, 1024, .inl u.2.2.2.2.2.1)), ((f 8), .inl (cI, 1024, .inl u.2.2.2.2.2.2.1)), ((f 9), .inl (cZ, 1024, .inl u.2.2.2.2.2.2.2)), ((f 10), .inl (cL, 1024, .inr (.inl u.2.2.2.2.1)))]) (fun v (u : Nat × Int32 × (Nat → Int64) × (Nat → Int64) × (Nat → Int64) × (Nat → Int32) × (Nat → Int32) × (Nat → Int32)) => ∃ r : Int64, v = some (.long r) ∧ (u.1 ≤ 1024 ∧ (u.2.1 = 0 ∨ u.2.1 = 1) ∧ wfa 1024 u.2.2.1 ∧ wfa 1024 u.2.2.2.1 ∧ wfa 1024 u.2.2.2.2.1 ∧ rng 1024 u.2.2.2.2.2.1 ∧ rng 1024 u.2.2.2.2.2.2.1 ∧ bln u.2.2.2.2.2.2.2 ∧ wfw 1024 r)) (fun C (u : Nat × Int32 × (Nat → Int64) × (Nat → Int64) × (Nat → Int64) × (Nat → Int32) × (Nat → Int32) × (Nat → Int32)) => False) 0 0 := by
  refine em_Met.ofW (cc := b_TM_unwrap) (maxL := 4) (ret := (some .long)) (by decide) rfl ?_
  intro p e s m args below meth c s₁ B hml hv hno
  obtain ⟨rfl, ⟨hsz, hP, hK, hD0⟩, hE⟩ := hv
  have hx := B.exec
  have hb := B.bytes
  have hr := B.returns
  have hts := atoms_spec (ws := wz y_TM_unwrap b_TM_unwrap 4 (some .long)) B.pre
  have hG := wz_G hts
  have hown : s.vm.findClass rn_TM = some m.cls := findClass_of_methodNamed B.named
  have hlocks := B.notSynchronized
  subst hsz
  have hD := hD0.self (sz := s.heap.size)
  have hst := tw_st hP
  generalize hAe : va_A [((f 4), .inr (2, [.ref (f 5), .ref (f 6), .ref (f 7), .int (nI fs), .ref (f 8), .ref (f 9), .ref (f 10), .int tb])), ((f 5), .inl (cL, 1024, .inr (.inl le))), ((f 6), .inl (cL, 1024, .inr (.inl ri))), ((f 7), .inl (cI, 1024, .inl fr)), ((f 8), .inl (cI, 1024, .inl od)), ((f 9), .inl (cZ, 1024, .inl ha)), ((f 10), .inl (cL, 1024, .inr (.inl wo)))] s.heap.size = A at hD hst ⊢
  have hA : ∀ q : Nat, s.heap.size ≤ q → A q := fun q h => by rw [← hAe]; exact Or.inr h
  have hS : va_S A s.heap s.heap [] := va_S.rf
  have hl := lv_entry ([.ref (f 4), .long a]) (n := 4) (Nat.le_of_ble_eq_true rfl)
  rw [lg_entry_eq]
  generalize (lg_sl ([.ref (f 4), .long a]) ++ List.replicate (4 - (lg_sl ([.ref (f 4), .long a])).length) Slot.unset).toArray = ls at hl ⊢
  have hl : lv_has ls 4 [(0, .ref (f 4)), (1, .long a)] := hl
  obtain ⟨j0, hj0, ej0⟩ := wcell_t hwa hca
  refine lv_lload_n hx hb d_TM_unwrap_0 rfl (lv_at hl 1 rfl) ?_
  refine W.callR (W.runS (As := [.long a]) (rest := []) ⟨hx, hb, hml, hown, hG⟩ (wd_number l D cI cL cZ cC a ) (va_cwS 1 hG (gd_T k_755 k_756 k_127 k_757) rfl rfl rfl (by decide +kernel) ⟨Nat.le_of_ble_eq_true rfl, Nat.le_of_ble_eq_true rfl⟩) (wq_S hP hK [] rfl) rfl rfl hl.1 rfl (lv_room (Nat.le_of_ble_eq_true rfl)) d_TM_unwrap_1 ⟨Nat.le_of_ble_eq_true rfl, Nat.le_of_ble_eq_true rfl⟩) ?_
  refine W.eq (g2 := F0 m 4 ls [.int a.toInt32]) rfl ?_
  refine W.eq (g2 := F0 m 4 ls [.int (nI j0)]) (by rw [ej0]) ?_
  refine lv_istore_n (lv' := [(3, .int (nI j0)), (0, .ref (f 4)), (1, .long a)]) hx hb d_TM_unwrap_4 rfl hl (Nat.le_of_ble_eq_true rfl) rfl (fun ls hl => ?_)
  refine lv_aload_n hx hb d_TM_unwrap_5 rfl (lv_at hl 1 rfl) ?_
  refine lv_iload_n hx hb d_TM_unwrap_6 rfl (lv_at hl 0 rfl) ?_
  refine em_call (wr := []) (em_runV (As := [.int (nI j0)]) (rest := []) ⟨hx, hb, hml, hown, hG⟩ (tm_drop l D cI cL cZ cC f fs tb le ri wo fr od ha j0 _ (by omega) htb hle hri hwo hfr hod hha (by omega) hnt) (cwV 1 hG (gd_V k_782 k_784 k_18 k_109 k_785) rfl rfl rfl (by decide +kernel) ⟨Nat.le_of_ble_eq_true rfl, Nat.le_of_ble_eq_true rfl⟩) (tw_V (q0 := 0) hP hD hK hE hst hS rfl rfl [0, 1, 2, 3, 4, 5, 6] rfl (by decide)) rfl rfl hl.1 rfl (lv_room (Nat.le_of_ble_eq_true rfl)) d_TM_unwrap_7 ⟨Nat.le_of_ble_eq_true rfl, Nat.le_of_ble_eq_true rfl⟩) hP hD hS hA [0, 1, 2, 3, 4, 5, 6] [] rfl rfl (by decide) (by decide) (fun v u H locs hok hP hD hS => ?_) (fun x C u H locs hbad hxx hP hD hS => ?_)
  · skip
    obtain ⟨fs_1, tb_2, le_3, ri_4, wo_5, fr_6, od_7, ha_8⟩ := u
    obtain ⟨rfl, hp_10⟩ := hok
    obtain ⟨hfs_11, htb_12, hle_13, hri_14, hwo_15, hfr_16, hod_17, hha_18⟩ : fs_1 ≤ 1024 ∧ (tb_2 = 0 ∨ tb_2 = 1) ∧ wfa 1024 le_3 ∧ wfa 1024 ri_4 ∧ wfa 1024 wo_5 ∧ rng 1024 fr_6 ∧ rng 1024 od_7 ∧ bln ha_8 := hp_10
    have hP : va_P D classes [((f 4), .inr (2, [.ref (f 5), .ref (f 6), .ref (f 7), .int (nI fs_1), .ref (f 8), .ref (f 9), .ref (f 10), .int tb_2])), ((f 5), .inl (cL, 1024, .inr (.inl le_3))), ((f 6), .inl (cL, 1024, .inr (.inl ri_4))), ((f 7), .inl (cI, 1024, .inl fr_6)), ((f 8), .inl (cI, 1024, .inl od_7)), ((f 9), .inl (cZ, 1024, .inl ha_8)), ((f 10), .inl (cL, 1024, .inr (.inl wo_5)))] H := hP
    have hD : va_D A [((f 4), .inr (2, [.ref (f 5), .ref (f 6), .ref (f 7), .int (nI fs_1), .ref (f 8), .ref (f 9), .ref (f 10), .int tb_2])), ((f 5), .inl (cL, 1024, .inr (.inl le_3))), ((f 6), .inl (cL, 1024, .inr (.inl ri_4))), ((f 7), .inl (cI, 1024, .inl fr_6)), ((f 8), .inl (cI, 1024, .inl od_7)), ((f 9), .inl (cZ, 1024, .inl ha_8)), ((f 10), .inl (cL, 1024, .inr (.inl wo_5)))] := hD
    refine W.eq (g2 := F0 m 10 ls []) rfl ?_
    refine lv_aload_n hx hb d_TM_unwrap_10 rfl (lv_at hl 1 rfl) ?_
    refine va_get (D := D) (ci := 2) (v := .ref (f 6)) (C := rn_TM) (T := fl_TM) (N := 8) hx hb hG in_TM hown hK hP 0 rfl rfl 1 (by decide) (hG _ k_163) (fun _ h9 => h9) rfl d_TM_unwrap_11 ?_
    refine lv_iload_n hx hb d_TM_unwrap_14 rfl (lv_at hl 0 rfl) ?_
    refine va_lald hx hb hK hP 2 1 rfl rfl (vp_in_nI (n := j0) (N := 1024) (by omega) (by omega)) d_TM_unwrap_15 ?_
    refine lv_topl (fun w_20 ew_20 => ?_)
    have hw_20 : wfw 1024 w_20 := by rw [ew_20]; exact hri_14 _
    exact em_lret hx hb hr hlocks hP hD hK hS (fs_1, tb_2, le_3, ri_4, wo_5, fr_6, od_7, ha_8) [0, 1, 2, 3, 4, 5, 6] (by decide) rfl ⟨_, rfl, ⟨(by omega), htb_12, hle_13, hri_14, hwo_15, hfr_16, hod_17, hha_18, hw_20⟩⟩ d_TM_unwrap_16
  · skip
    exact hbad.elim
