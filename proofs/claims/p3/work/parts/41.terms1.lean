set_option maxHeartbeats 8000000 in
set_option maxRecDepth 100000 in
theorem tm_apply (l : Launch) (D : va_G) (cI cL cZ cC : ClassId) (f : Nat → Nat) (fs : Nat) (tb : Int32) (le : Nat → Int64) (ri : Nat → Int64) (wo : Nat → Int64) (fr : Nat → Int32) (od : Nat → Int32) (ha : Nat → Int32) (a : Int64) (b : Int64) (sz : Nat) (hfs : fs ≤ 1024) (htb : (tb = 0 ∨ tb = 1)) (hle : wfa 1024 le) (hri : wfa 1024 ri) (hwo : wfa 1024 wo) (hfr : rng 1024 fr) (hod : rng 1024 od) (hha : bln ha) (hwa : wfw 1024 a) (hwb : wfw 1024 b) (hnt : l.stackTraces = false) : em_Met l y_TM_apply (wz y_TM_apply b_TM_apply 6 (some .long)) ({ frames := 1, cells := 0, slots := 0, locals := 21 }) (va_Pc [.ref (f 4), .long a, .long b] (tw_pre D (tys4 cI cL cZ cC) [((f 4), .inr (2, [.ref (f 5), .ref (f 6), .ref (f 7), .int (nI fs), .ref (f 8), .ref (f 9), .ref (f 10), .int tb])), ((f 5), .inl (cL, 1024, .inr (.inl le))), ((f 6), .inl (cL, 1024, .inr (.inl ri))), ((f 7), .inl (cI, 1024, .inl fr)), ((f 8), .inl (cI, 1024, .inl od)), ((f 9), .inl (cZ, 1024, .inl ha)), ((f 10), .inl (cL, 1024, .inr (.inl wo)))] sz)) D (tys4 cI cL cZ cC) (va_A [((f 4), .inr (2, [.ref (f 5), .ref (f 6), .ref (f 7), .int (nI fs), .ref (f 8), .ref (f 9), .ref (f 10), .int tb])), ((f 5), .inl (cL, 1024, .inr (.inl le))), ((f 6), .inl (cL, 1024, .inr (.inl ri))), ((f 7), .inl (cI, 1024, .inl fr)), ((f 8), .inl (cI, 1024, .inl od)), ((f 9), .inl (cZ, 1024, .inl ha)), ((f 10), .inl (cL, 1024, .inr (.inl wo)))] sz) (fun (u : Nat × Int32 × (Nat → Int64) × (Nat → Int64) × (Nat → Int64) × (Nat → Int32) × (Nat → Int32) × (Nat → Int32)) => [((f 4), .inr (2, [.ref (f 5), .ref (f 6), .ref (f 7), .int (nI u.1), .ref (f 8), .ref (f 9), .ref (f 10), .int u.2.1])), ((f 5), .inl (cL, 1024, .inr (.inl u.2.2.1))), ((f 6), .inl (cL, 1024, .inr (.inl u.2.2.2.1))), ((f 7), .inl (cI, 1024, .inl u.2.2.2.2.2.1)), ((f 8), .inl (cI, 1024, .inl u.2.2.2.2.2.2.1)), ((f 9), .inl (cZ, 1024, .inl u.2.2.2.2.2.2.2)), ((f 10), .inl (cL, 1024, .inr (.inl u.2.2.2.2.1)))]) (fun v (u : Nat × Int32 × (Nat → Int64) × (Nat → Int64) × (Nat → Int64) × (Nat → Int32) × (Nat → Int32) × (Nat → Int32)) => ∃ r : Int64, v = some (.long r) ∧ (u.1 ≤ 1024 ∧ (u.2.1 = 0 ∨ u.2.1 = 1) ∧ wfa 1024 u.2.2.1 ∧ wfa 1024 u.2.2.2.1 ∧ wfa 1024 u.2.2.2.2.1 ∧ rng 1024 u.2.2.2.2.2.1 ∧ rng 1024 u.2.2.2.2.2.2.1 ∧ bln u.2.2.2.2.2.2.2 ∧ wfw 1024 r)) (fun C (u : Nat × Int32 × (Nat → Int64) × (Nat → Int64) × (Nat → Int64) × (Nat → Int32) × (Nat → Int32) × (Nat → Int32)) => False) 0 0 := by
  refine em_Met.ofW (cc := b_TM_apply) (maxL := 6) (ret := (some .long)) (by decide) rfl ?_
  intro p e s m args below meth c s₁ B hml hv hno
  obtain ⟨rfl, ⟨hsz, hP, hK, hD0⟩, hE⟩ := hv
  have hx := B.exec
  have hb := B.bytes
  have hr := B.returns
  have hts := atoms_spec (ws := wz y_TM_apply b_TM_apply 6 (some .long)) B.pre
  have hG := wz_G hts
  have hown : s.vm.findClass rn_TM = some m.cls := findClass_of_methodNamed B.named
  have hlocks := B.notSynchronized
  subst hsz
  have hD := hD0.self (sz := s.heap.size)
  have hst := tw_st hP
  generalize hAe : va_A [((f 4), .inr (2, [.ref (f 5), .ref (f 6), .ref (f 7), .int (nI fs), .ref (f 8), .ref (f 9), .ref (f 10), .int tb])), ((f 5), .inl (cL, 1024, .inr (.inl le))), ((f 6), .inl (cL, 1024, .inr (.inl ri))), ((f 7), .inl (cI, 1024, .inl fr)), ((f 8), .inl (cI, 1024, .inl od)), ((f 9), .inl (cZ, 1024, .inl ha)), ((f 10), .inl (cL, 1024, .inr (.inl wo)))] s.heap.size = A at hD hst ⊢
  have hA : ∀ q : Nat, s.heap.size ≤ q → A q := fun q h => by rw [← hAe]; exact Or.inr h
  have hS : va_S A s.heap s.heap [] := va_S.rf
  have hl := lv_entry ([.ref (f 4), .long a, .long b]) (n := 6) (Nat.le_of_ble_eq_true rfl)
  rw [lg_entry_eq]
  generalize (lg_sl ([.ref (f 4), .long a, .long b]) ++ List.replicate (6 - (lg_sl ([.ref (f 4), .long a, .long b])).length) Slot.unset).toArray = ls at hl ⊢
  have hl : lv_has ls 6 [(0, .ref (f 4)), (1, .long a), (3, .long b)] := hl
  refine lv_aload_n hx hb d_TM_apply_0 rfl (lv_at hl 0 rfl) ?_
  refine va_get (D := D) (ci := 2) (v := .int (nI fs)) (C := rn_TM) (T := fl_TM) (N := 8) hx hb hG in_TM hown hK hP 0 rfl rfl 3 (by decide) (hG _ k_165) (fun _ h9 => h9) rfl d_TM_apply_1 ?_
  refine lv_if_ne (tgt := 12) hx hb d_TM_apply_4 (by decide) (fun hb_1 => ?_) (fun hb_1 => ?_)
  · skip
    have hn_2 : ¬ fs = 0 := fun h => hb_1 ((nI_eq (a := fs) (b := 0) (by omega) (by omega)).mpr h)
    refine lv_aload_n hx hb d_TM_apply_12 rfl (lv_at hl 0 rfl) ?_
    refine va_get (D := D) (ci := 2) (v := .int tb) (C := rn_TM) (T := fl_TM) (N := 8) hx hb hG in_TM hown hK hP 0 rfl rfl 7 (by decide) (hG _ k_169) (fun _ h9 => h9) rfl d_TM_apply_13 ?_
    refine lv_if_eq (tgt := 25) hx hb d_TM_apply_16 (by decide) (fun hb_3 => ?_) (fun hb_3 => ?_)
    · skip
      refine lv_aload_n hx hb d_TM_apply_25 rfl (lv_at hl 0 rfl) ?_
      refine lv_dup hx hb d_TM_apply_26 rfl ?_
      refine va_get (D := D) (ci := 2) (v := .int (nI fs)) (C := rn_TM) (T := fl_TM) (N := 8) hx hb hG in_TM hown hK hP 0 rfl rfl 3 (by decide) (hG _ k_165) (fun _ h9 => h9) rfl d_TM_apply_27 ?_
      refine lv_iconst (v := 1) hx hb d_TM_apply_30 (by decide) ?_
      refine lw_isub (a := fs) (b := 1) hx hb d_TM_apply_31 (by omega) ?_
      refine va_put (D := D) (ci := 2) (v := .int (nI (fs - 1))) (ty := .int) (C := rn_TM) (T := fl_TM) (N := 8) hx hb hG in_TM tt_TM tk_TM nn_TM hown hK hP hD hS 0 rfl rfl 3 (by decide) (hG _ k_165) (fun _ h9 => h9) rfl (by decide +kernel) rfl rfl (Nat.le_of_ble_eq_true rfl) d_TM_apply_32 (fun H locs hP hD hS => ?_)
      have hP : va_P D classes [((f 4), .inr (2, [.ref (f 5), .ref (f 6), .ref (f 7), .int (nI (fs - 1)), .ref (f 8), .ref (f 9), .ref (f 10), .int tb])), ((f 5), .inl (cL, 1024, .inr (.inl le))), ((f 6), .inl (cL, 1024, .inr (.inl ri))), ((f 7), .inl (cI, 1024, .inl fr)), ((f 8), .inl (cI, 1024, .inl od)), ((f 9), .inl (cZ, 1024, .inl ha)), ((f 10), .inl (cL, 1024, .inr (.inl wo)))] H := hP
      have hD : va_D A [((f 4), .inr (2, [.ref (f 5), .ref (f 6), .ref (f 7), .int (nI (fs - 1)), .ref (f 8), .ref (f 9), .ref (f 10), .int tb])), ((f 5), .inl (cL, 1024, .inr (.inl le))), ((f 6), .inl (cL, 1024, .inr (.inl ri))), ((f 7), .inl (cI, 1024, .inl fr)), ((f 8), .inl (cI, 1024, .inl od)), ((f 9), .inl (cZ, 1024, .inl ha)), ((f 10), .inl (cL, 1024, .inr (.inl wo)))] := hD
      refine lv_aload_n hx hb d_TM_apply_35 rfl (lv_at hl 0 rfl) ?_
      refine va_get (D := D) (ci := 2) (v := .ref (f 7)) (C := rn_TM) (T := fl_TM) (N := 8) hx hb hG in_TM hown hK hP 0 rfl rfl 2 (by decide) (hG _ k_164) (fun _ h9 => h9) rfl d_TM_apply_36 ?_
      refine lv_aload_n hx hb d_TM_apply_39 rfl (lv_at hl 0 rfl) ?_
      refine va_get (D := D) (ci := 2) (v := .int (nI (fs - 1))) (C := rn_TM) (T := fl_TM) (N := 8) hx hb hG in_TM hown hK hP 0 rfl rfl 3 (by decide) (hG _ k_165) (fun _ h9 => h9) rfl d_TM_apply_40 ?_
      refine va_iald hx hb hK hP 3 0 rfl rfl (vp_in_nI (n := fs - 1) (N := 1024) (by omega) (by omega)) d_TM_apply_43 ?_
      obtain ⟨j_4, hj_4, ej_4⟩ := hfr ((nI (fs - 1)).toNatClampNeg)
      refine W.eq (g2 := F0 m 44 ls [.int (nI j_4)]) (by rw [ej_4]) ?_
      refine lv_istore (lv' := [(5, .int (nI j_4)), (0, .ref (f 4)), (1, .long a), (3, .long b)]) hx hb d_TM_apply_44 hl (Nat.le_of_ble_eq_true rfl) rfl (fun ls hl => ?_)
      refine lv_aload_n hx hb d_TM_apply_46 rfl (lv_at hl 1 rfl) ?_
      refine va_get (D := D) (ci := 2) (v := .ref (f 5)) (C := rn_TM) (T := fl_TM) (N := 8) hx hb hG in_TM hown hK hP 0 rfl rfl 0 (by decide) (hG _ k_162) (fun _ h9 => h9) rfl d_TM_apply_47 ?_
      refine lv_iload hx hb d_TM_apply_50 (lv_at hl 0 rfl) ?_
      refine lv_lload_n hx hb d_TM_apply_52 rfl (lv_at hl 2 rfl) ?_
      refine va_last hx hb hK hP hD hS 1 1 rfl rfl (vp_in_nI (n := j_4) (N := 1024) (by omega) (by omega)) d_TM_apply_53 (fun H locs hP hD hS => ?_)
      have hP : va_P D classes [((f 4), .inr (2, [.ref (f 5), .ref (f 6), .ref (f 7), .int (nI (fs - 1)), .ref (f 8), .ref (f 9), .ref (f 10), .int tb])), ((f 5), .inl (cL, 1024, .inr (.inl (vp_updL le (nI j_4).toNatClampNeg a)))), ((f 6), .inl (cL, 1024, .inr (.inl ri))), ((f 7), .inl (cI, 1024, .inl fr)), ((f 8), .inl (cI, 1024, .inl od)), ((f 9), .inl (cZ, 1024, .inl ha)), ((f 10), .inl (cL, 1024, .inr (.inl wo)))] H := hP
      have hD : va_D A [((f 4), .inr (2, [.ref (f 5), .ref (f 6), .ref (f 7), .int (nI (fs - 1)), .ref (f 8), .ref (f 9), .ref (f 10), .int tb])), ((f 5), .inl (cL, 1024, .inr (.inl (vp_updL le (nI j_4).toNatClampNeg a)))), ((f 6), .inl (cL, 1024, .inr (.inl ri))), ((f 7), .inl (cI, 1024, .inl fr)), ((f 8), .inl (cI, 1024, .inl od)), ((f 9), .inl (cZ, 1024, .inl ha)), ((f 10), .inl (cL, 1024, .inr (.inl wo)))] := hD
      obtain ⟨g_5, eg_5⟩ : ∃ z, z = vp_updL le (nI j_4).toNatClampNeg a := ⟨_, rfl⟩
      rw [← eg_5] at hP hD
      have hg_5 : wfa 1024 g_5 := by rw [eg_5]; exact wfa_up hle hwa
      refine lv_aload_n hx hb d_TM_apply_54 rfl (lv_at hl 1 rfl) ?_
      refine va_get (D := D) (ci := 2) (v := .ref (f 6)) (C := rn_TM) (T := fl_TM) (N := 8) hx hb hG in_TM hown hK hP 0 rfl rfl 1 (by decide) (hG _ k_163) (fun _ h9 => h9) rfl d_TM_apply_55 ?_
      refine lv_iload hx hb d_TM_apply_58 (lv_at hl 0 rfl) ?_
      refine lv_lload_n hx hb d_TM_apply_60 rfl (lv_at hl 3 rfl) ?_
      refine va_last hx hb hK hP hD hS 2 1 rfl rfl (vp_in_nI (n := j_4) (N := 1024) (by omega) (by omega)) d_TM_apply_61 (fun H locs hP hD hS => ?_)
      have hP : va_P D classes [((f 4), .inr (2, [.ref (f 5), .ref (f 6), .ref (f 7), .int (nI (fs - 1)), .ref (f 8), .ref (f 9), .ref (f 10), .int tb])), ((f 5), .inl (cL, 1024, .inr (.inl g_5))), ((f 6), .inl (cL, 1024, .inr (.inl (vp_updL ri (nI j_4).toNatClampNeg b)))), ((f 7), .inl (cI, 1024, .inl fr)), ((f 8), .inl (cI, 1024, .inl od)), ((f 9), .inl (cZ, 1024, .inl ha)), ((f 10), .inl (cL, 1024, .inr (.inl wo)))] H := hP
      have hD : va_D A [((f 4), .inr (2, [.ref (f 5), .ref (f 6), .ref (f 7), .int (nI (fs - 1)), .ref (f 8), .ref (f 9), .ref (f 10), .int tb])), ((f 5), .inl (cL, 1024, .inr (.inl g_5))), ((f 6), .inl (cL, 1024, .inr (.inl (vp_updL ri (nI j_4).toNatClampNeg b)))), ((f 7), .inl (cI, 1024, .inl fr)), ((f 8), .inl (cI, 1024, .inl od)), ((f 9), .inl (cZ, 1024, .inl ha)), ((f 10), .inl (cL, 1024, .inr (.inl wo)))] := hD
      obtain ⟨g_6, eg_6⟩ : ∃ z, z = vp_updL ri (nI j_4).toNatClampNeg b := ⟨_, rfl⟩
      rw [← eg_6] at hP hD
      have hg_6 : wfa 1024 g_6 := by rw [eg_6]; exact wfa_up hri hwb
      refine lv_bipush (v := 23) hx hb d_TM_apply_62 (by decide) ?_
      refine lv_iload hx hb d_TM_apply_64 (lv_at hl 0 rfl) ?_
      refine W.callRL (W.runS (As := [.int 23, .int (nI j_4)]) (rest := []) ⟨hx, hb, hml, hown, hG⟩ (wd_of l D cI cL cZ cC 23 (nI j_4) ) (va_cwS 2 hG (gd_T k_735 k_736 k_127 k_737) rfl rfl rfl (by decide +kernel) ⟨Nat.le_of_ble_eq_true rfl, Nat.le_of_ble_eq_true rfl⟩) (wq_S hP hK [] rfl) rfl rfl hl.1 rfl (lv_room (Nat.le_of_ble_eq_true rfl)) d_TM_apply_66 ⟨Nat.le_of_ble_eq_true rfl, Nat.le_of_ble_eq_true rfl⟩) ?_
      refine W.eq (g2 := F0 m 69 ls [.long (wof 23 (nI j_4))]) rfl ?_
      exact em_lret hx hb hr hlocks hP hD hK hS (fs - 1, tb, g_5, g_6, wo, fr, od, ha) [0, 1, 2, 3, 4, 5, 6] (by decide) rfl ⟨_, rfl, ⟨(by omega), htb, hg_5, hg_6, hwo, hfr, hod, hha, (wfw_cell (by omega))⟩⟩ d_TM_apply_69
    · skip
      refine lv_bipush (v := 17) hx hb d_TM_apply_19 (by decide) ?_
      refine W.callRL (W.runS (As := [.int 17]) (rest := []) ⟨hx, hb, hml, hown, hG⟩ (wd_constant l D cI cL cZ cC 17 ) (va_cwS 1 hG (gd_T k_728 k_729 k_127 k_730) rfl rfl rfl (by decide +kernel) ⟨Nat.le_of_ble_eq_true rfl, Nat.le_of_ble_eq_true rfl⟩) (wq_S hP hK [] rfl) rfl rfl hl.1 rfl (lv_room (Nat.le_of_ble_eq_true rfl)) d_TM_apply_21 ⟨Nat.le_of_ble_eq_true rfl, Nat.le_of_ble_eq_true rfl⟩) ?_
      refine W.eq (g2 := F0 m 24 ls [.long (wcon 17)]) rfl ?_
      exact em_lret hx hb hr hlocks hP hD hK hS (fs, tb, le, ri, wo, fr, od, ha) [0, 1, 2, 3, 4, 5, 6] (by decide) rfl ⟨_, rfl, ⟨(by omega), htb, hle, hri, hwo, hfr, hod, hha, (wfw_con (by decide))⟩⟩ d_TM_apply_24
  · skip
    have hn_7 : fs = 0 := (nI_eq (a := fs) (b := 0) (by omega) (by omega)).mp hb_1
    refine lv_aload_n hx hb d_TM_apply_7 rfl (lv_at hl 0 rfl) ?_
    refine lv_iconst (v := 1) hx hb d_TM_apply_8 (by decide) ?_
    refine va_put (D := D) (ci := 2) (v := .int 1) (ty := .boolean) (C := rn_TM) (T := fl_TM) (N := 8) hx hb hG in_TM tt_TM tk_TM nn_TM hown hK hP hD hS 0 rfl rfl 7 (by decide) (hG _ k_169) (fun _ h9 => h9) rfl (by decide +kernel) rfl rfl (Nat.le_of_ble_eq_true rfl) d_TM_apply_9 (fun H locs hP hD hS => ?_)
    have hP : va_P D classes [((f 4), .inr (2, [.ref (f 5), .ref (f 6), .ref (f 7), .int (nI fs), .ref (f 8), .ref (f 9), .ref (f 10), .int 1])), ((f 5), .inl (cL, 1024, .inr (.inl le))), ((f 6), .inl (cL, 1024, .inr (.inl ri))), ((f 7), .inl (cI, 1024, .inl fr)), ((f 8), .inl (cI, 1024, .inl od)), ((f 9), .inl (cZ, 1024, .inl ha)), ((f 10), .inl (cL, 1024, .inr (.inl wo)))] H := hP
    have hD : va_D A [((f 4), .inr (2, [.ref (f 5), .ref (f 6), .ref (f 7), .int (nI fs), .ref (f 8), .ref (f 9), .ref (f 10), .int 1])), ((f 5), .inl (cL, 1024, .inr (.inl le))), ((f 6), .inl (cL, 1024, .inr (.inl ri))), ((f 7), .inl (cI, 1024, .inl fr)), ((f 8), .inl (cI, 1024, .inl od)), ((f 9), .inl (cZ, 1024, .inl ha)), ((f 10), .inl (cL, 1024, .inr (.inl wo)))] := hD
    refine lv_aload_n hx hb d_TM_apply_12 rfl (lv_at hl 0 rfl) ?_
    refine va_get (D := D) (ci := 2) (v := .int 1) (C := rn_TM) (T := fl_TM) (N := 8) hx hb hG in_TM hown hK hP 0 rfl rfl 7 (by decide) (hG _ k_169) (fun _ h9 => h9) rfl d_TM_apply_13 ?_
    refine lv_if_eq (tgt := 25) hx hb d_TM_apply_16 (by decide) (fun hbr => absurd hbr (by decide)) (fun hbr => ?_)
    refine lv_bipush (v := 17) hx hb d_TM_apply_19 (by decide) ?_
    refine W.callRL (W.runS (As := [.int 17]) (rest := []) ⟨hx, hb, hml, hown, hG⟩ (wd_constant l D cI cL cZ cC 17 ) (va_cwS 1 hG (gd_T k_728 k_729 k_127 k_730) rfl rfl rfl (by decide +kernel) ⟨Nat.le_of_ble_eq_true rfl, Nat.le_of_ble_eq_true rfl⟩) (wq_S hP hK [] rfl) rfl rfl hl.1 rfl (lv_room (Nat.le_of_ble_eq_true rfl)) d_TM_apply_21 ⟨Nat.le_of_ble_eq_true rfl, Nat.le_of_ble_eq_true rfl⟩) ?_
    refine W.eq (g2 := F0 m 24 ls [.long (wcon 17)]) rfl ?_
    exact em_lret hx hb hr hlocks hP hD hK hS (fs, 1, le, ri, wo, fr, od, ha) [0, 1, 2, 3, 4, 5, 6] (by decide) rfl ⟨_, rfl, ⟨(by omega), (Or.inr rfl), hle, hri, hwo, hfr, hod, hha, (wfw_con (by decide))⟩⟩ d_TM_apply_24
set_option maxHeartbeats 8000000 in
set_option maxRecDepth 100000 in
theorem tm_applyToTwo (l : Launch) (D : va_G) (cI cL cZ cC : ClassId) (f : Nat → Nat) (fs : Nat) (tb : Int32) (le : Nat → Int64) (ri : Nat → Int64) (wo : Nat → Int64) (fr : Nat → Int32) (od : Nat → Int32) (ha : Nat → Int32) (k : Int32) (a : Int64) (b : Int64) (sz : Nat) (hfs : fs ≤ 1024) (htb : (tb = 0 ∨ tb = 1)) (hle : wfa 1024 le) (hri : wfa 1024 ri) (hwo : wfa 1024 wo) (hfr : rng 1024 fr) (hod : rng 1024 od) (hha : bln ha) (hk : ¬ k = 23) (hwa : wfw 1024 a) (hwb : wfw 1024 b) (hnt : l.stackTraces = false) : em_Met l y_TM_applyToTwo (wz y_TM_applyToTwo b_TM_applyToTwo 6 (some .long)) ({ frames := 2, cells := 0, slots := 0, locals := 46 }) (va_Pc [.ref (f 4), .int k, .long a, .long b] (tw_pre D (tys4 cI cL cZ cC) [((f 4), .inr (2, [.ref (f 5), .ref (f 6), .ref (f 7), .int (nI fs), .ref (f 8), .ref (f 9), .ref (f 10), .int tb])), ((f 5), .inl (cL, 1024, .inr (.inl le))), ((f 6), .inl (cL, 1024, .inr (.inl ri))), ((f 7), .inl (cI, 1024, .inl fr)), ((f 8), .inl (cI, 1024, .inl od)), ((f 9), .inl (cZ, 1024, .inl ha)), ((f 10), .inl (cL, 1024, .inr (.inl wo)))] sz)) D (tys4 cI cL cZ cC) (va_A [((f 4), .inr (2, [.ref (f 5), .ref (f 6), .ref (f 7), .int (nI fs), .ref (f 8), .ref (f 9), .ref (f 10), .int tb])), ((f 5), .inl (cL, 1024, .inr (.inl le))), ((f 6), .inl (cL, 1024, .inr (.inl ri))), ((f 7), .inl (cI, 1024, .inl fr)), ((f 8), .inl (cI, 1024, .inl od)), ((f 9), .inl (cZ, 1024, .inl ha)), ((f 10), .inl (cL, 1024, .inr (.inl wo)))] sz) (fun (u : Nat × Int32 × (Nat → Int64) × (Nat → Int64) × (Nat → Int64) × (Nat → Int32) × (Nat → Int32) × (Nat → Int32)) => [((f 4), .inr (2, [.ref (f 5), .ref (f 6), .ref (f 7), .int (nI u.1), .ref (f 8), .ref (f 9), .ref (f 10), .int u.2.1])), ((f 5), .inl (cL, 1024, .inr (.inl u.2.2.1))), ((f 6), .inl (cL, 1024, .inr (.inl u.2.2.2.1))), ((f 7), .inl (cI, 1024, .inl u.2.2.2.2.2.1)), ((f 8), .inl (cI, 1024, .inl u.2.2.2.2.2.2.1)), ((f 9), .inl (cZ, 1024, .inl u.2.2.2.2.2.2.2)), ((f 10), .inl (cL, 1024, .inr (.inl u.2.2.2.2.1)))]) (fun v (u : Nat × Int32 × (Nat → Int64) × (Nat → Int64) × (Nat → Int64) × (Nat → Int32) × (Nat → Int32) × (Nat → Int32)) => ∃ r : Int64, v = some (.long r) ∧ (u.1 ≤ 1024 ∧ (u.2.1 = 0 ∨ u.2.1 = 1) ∧ wfa 1024 u.2.2.1 ∧ wfa 1024 u.2.2.2.1 ∧ wfa 1024 u.2.2.2.2.1 ∧ rng 1024 u.2.2.2.2.2.1 ∧ rng 1024 u.2.2.2.2.2.2.1 ∧ bln u.2.2.2.2.2.2.2 ∧ wfw 1024 r)) (fun C (u : Nat × Int32 × (Nat → Int64) × (Nat → Int64) × (Nat → Int64) × (Nat → Int32) × (Nat → Int32) × (Nat → Int32)) => False) 0 0 := by
  refine em_Met.ofW (cc := b_TM_applyToTwo) (maxL := 6) (ret := (some .long)) (by decide) rfl ?_
  intro p e s m args below meth c s₁ B hml hv hno
  obtain ⟨rfl, ⟨hsz, hP, hK, hD0⟩, hE⟩ := hv
  have hx := B.exec
  have hb := B.bytes
  have hr := B.returns
  have hts := atoms_spec (ws := wz y_TM_applyToTwo b_TM_applyToTwo 6 (some .long)) B.pre
  have hG := wz_G hts
  have hown : s.vm.findClass rn_TM = some m.cls := findClass_of_methodNamed B.named
  have hlocks := B.notSynchronized
  subst hsz
  have hD := hD0.self (sz := s.heap.size)
  have hst := tw_st hP
  generalize hAe : va_A [((f 4), .inr (2, [.ref (f 5), .ref (f 6), .ref (f 7), .int (nI fs), .ref (f 8), .ref (f 9), .ref (f 10), .int tb])), ((f 5), .inl (cL, 1024, .inr (.inl le))), ((f 6), .inl (cL, 1024, .inr (.inl ri))), ((f 7), .inl (cI, 1024, .inl fr)), ((f 8), .inl (cI, 1024, .inl od)), ((f 9), .inl (cZ, 1024, .inl ha)), ((f 10), .inl (cL, 1024, .inr (.inl wo)))] s.heap.size = A at hD hst ⊢
  have hA : ∀ q : Nat, s.heap.size ≤ q → A q := fun q h => by rw [← hAe]; exact Or.inr h
  have hS : va_S A s.heap s.heap [] := va_S.rf
  have hl := lv_entry ([.ref (f 4), .int k, .long a, .long b]) (n := 6) (Nat.le_of_ble_eq_true rfl)
  rw [lg_entry_eq]
  generalize (lg_sl ([.ref (f 4), .int k, .long a, .long b]) ++ List.replicate (6 - (lg_sl ([.ref (f 4), .int k, .long a, .long b])).length) Slot.unset).toArray = ls at hl ⊢
  have hl : lv_has ls 6 [(0, .ref (f 4)), (1, .int k), (2, .long a), (4, .long b)] := hl
  refine lv_aload_n hx hb d_TM_applyToTwo_0 rfl (lv_at hl 0 rfl) ?_
  refine lv_aload_n hx hb d_TM_applyToTwo_1 rfl (lv_at hl 0 rfl) ?_
  refine lv_iload_n hx hb d_TM_applyToTwo_2 rfl (lv_at hl 1 rfl) ?_
  refine W.callRL (W.runS (As := [.int k]) (rest := [.ref (f 4), .ref (f 4)]) ⟨hx, hb, hml, hown, hG⟩ (wd_constant l D cI cL cZ cC k ) (va_cwS 1 hG (gd_T k_728 k_729 k_127 k_730) rfl rfl rfl (by decide +kernel) ⟨Nat.le_of_ble_eq_true rfl, Nat.le_of_ble_eq_true rfl⟩) (wq_S hP hK [] rfl) rfl rfl hl.1 rfl (lv_room (Nat.le_of_ble_eq_true rfl)) d_TM_applyToTwo_3 ⟨Nat.le_of_ble_eq_true rfl, Nat.le_of_ble_eq_true rfl⟩) ?_
  refine W.eq (g2 := F0 m 6 ls [.long (wcon k), .ref (f 4), .ref (f 4)]) rfl ?_
  refine lv_lload_n hx hb d_TM_applyToTwo_6 rfl (lv_at hl 2 rfl) ?_
  refine em_call (wr := []) (em_runV (As := [.long (wcon k), .long a]) (rest := [.ref (f 4)]) ⟨hx, hb, hml, hown, hG⟩ (tm_apply l D cI cL cZ cC f fs tb le ri wo fr od ha (wcon k) a _ (by omega) htb hle hri hwo hfr hod hha (wfw_con hk) hwa hnt) (cwV 2 hG (gd_V k_731 k_732 k_733 k_109 k_734) rfl rfl rfl (by decide +kernel) ⟨Nat.le_of_ble_eq_true rfl, Nat.le_of_ble_eq_true rfl⟩) (tw_V (q0 := 0) hP hD hK hE hst hS rfl rfl [0, 1, 2, 3, 4, 5, 6] rfl (by decide)) rfl rfl hl.1 rfl (lv_room (Nat.le_of_ble_eq_true rfl)) d_TM_applyToTwo_7 ⟨Nat.le_of_ble_eq_true rfl, Nat.le_of_ble_eq_true rfl⟩) hP hD hS hA [0, 1, 2, 3, 4, 5, 6] [] rfl rfl (by decide) (by decide) (fun v u H locs hok hP hD hS => ?_) (fun x C u H locs hbad hxx hP hD hS => ?_)
  · skip
    obtain ⟨fs_1, tb_2, le_3, ri_4, wo_5, fr_6, od_7, ha_8⟩ := u
    obtain ⟨r_9, rfl, hp_10⟩ := hok
    obtain ⟨hfs_11, htb_12, hle_13, hri_14, hwo_15, hfr_16, hod_17, hha_18, hres_19⟩ : fs_1 ≤ 1024 ∧ (tb_2 = 0 ∨ tb_2 = 1) ∧ wfa 1024 le_3 ∧ wfa 1024 ri_4 ∧ wfa 1024 wo_5 ∧ rng 1024 fr_6 ∧ rng 1024 od_7 ∧ bln ha_8 ∧ wfw 1024 r_9 := hp_10
    have hP : va_P D classes [((f 4), .inr (2, [.ref (f 5), .ref (f 6), .ref (f 7), .int (nI fs_1), .ref (f 8), .ref (f 9), .ref (f 10), .int tb_2])), ((f 5), .inl (cL, 1024, .inr (.inl le_3))), ((f 6), .inl (cL, 1024, .inr (.inl ri_4))), ((f 7), .inl (cI, 1024, .inl fr_6)), ((f 8), .inl (cI, 1024, .inl od_7)), ((f 9), .inl (cZ, 1024, .inl ha_8)), ((f 10), .inl (cL, 1024, .inr (.inl wo_5)))] H := hP
    have hD : va_D A [((f 4), .inr (2, [.ref (f 5), .ref (f 6), .ref (f 7), .int (nI fs_1), .ref (f 8), .ref (f 9), .ref (f 10), .int tb_2])), ((f 5), .inl (cL, 1024, .inr (.inl le_3))), ((f 6), .inl (cL, 1024, .inr (.inl ri_4))), ((f 7), .inl (cI, 1024, .inl fr_6)), ((f 8), .inl (cI, 1024, .inl od_7)), ((f 9), .inl (cZ, 1024, .inl ha_8)), ((f 10), .inl (cL, 1024, .inr (.inl wo_5)))] := hD
    refine W.eq (g2 := F0 m 10 ls [.long r_9, .ref (f 4)]) rfl ?_
    refine lv_lload hx hb d_TM_applyToTwo_10 (lv_at hl 3 rfl) ?_
    refine em_call (wr := []) (em_runV (As := [.long r_9, .long b]) (rest := []) ⟨hx, hb, hml, hown, hG⟩ (tm_apply l D cI cL cZ cC f fs_1 tb_2 le_3 ri_4 wo_5 fr_6 od_7 ha_8 r_9 b _ (by omega) htb_12 hle_13 hri_14 hwo_15 hfr_16 hod_17 hha_18 hres_19 hwb hnt) (cwV 2 hG (gd_V k_731 k_732 k_733 k_109 k_734) rfl rfl rfl (by decide +kernel) ⟨Nat.le_of_ble_eq_true rfl, Nat.le_of_ble_eq_true rfl⟩) (tw_V (q0 := 0) hP hD hK hE hst hS rfl rfl [0, 1, 2, 3, 4, 5, 6] rfl (by decide)) rfl rfl hl.1 rfl (lv_room (Nat.le_of_ble_eq_true rfl)) d_TM_applyToTwo_12 ⟨Nat.le_of_ble_eq_true rfl, Nat.le_of_ble_eq_true rfl⟩) hP hD hS hA [0, 1, 2, 3, 4, 5, 6] [] rfl rfl (by decide) (by decide) (fun v u H locs hok hP hD hS => ?_) (fun x C u H locs hbad hxx hP hD hS => ?_)
    · skip
      obtain ⟨fs_20, tb_21, le_22, ri_23, wo_24, fr_25, od_26, ha_27⟩ := u
      obtain ⟨r_28, rfl, hp_29⟩ := hok
      obtain ⟨hfs_30, htb_31, hle_32, hri_33, hwo_34, hfr_35, hod_36, hha_37, hres_38⟩ : fs_20 ≤ 1024 ∧ (tb_21 = 0 ∨ tb_21 = 1) ∧ wfa 1024 le_22 ∧ wfa 1024 ri_23 ∧ wfa 1024 wo_24 ∧ rng 1024 fr_25 ∧ rng 1024 od_26 ∧ bln ha_27 ∧ wfw 1024 r_28 := hp_29
      have hP : va_P D classes [((f 4), .inr (2, [.ref (f 5), .ref (f 6), .ref (f 7), .int (nI fs_20), .ref (f 8), .ref (f 9), .ref (f 10), .int tb_21])), ((f 5), .inl (cL, 1024, .inr (.inl le_22))), ((f 6), .inl (cL, 1024, .inr (.inl ri_23))), ((f 7), .inl (cI, 1024, .inl fr_25)), ((f 8), .inl (cI, 1024, .inl od_26)), ((f 9), .inl (cZ, 1024, .inl ha_27)), ((f 10), .inl (cL, 1024, .inr (.inl wo_24)))] H := hP
      have hD : va_D A [((f 4), .inr (2, [.ref (f 5), .ref (f 6), .ref (f 7), .int (nI fs_20), .ref (f 8), .ref (f 9), .ref (f 10), .int tb_21])), ((f 5), .inl (cL, 1024, .inr (.inl le_22))), ((f 6), .inl (cL, 1024, .inr (.inl ri_23))), ((f 7), .inl (cI, 1024, .inl fr_25)), ((f 8), .inl (cI, 1024, .inl od_26)), ((f 9), .inl (cZ, 1024, .inl ha_27)), ((f 10), .inl (cL, 1024, .inr (.inl wo_24)))] := hD
      refine W.eq (g2 := F0 m 15 ls [.long r_28]) rfl ?_
      exact em_lret hx hb hr hlocks hP hD hK hS (fs_20, tb_21, le_22, ri_23, wo_24, fr_25, od_26, ha_27) [0, 1, 2, 3, 4, 5, 6] (by decide) rfl ⟨_, rfl, ⟨(by omega), htb_31, hle_32, hri_33, hwo_34, hfr_35, hod_36, hha_37, hres_38⟩⟩ d_TM_applyToTwo_15
    · skip
      exact hbad.elim
  · skip
    exact hbad.elim
set_option maxHeartbeats 8000000 in
set_option maxRecDepth 100000 in
theorem tm_drop (l : Launch) (D : va_G) (cI cL cZ cC : ClassId) (f : Nat → Nat) (fs : Nat) (tb : Int32) (le : Nat → Int64) (ri : Nat → Int64) (wo : Nat → Int64) (fr : Nat → Int32) (od : Nat → Int32) (ha : Nat → Int32) (n : Nat) (sz : Nat) (hfs : fs ≤ 1024) (htb : (tb = 0 ∨ tb = 1)) (hle : wfa 1024 le) (hri : wfa 1024 ri) (hwo : wfa 1024 wo) (hfr : rng 1024 fr) (hod : rng 1024 od) (hha : bln ha) (hn : n < 1024) (hnt : l.stackTraces = false) : em_Met l y_TM_drop (wz y_TM_drop b_TM_drop 2 none) ({ frames := 0, cells := 0, slots := 0, locals := 0 }) (va_Pc [.ref (f 4), .int (nI n)] (tw_pre D (tys4 cI cL cZ cC) [((f 4), .inr (2, [.ref (f 5), .ref (f 6), .ref (f 7), .int (nI fs), .ref (f 8), .ref (f 9), .ref (f 10), .int tb])), ((f 5), .inl (cL, 1024, .inr (.inl le))), ((f 6), .inl (cL, 1024, .inr (.inl ri))), ((f 7), .inl (cI, 1024, .inl fr)), ((f 8), .inl (cI, 1024, .inl od)), ((f 9), .inl (cZ, 1024, .inl ha)), ((f 10), .inl (cL, 1024, .inr (.inl wo)))] sz)) D (tys4 cI cL cZ cC) (va_A [((f 4), .inr (2, [.ref (f 5), .ref (f 6), .ref (f 7), .int (nI fs), .ref (f 8), .ref (f 9), .ref (f 10), .int tb])), ((f 5), .inl (cL, 1024, .inr (.inl le))), ((f 6), .inl (cL, 1024, .inr (.inl ri))), ((f 7), .inl (cI, 1024, .inl fr)), ((f 8), .inl (cI, 1024, .inl od)), ((f 9), .inl (cZ, 1024, .inl ha)), ((f 10), .inl (cL, 1024, .inr (.inl wo)))] sz) (fun (u : Nat × Int32 × (Nat → Int64) × (Nat → Int64) × (Nat → Int64) × (Nat → Int32) × (Nat → Int32) × (Nat → Int32)) => [((f 4), .inr (2, [.ref (f 5), .ref (f 6), .ref (f 7), .int (nI u.1), .ref (f 8), .ref (f 9), .ref (f 10), .int u.2.1])), ((f 5), .inl (cL, 1024, .inr (.inl u.2.2.1))), ((f 6), .inl (cL, 1024, .inr (.inl u.2.2.2.1))), ((f 7), .inl (cI, 1024, .inl u.2.2.2.2.2.1)), ((f 8), .inl (cI, 1024, .inl u.2.2.2.2.2.2.1)), ((f 9), .inl (cZ, 1024, .inl u.2.2.2.2.2.2.2)), ((f 10), .inl (cL, 1024, .inr (.inl u.2.2.2.2.1)))]) (fun v (u : Nat × Int32 × (Nat → Int64) × (Nat → Int64) × (Nat → Int64) × (Nat → Int32) × (Nat → Int32) × (Nat → Int32)) => v = none ∧ (u.1 ≤ 1024 ∧ (u.2.1 = 0 ∨ u.2.1 = 1) ∧ wfa 1024 u.2.2.1 ∧ wfa 1024 u.2.2.2.1 ∧ wfa 1024 u.2.2.2.2.1 ∧ rng 1024 u.2.2.2.2.2.1 ∧ rng 1024 u.2.2.2.2.2.2.1 ∧ bln u.2.2.2.2.2.2.2)) (fun C (u : Nat × Int32 × (Nat → Int64) × (Nat → Int64) × (Nat → Int64) × (Nat → Int32) × (Nat → Int32) × (Nat → Int32)) => False) 0 0 := by
  refine em_Met.ofW (cc := b_TM_drop) (maxL := 2) (ret := none) (by decide) rfl ?_
  intro p e s m args below meth c s₁ B hml hv hno
  obtain ⟨rfl, ⟨hsz, hP, hK, hD0⟩, hE⟩ := hv
  have hx := B.exec
  have hb := B.bytes
  have hr := B.returns
  have hts := atoms_spec (ws := wz y_TM_drop b_TM_drop 2 none) B.pre
  have hG := wz_G hts
  have hown : s.vm.findClass rn_TM = some m.cls := findClass_of_methodNamed B.named
  have hlocks := B.notSynchronized
  subst hsz
  have hD := hD0.self (sz := s.heap.size)
  have hst := tw_st hP
  generalize hAe : va_A [((f 4), .inr (2, [.ref (f 5), .ref (f 6), .ref (f 7), .int (nI fs), .ref (f 8), .ref (f 9), .ref (f 10), .int tb])), ((f 5), .inl (cL, 1024, .inr (.inl le))), ((f 6), .inl (cL, 1024, .inr (.inl ri))), ((f 7), .inl (cI, 1024, .inl fr)), ((f 8), .inl (cI, 1024, .inl od)), ((f 9), .inl (cZ, 1024, .inl ha)), ((f 10), .inl (cL, 1024, .inr (.inl wo)))] s.heap.size = A at hD hst ⊢
  have hA : ∀ q : Nat, s.heap.size ≤ q → A q := fun q h => by rw [← hAe]; exact Or.inr h
  have hS : va_S A s.heap s.heap [] := va_S.rf
  have hl := lv_entry ([.ref (f 4), .int (nI n)]) (n := 2) (Nat.le_of_ble_eq_true rfl)
  rw [lg_entry_eq]
  generalize (lg_sl ([.ref (f 4), .int (nI n)]) ++ List.replicate (2 - (lg_sl ([.ref (f 4), .int (nI n)])).length) Slot.unset).toArray = ls at hl ⊢
  have hl : lv_has ls 2 [(0, .ref (f 4)), (1, .int (nI n))] := hl
  refine lv_aload_n hx hb d_TM_drop_0 rfl (lv_at hl 0 rfl) ?_
  refine va_get (D := D) (ci := 2) (v := .int (nI fs)) (C := rn_TM) (T := fl_TM) (N := 8) hx hb hG in_TM hown hK hP 0 rfl rfl 3 (by decide) (hG _ k_165) (fun _ h9 => h9) rfl d_TM_drop_1 ?_
  refine lv_sipush (v := 1024) hx hb d_TM_drop_4 (by decide) ?_
  refine lv_icmp_ge (tgt := 30) hx hb d_TM_drop_7 (by decide) (fun hb_1 => ?_) (fun hb_1 => ?_)
  · skip
    have hn_2 : 1024 ≤ fs := (nI_leI (a := 1024) (b := fs) (by omega) (by omega)).mp hb_1
    exact em_vret hx hb hr hlocks hP hD hK hS (fs, tb, le, ri, wo, fr, od, ha) [0, 1, 2, 3, 4, 5, 6] (by decide) rfl ⟨rfl, ⟨(by omega), htb, hle, hri, hwo, hfr, hod, hha⟩⟩ d_TM_drop_30
  · skip
    have hn_3 : ¬ 1024 ≤ fs := fun h => hb_1 ((nI_leI (a := 1024) (b := fs) (by omega) (by omega)).mpr h)
    refine lv_aload_n hx hb d_TM_drop_10 rfl (lv_at hl 0 rfl) ?_
    refine va_get (D := D) (ci := 2) (v := .ref (f 7)) (C := rn_TM) (T := fl_TM) (N := 8) hx hb hG in_TM hown hK hP 0 rfl rfl 2 (by decide) (hG _ k_164) (fun _ h9 => h9) rfl d_TM_drop_11 ?_
    refine lv_aload_n hx hb d_TM_drop_14 rfl (lv_at hl 0 rfl) ?_
    refine va_get (D := D) (ci := 2) (v := .int (nI fs)) (C := rn_TM) (T := fl_TM) (N := 8) hx hb hG in_TM hown hK hP 0 rfl rfl 3 (by decide) (hG _ k_165) (fun _ h9 => h9) rfl d_TM_drop_15 ?_
    refine lv_iload_n hx hb d_TM_drop_18 rfl (lv_at hl 1 rfl) ?_
    refine va_iast hx hb hK hP hD hS 3 0 rfl rfl (vp_in_nI (n := fs) (N := 1024) (by omega) (by omega)) d_TM_drop_19 (fun H locs hP hD hS => ?_)
    have hP : va_P D classes [((f 4), .inr (2, [.ref (f 5), .ref (f 6), .ref (f 7), .int (nI fs), .ref (f 8), .ref (f 9), .ref (f 10), .int tb])), ((f 5), .inl (cL, 1024, .inr (.inl le))), ((f 6), .inl (cL, 1024, .inr (.inl ri))), ((f 7), .inl (cI, 1024, .inl (upd fr (nI fs).toNatClampNeg (nI n)))), ((f 8), .inl (cI, 1024, .inl od)), ((f 9), .inl (cZ, 1024, .inl ha)), ((f 10), .inl (cL, 1024, .inr (.inl wo)))] H := hP
    have hD : va_D A [((f 4), .inr (2, [.ref (f 5), .ref (f 6), .ref (f 7), .int (nI fs), .ref (f 8), .ref (f 9), .ref (f 10), .int tb])), ((f 5), .inl (cL, 1024, .inr (.inl le))), ((f 6), .inl (cL, 1024, .inr (.inl ri))), ((f 7), .inl (cI, 1024, .inl (upd fr (nI fs).toNatClampNeg (nI n)))), ((f 8), .inl (cI, 1024, .inl od)), ((f 9), .inl (cZ, 1024, .inl ha)), ((f 10), .inl (cL, 1024, .inr (.inl wo)))] := hD
    obtain ⟨g_4, eg_4⟩ : ∃ z, z = upd fr (nI fs).toNatClampNeg (nI n) := ⟨_, rfl⟩
    rw [← eg_4] at hP hD
    have hg_4 : rng 1024 g_4 := by rw [eg_4]; exact rng_up hfr (by omega)
    refine lv_aload_n hx hb d_TM_drop_20 rfl (lv_at hl 0 rfl) ?_
    refine lv_dup hx hb d_TM_drop_21 rfl ?_
    refine va_get (D := D) (ci := 2) (v := .int (nI fs)) (C := rn_TM) (T := fl_TM) (N := 8) hx hb hG in_TM hown hK hP 0 rfl rfl 3 (by decide) (hG _ k_165) (fun _ h9 => h9) rfl d_TM_drop_22 ?_
    refine lv_iconst (v := 1) hx hb d_TM_drop_25 (by decide) ?_
    refine lw_iadd (a := fs) (b := 1) hx hb d_TM_drop_26 ?_
    refine va_put (D := D) (ci := 2) (v := .int (nI (fs + 1))) (ty := .int) (C := rn_TM) (T := fl_TM) (N := 8) hx hb hG in_TM tt_TM tk_TM nn_TM hown hK hP hD hS 0 rfl rfl 3 (by decide) (hG _ k_165) (fun _ h9 => h9) rfl (by decide +kernel) rfl rfl (Nat.le_of_ble_eq_true rfl) d_TM_drop_27 (fun H locs hP hD hS => ?_)
    have hP : va_P D classes [((f 4), .inr (2, [.ref (f 5), .ref (f 6), .ref (f 7), .int (nI (fs + 1)), .ref (f 8), .ref (f 9), .ref (f 10), .int tb])), ((f 5), .inl (cL, 1024, .inr (.inl le))), ((f 6), .inl (cL, 1024, .inr (.inl ri))), ((f 7), .inl (cI, 1024, .inl g_4)), ((f 8), .inl (cI, 1024, .inl od)), ((f 9), .inl (cZ, 1024, .inl ha)), ((f 10), .inl (cL, 1024, .inr (.inl wo)))] H := hP
    have hD : va_D A [((f 4), .inr (2, [.ref (f 5), .ref (f 6), .ref (f 7), .int (nI (fs + 1)), .ref (f 8), .ref (f 9), .ref (f 10), .int tb])), ((f 5), .inl (cL, 1024, .inr (.inl le))), ((f 6), .inl (cL, 1024, .inr (.inl ri))), ((f 7), .inl (cI, 1024, .inl g_4)), ((f 8), .inl (cI, 1024, .inl od)), ((f 9), .inl (cZ, 1024, .inl ha)), ((f 10), .inl (cL, 1024, .inr (.inl wo)))] := hD
    exact em_vret hx hb hr hlocks hP hD hK hS (fs + 1, tb, le, ri, wo, g_4, od, ha) [0, 1, 2, 3, 4, 5, 6] (by decide) rfl ⟨rfl, ⟨(by omega), htb, hle, hri, hwo, hg_4, hod, hha⟩⟩ d_TM_drop_30
set_option maxHeartbeats 8000000 in
set_option maxRecDepth 100000 in
theorem tm_put (l : Launch) (D : va_G) (cI cL cZ cC : ClassId) (f : Nat → Nat) (fs : Nat) (tb : Int32) (le : Nat → Int64) (ri : Nat → Int64) (wo : Nat → Int64) (fr : Nat → Int32) (od : Nat → Int32) (ha : Nat → Int32) (n : Nat) (a : Int64) (b : Int64) (sz : Nat) (hfs : fs ≤ 1024) (htb : (tb = 0 ∨ tb = 1)) (hle : wfa 1024 le) (hri : wfa 1024 ri) (hwo : wfa 1024 wo) (hfr : rng 1024 fr) (hod : rng 1024 od) (hha : bln ha) (hn : n < 1024) (hwa : wfw 1024 a) (hwb : wfw 1024 b) (hnt : l.stackTraces = false) : em_Met l y_TM_put (wz y_TM_put b_TM_put 6 (some .long)) ({ frames := 1, cells := 0, slots := 0, locals := 21 }) (va_Pc [.ref (f 4), .int (nI n), .long a, .long b] (tw_pre D (tys4 cI cL cZ cC) [((f 4), .inr (2, [.ref (f 5), .ref (f 6), .ref (f 7), .int (nI fs), .ref (f 8), .ref (f 9), .ref (f 10), .int tb])), ((f 5), .inl (cL, 1024, .inr (.inl le))), ((f 6), .inl (cL, 1024, .inr (.inl ri))), ((f 7), .inl (cI, 1024, .inl fr)), ((f 8), .inl (cI, 1024, .inl od)), ((f 9), .inl (cZ, 1024, .inl ha)), ((f 10), .inl (cL, 1024, .inr (.inl wo)))] sz)) D (tys4 cI cL cZ cC) (va_A [((f 4), .inr (2, [.ref (f 5), .ref (f 6), .ref (f 7), .int (nI fs), .ref (f 8), .ref (f 9), .ref (f 10), .int tb])), ((f 5), .inl (cL, 1024, .inr (.inl le))), ((f 6), .inl (cL, 1024, .inr (.inl ri))), ((f 7), .inl (cI, 1024, .inl fr)), ((f 8), .inl (cI, 1024, .inl od)), ((f 9), .inl (cZ, 1024, .inl ha)), ((f 10), .inl (cL, 1024, .inr (.inl wo)))] sz) (fun (u : Nat × Int32 × (Nat → Int64) × (Nat → Int64) × (Nat → Int64) × (Nat → Int32) × (Nat → Int32) × (Nat → Int32)) => [((f 4), .inr (2, [.ref (f 5), .ref (f 6), .ref (f 7), .int (nI u.1), .ref (f 8), .ref (f 9), .ref (f 10), .int u.2.1])), ((f 5), .inl (cL, 1024, .inr (.inl u.2.2.1))), ((f 6), .inl (cL, 1024, .inr (.inl u.2.2.2.1))), ((f 7), .inl (cI, 1024, .inl u.2.2.2.2.2.1)), ((f 8), .inl (cI, 1024, .inl u.2.2.2.2.2.2.1)), ((f 9), .inl (cZ, 1024, .inl u.2.2.2.2.2.2.2)), ((f 10), .inl (cL, 1024, .inr (.inl u.2.2.2.2.1)))]) (fun v (u : Nat × Int32 × (Nat → Int64) × (Nat → Int64) × (Nat → Int64) × (Nat → Int32) × (Nat → Int32) × (Nat → Int32)) => ∃ r : Int64, v = some (.long r) ∧ (u.1 ≤ 1024 ∧ (u.2.1 = 0 ∨ u.2.1 = 1) ∧ wfa 1024 u.2.2.1 ∧ wfa 1024 u.2.2.2.1 ∧ wfa 1024 u.2.2.2.2.1 ∧ rng 1024 u.2.2.2.2.2.1 ∧ rng 1024 u.2.2.2.2.2.2.1 ∧ bln u.2.2.2.2.2.2.2 ∧ wfw 1024 r)) (fun C (u : Nat × Int32 × (Nat → Int64) × (Nat → Int64) × (Nat → Int64) × (Nat → Int32) × (Nat → Int32) × (Nat → Int32)) => False) 0 0 := by
  refine em_Met.ofW (cc := b_TM_put) (maxL := 6) (ret := (some .long)) (by decide) rfl ?_
  intro p e s m args below meth c s₁ B hml hv hno
  obtain ⟨rfl, ⟨hsz, hP, hK, hD0⟩, hE⟩ := hv
  have hx := B.exec
  have hb := B.bytes
  have hr := B.returns
  have hts := atoms_spec (ws := wz y_TM_put b_TM_put 6 (some .long)) B.pre
  have hG := wz_G hts
  have hown : s.vm.findClass rn_TM = some m.cls := findClass_of_methodNamed B.named
  have hlocks := B.notSynchronized
  subst hsz
  have hD := hD0.self (sz := s.heap.size)
  have hst := tw_st hP
  generalize hAe : va_A [((f 4), .inr (2, [.ref (f 5), .ref (f 6), .ref (f 7), .int (nI fs), .ref (f 8), .ref (f 9), .ref (f 10), .int tb])), ((f 5), .inl (cL, 1024, .inr (.inl le))), ((f 6), .inl (cL, 1024, .inr (.inl ri))), ((f 7), .inl (cI, 1024, .inl fr)), ((f 8), .inl (cI, 1024, .inl od)), ((f 9), .inl (cZ, 1024, .inl ha)), ((f 10), .inl (cL, 1024, .inr (.inl wo)))] s.heap.size = A at hD hst ⊢
  have hA : ∀ q : Nat, s.heap.size ≤ q → A q := fun q h => by rw [← hAe]; exact Or.inr h
  have hS : va_S A s.heap s.heap [] := va_S.rf
  have hl := lv_entry ([.ref (f 4), .int (nI n), .long a, .long b]) (n := 6) (Nat.le_of_ble_eq_true rfl)
  rw [lg_entry_eq]
  generalize (lg_sl ([.ref (f 4), .int (nI n), .long a, .long b]) ++ List.replicate (6 - (lg_sl ([.ref (f 4), .int (nI n), .long a, .long b])).length) Slot.unset).toArray = ls at hl ⊢
  have hl : lv_has ls 6 [(0, .ref (f 4)), (1, .int (nI n)), (2, .long a), (4, .long b)] := hl
  refine lv_aload_n hx hb d_TM_put_0 rfl (lv_at hl 0 rfl) ?_
  refine va_get (D := D) (ci := 2) (v := .ref (f 5)) (C := rn_TM) (T := fl_TM) (N := 8) hx hb hG in_TM hown hK hP 0 rfl rfl 0 (by decide) (hG _ k_162) (fun _ h9 => h9) rfl d_TM_put_1 ?_
  refine lv_iload_n hx hb d_TM_put_4 rfl (lv_at hl 1 rfl) ?_
  refine lv_lload_n hx hb d_TM_put_5 rfl (lv_at hl 2 rfl) ?_
  refine va_last hx hb hK hP hD hS 1 1 rfl rfl (vp_in_nI (n := n) (N := 1024) (by omega) (by omega)) d_TM_put_6 (fun H locs hP hD hS => ?_)
  have hP : va_P D classes [((f 4), .inr (2, [.ref (f 5), .ref (f 6), .ref (f 7), .int (nI fs), .ref (f 8), .ref (f 9), .ref (f 10), .int tb])), ((f 5), .inl (cL, 1024, .inr (.inl (vp_updL le (nI n).toNatClampNeg a)))), ((f 6), .inl (cL, 1024, .inr (.inl ri))), ((f 7), .inl (cI, 1024, .inl fr)), ((f 8), .inl (cI, 1024, .inl od)), ((f 9), .inl (cZ, 1024, .inl ha)), ((f 10), .inl (cL, 1024, .inr (.inl wo)))] H := hP
  have hD : va_D A [((f 4), .inr (2, [.ref (f 5), .ref (f 6), .ref (f 7), .int (nI fs), .ref (f 8), .ref (f 9), .ref (f 10), .int tb])), ((f 5), .inl (cL, 1024, .inr (.inl (vp_updL le (nI n).toNatClampNeg a)))), ((f 6), .inl (cL, 1024, .inr (.inl ri))), ((f 7), .inl (cI, 1024, .inl fr)), ((f 8), .inl (cI, 1024, .inl od)), ((f 9), .inl (cZ, 1024, .inl ha)), ((f 10), .inl (cL, 1024, .inr (.inl wo)))] := hD
  obtain ⟨g_1, eg_1⟩ : ∃ z, z = vp_updL le (nI n).toNatClampNeg a := ⟨_, rfl⟩
  rw [← eg_1] at hP hD
  have hg_1 : wfa 1024 g_1 := by rw [eg_1]; exact wfa_up hle hwa
  refine lv_aload_n hx hb d_TM_put_7 rfl (lv_at hl 0 rfl) ?_
  refine va_get (D := D) (ci := 2) (v := .ref (f 6)) (C := rn_TM) (T := fl_TM) (N := 8) hx hb hG in_TM hown hK hP 0 rfl rfl 1 (by decide) (hG _ k_163) (fun _ h9 => h9) rfl d_TM_put_8 ?_
  refine lv_iload_n hx hb d_TM_put_11 rfl (lv_at hl 1 rfl) ?_
  refine lv_lload hx hb d_TM_put_12 (lv_at hl 3 rfl) ?_
  refine va_last hx hb hK hP hD hS 2 1 rfl rfl (vp_in_nI (n := n) (N := 1024) (by omega) (by omega)) d_TM_put_14 (fun H locs hP hD hS => ?_)
  have hP : va_P D classes [((f 4), .inr (2, [.ref (f 5), .ref (f 6), .ref (f 7), .int (nI fs), .ref (f 8), .ref (f 9), .ref (f 10), .int tb])), ((f 5), .inl (cL, 1024, .inr (.inl g_1))), ((f 6), .inl (cL, 1024, .inr (.inl (vp_updL ri (nI n).toNatClampNeg b)))), ((f 7), .inl (cI, 1024, .inl fr)), ((f 8), .inl (cI, 1024, .inl od)), ((f 9), .inl (cZ, 1024, .inl ha)), ((f 10), .inl (cL, 1024, .inr (.inl wo)))] H := hP
  have hD : va_D A [((f 4), .inr (2, [.ref (f 5), .ref (f 6), .ref (f 7), .int (nI fs), .ref (f 8), .ref (f 9), .ref (f 10), .int tb])), ((f 5), .inl (cL, 1024, .inr (.inl g_1))), ((f 6), .inl (cL, 1024, .inr (.inl (vp_updL ri (nI n).toNatClampNeg b)))), ((f 7), .inl (cI, 1024, .inl fr)), ((f 8), .inl (cI, 1024, .inl od)), ((f 9), .inl (cZ, 1024, .inl ha)), ((f 10), .inl (cL, 1024, .inr (.inl wo)))] := hD
  obtain ⟨g_2, eg_2⟩ : ∃ z, z = vp_updL ri (nI n).toNatClampNeg b := ⟨_, rfl⟩
  rw [← eg_2] at hP hD
  have hg_2 : wfa 1024 g_2 := by rw [eg_2]; exact wfa_up hri hwb
  refine lv_bipush (v := 23) hx hb d_TM_put_15 (by decide) ?_
  refine lv_iload_n hx hb d_TM_put_17 rfl (lv_at hl 1 rfl) ?_
  refine W.callRL (W.runS (As := [.int 23, .int (nI n)]) (rest := []) ⟨hx, hb, hml, hown, hG⟩ (wd_of l D cI cL cZ cC 23 (nI n) ) (va_cwS 2 hG (gd_T k_735 k_736 k_127 k_737) rfl rfl rfl (by decide +kernel) ⟨Nat.le_of_ble_eq_true rfl, Nat.le_of_ble_eq_true rfl⟩) (wq_S hP hK [] rfl) rfl rfl hl.1 rfl (lv_room (Nat.le_of_ble_eq_true rfl)) d_TM_put_18 ⟨Nat.le_of_ble_eq_true rfl, Nat.le_of_ble_eq_true rfl⟩) ?_
  refine W.eq (g2 := F0 m 21 ls [.long (wof 23 (nI n))]) rfl ?_
  exact em_lret hx hb hr hlocks hP hD hK hS (fs, tb, g_1, g_2, wo, fr, od, ha) [0, 1, 2, 3, 4, 5, 6] (by decide) rfl ⟨_, rfl, ⟨(by omega), htb, hg_1, hg_2, hwo, hfr, hod, hha, (wfw_cell (by omega))⟩⟩ d_TM_put_21
