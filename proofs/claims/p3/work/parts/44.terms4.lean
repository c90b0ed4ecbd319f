set_option maxHeartbeats 8000000 in
set_option maxRecDepth 100000 in
theorem tm_joinConstant (l : Launch) (D : va_G) (cI cL cZ cC : ClassId) (f : Nat → Nat) (fs : Nat) (tb : Int32) (le : Nat → Int64) (ri : Nat → Int64) (wo : Nat → Int64) (fr : Nat → Int32) (od : Nat → Int32) (ha : Nat → Int32) (n : Nat) (a : Int64) (b : Int64) (q : Int32) (sz : Nat) (hfs : fs ≤ 1024) (htb : (tb = 0 ∨ tb = 1)) (hle : wfa 1024 le) (hri : wfa 1024 ri) (hwo : wfa 1024 wo) (hfr : rng 1024 fr) (hod : rng 1024 od) (hha : bln ha) (hn : n < 1024) (hwa : wfw 1024 a) (hwb : wfw 1024 b) (hnt : l.stackTraces = false) : em_Met l y_TM_joinConstant (wz y_TM_joinConstant b_TM_joinConstant 10 (some .long)) ({ frames := 2, cells := 0, slots := 0, locals := 46 }) (va_Pc [.ref (f 4), .int (nI n), .long a, .long b, .int q] (tw_pre D (tys4 cI cL cZ cC) [((f 4), .inr (2, [.ref (f 5), .ref (f 6), .ref (f 7), .int (nI fs), .ref (f 8), .ref (f 9), .ref (f 10), .int tb])), ((f 5), .inl (cL, 1024, .inr (.inl le))), ((f 6), .inl (cL, 1024, .inr (.inl ri))), ((f 7), .inl (cI, 1024, .inl fr)), ((f 8), .inl (cI, 1024, .inl od)), ((f 9), .inl (cZ, 1024, .inl ha)), ((f 10), .inl (cL, 1024, .inr (.inl wo)))] sz)) D (tys4 cI cL cZ cC) (va_A [((f 4), .inr (2, [.ref (f 5), .ref (f 6), .ref (f 7), .int (nI fs), .ref (f 8), .ref (f 9), .ref (f 10), .int tb])), ((f 5), .inl (cL, 1024, .inr (.inl le))), ((f 6), .inl (cL, 1024, .inr (.inl ri))), ((f 7), .inl (cI, 1024, .inl fr)), ((f 8), .inl (cI, 1024, .inl od)), ((f 9), .inl (cZ, 1024, .inl ha)), ((f 10), .inl (cL, 1024, .inr (.inl wo)))] sz) (fun (u : Nat × Int32 × (Nat → Int64) × (Nat → Int64) × (Nat → Int64) × (Nat → Int32) × (Nat → Int32) × (Nat → Int32)) => [((f 4), .inr (2, [.ref (f 5), .ref (f 6), .ref (f 7), .int (nI u.1), .ref (f 8), .ref (f 9), .ref (f 10), .int u.2.1])), ((f 5), .inl (cL, 1024, .inr (.inl u.2.2.1))), ((f 6), .inl (cL, 1024, .inr (.inl u.2.2.2.1))), ((f 7), .inl (cI, 1024, .inl u.2.2.2.2.2.1)), ((f 8), .inl (cI, 1024, .inl u.2.2.2.2.2.2.1)), ((f 9), .inl (cZ, 1024, .inl u.2.2.2.2.2.2.2)), ((f 10), .inl (cL, 1024, .inr (.inl u.2.2.2.2.1)))]) (fun v (u : Nat × Int32 × (Nat → Int64) × (Nat → Int64) × (Nat → Int64) × (Nat → Int32) × (Nat → Int32) × (Nat → Int32)) => ∃ r : Int64, v = some (.long r) ∧ (u.1 ≤ 1024 ∧ (u.2.1 = 0 ∨ u.2.1 = 1) ∧ wfa 1024 u.2.2.1 ∧ wfa 1024 u.2.2.2.1 ∧ wfa 1024 u.2.2.2.2.1 ∧ rng 1024 u.2.2.2.2.2.1 ∧ rng 1024 u.2.2.2.2.2.2.1 ∧ bln u.2.2.2.2.2.2.2 ∧ wfw 1024 r)) (fun C (u : Nat × Int32 × (Nat → Int64) × (Nat → Int64) × (Nat → Int64) × (Nat → Int32) × (Nat → Int32) × (Nat → Int32)) => False) 0 0 := by
  refine em_Met.ofW (cc := b_TM_joinConstant) (maxL := 10) (ret := (some .long)) (by decide) rfl ?_
  intro p e s m args below meth c s₁ B hml hv hno
  obtain ⟨rfl, ⟨hsz, hP, hK, hD0⟩, hE⟩ := hv
  have hx := B.exec
  have hb := B.bytes
  have hr := B.returns
  have hts := atoms_spec (ws := wz y_TM_joinConstant b_TM_joinConstant 10 (some .long)) B.pre
  have hG := wz_G hts
  have hown : s.vm.findClass rn_TM = some m.cls := findClass_of_methodNamed B.named
  have hlocks := B.notSynchronized
  subst hsz
  have hD := hD0.self (sz := s.heap.size)
  have hst := tw_st hP
  generalize hAe : va_A [((f 4), .inr (2, [.ref (f 5), .ref (f 6), .ref (f 7), .int (nI fs), .ref (f 8), .ref (f 9), .ref (f 10), .int tb])), ((f 5), .inl (cL, 1024, .inr (.inl le))), ((f 6), .inl (cL, 1024, .inr (.inl ri))), ((f 7), .inl (cI, 1024, .inl fr)), ((f 8), .inl (cI, 1024, .inl od)), ((f 9), .inl (cZ, 1024, .inl ha)), ((f 10), .inl (cL, 1024, .inr (.inl wo)))] s.heap.size = A at hD hst ⊢
  have hA : ∀ q : Nat, s.heap.size ≤ q → A q := fun q h => by rw [← hAe]; exact Or.inr h
  have hS : va_S A s.heap s.heap [] := va_S.rf
  have hl := lv_entry ([.ref (f 4), .int (nI n), .long a, .long b, .int q]) (n := 10) (Nat.le_of_ble_eq_true rfl)
  rw [lg_entry_eq]
  generalize (lg_sl ([.ref (f 4), .int (nI n), .long a, .long b, .int q]) ++ List.replicate (10 - (lg_sl ([.ref (f 4), .int (nI n), .long a, .long b, .int q])).length) Slot.unset).toArray = ls at hl ⊢
  have hl : lv_has ls 10 [(0, .ref (f 4)), (1, .int (nI n)), (2, .long a), (4, .long b), (6, .int q)] := hl
  refine lv_iload hx hb d_TM_joinConstant_0 (lv_at hl 4 rfl) ?_
  refine lv_if_eq (tgt := 22) hx hb d_TM_joinConstant_2 (by decide) (fun hb_1 => ?_) (fun hb_1 => ?_)
  · skip
    refine lv_lload hx hb d_TM_joinConstant_22 (lv_at hl 3 rfl) ?_
    refine lv_iconst (v := 2) hx hb d_TM_joinConstant_24 (by decide) ?_
    refine W.callRL (W.runS (As := [.int 2]) (rest := [.long b]) ⟨hx, hb, hml, hown, hG⟩ (wd_constant l D cI cL cZ cC 2 ) (va_cwS 1 hG (gd_T k_728 k_729 k_127 k_730) rfl rfl rfl (by decide +kernel) ⟨Nat.le_of_ble_eq_true rfl, Nat.le_of_ble_eq_true rfl⟩) (wq_S hP hK [] rfl) rfl rfl hl.1 rfl (lv_room (Nat.le_of_ble_eq_true rfl)) d_TM_joinConstant_25 ⟨Nat.le_of_ble_eq_true rfl, Nat.le_of_ble_eq_true rfl⟩) ?_
    refine W.eq (g2 := F0 m 28 ls [.long (wcon 2), .long b]) rfl ?_
    refine W.lcmp hx hb d_TM_joinConstant_28 ?_
    refine lv_if_ne (tgt := 39) hx hb d_TM_joinConstant_29 (by decide) (fun hb_2 => ?_) (fun hb_2 => ?_)
    · skip
      refine lv_lload_n hx hb d_TM_joinConstant_39 rfl (lv_at hl 2 rfl) ?_
      refine W.callR (W.runS (As := [.long a]) (rest := []) ⟨hx, hb, hml, hown, hG⟩ (wd_isCell l D cI cL cZ cC a ) (va_cwS 1 hG (gd_T k_752 k_753 k_127 k_754) rfl rfl rfl (by decide +kernel) ⟨Nat.le_of_ble_eq_true rfl, Nat.le_of_ble_eq_true rfl⟩) (wq_S hP hK [] rfl) rfl rfl hl.1 rfl (lv_room (Nat.le_of_ble_eq_true rfl)) d_TM_joinConstant_40 ⟨Nat.le_of_ble_eq_true rfl, Nat.le_of_ble_eq_true rfl⟩) ?_
      refine W.eq (g2 := F0 m 43 ls [.int (wcell a)]) rfl ?_
      refine lv_if_eq (tgt := 93) hx hb d_TM_joinConstant_43 (by decide) (fun hb_3 => ?_) (fun hb_3 => ?_)
      · skip
        refine lv_aload_n hx hb d_TM_joinConstant_93 rfl (lv_at hl 0 rfl) ?_
        refine lv_iload_n hx hb d_TM_joinConstant_94 rfl (lv_at hl 1 rfl) ?_
        refine lv_aload_n hx hb d_TM_joinConstant_95 rfl (lv_at hl 0 rfl) ?_
        refine lv_iconst (v := 5) hx hb d_TM_joinConstant_96 (by decide) ?_
        refine W.callRL (W.runS (As := [.int 5]) (rest := [.ref (f 4), .int (nI n), .ref (f 4)]) ⟨hx, hb, hml, hown, hG⟩ (wd_constant l D cI cL cZ cC 5 ) (va_cwS 1 hG (gd_T k_728 k_729 k_127 k_730) rfl rfl rfl (by decide +kernel) ⟨Nat.le_of_ble_eq_true rfl, Nat.le_of_ble_eq_true rfl⟩) (wq_S hP hK [] rfl) rfl rfl hl.1 rfl (lv_room (Nat.le_of_ble_eq_true rfl)) d_TM_joinConstant_97 ⟨Nat.le_of_ble_eq_true rfl, Nat.le_of_ble_eq_true rfl⟩) ?_
        refine W.eq (g2 := F0 m 100 ls [.long (wcon 5), .ref (f 4), .int (nI n), .ref (f 4)]) rfl ?_
        refine lv_lload_n hx hb d_TM_joinConstant_100 rfl (lv_at hl 2 rfl) ?_
        refine em_call (wr := []) (em_runV (As := [.long (wcon 5), .long a]) (rest := [.int (nI n), .ref (f 4)]) ⟨hx, hb, hml, hown, hG⟩ (tm_apply l D cI cL cZ cC f fs tb le ri wo fr od ha (wcon 5) a _ (by omega) htb hle hri hwo hfr hod hha (wfw_con (by decide)) hwa hnt) (cwV 2 hG (gd_V k_731 k_732 k_733 k_109 k_734) rfl rfl rfl (by decide +kernel) ⟨Nat.le_of_ble_eq_true rfl, Nat.le_of_ble_eq_true rfl⟩) (tw_V (q0 := 0) hP hD hK hE hst hS rfl rfl [0, 1, 2, 3, 4, 5, 6] rfl (by decide)) rfl rfl hl.1 rfl (lv_room (Nat.le_of_ble_eq_true rfl)) d_TM_joinConstant_101 ⟨Nat.le_of_ble_eq_true rfl, Nat.le_of_ble_eq_true rfl⟩) hP hD hS hA [0, 1, 2, 3, 4, 5, 6] [] rfl rfl (by decide) (by decide) (fun v u H locs hok hP hD hS => ?_) (fun x C u H locs hbad hxx hP hD hS => ?_)
        · skip
          obtain ⟨fs_4, tb_5, le_6, ri_7, wo_8, fr_9, od_10, ha_11⟩ := u
          obtain ⟨r_12, rfl, hp_13⟩ := hok
          obtain ⟨hfs_14, htb_15, hle_16, hri_17, hwo_18, hfr_19, hod_20, hha_21, hres_22⟩ : fs_4 ≤ 1024 ∧ (tb_5 = 0 ∨ tb_5 = 1) ∧ wfa 1024 le_6 ∧ wfa 1024 ri_7 ∧ wfa 1024 wo_8 ∧ rng 1024 fr_9 ∧ rng 1024 od_10 ∧ bln ha_11 ∧ wfw 1024 r_12 := hp_13
          have hP : va_P D classes [((f 4), .inr (2, [.ref (f 5), .ref (f 6), .ref (f 7), .int (nI fs_4), .ref (f 8), .ref (f 9), .ref (f 10), .int tb_5])), ((f 5), .inl (cL, 1024, .inr (.inl le_6))), ((f 6), .inl (cL, 1024, .inr (.inl ri_7))), ((f 7), .inl (cI, 1024, .inl fr_9)), ((f 8), .inl (cI, 1024, .inl od_10)), ((f 9), .inl (cZ, 1024, .inl ha_11)), ((f 10), .inl (cL, 1024, .inr (.inl wo_8)))] H := hP
          have hD : va_D A [((f 4), .inr (2, [.ref (f 5), .ref (f 6), .ref (f 7), .int (nI fs_4), .ref (f 8), .ref (f 9), .ref (f 10), .int tb_5])), ((f 5), .inl (cL, 1024, .inr (.inl le_6))), ((f 6), .inl (cL, 1024, .inr (.inl ri_7))), ((f 7), .inl (cI, 1024, .inl fr_9)), ((f 8), .inl (cI, 1024, .inl od_10)), ((f 9), .inl (cZ, 1024, .inl ha_11)), ((f 10), .inl (cL, 1024, .inr (.inl wo_8)))] := hD
          refine W.eq (g2 := F0 m 104 ls [.long r_12, .int (nI n), .ref (f 4)]) rfl ?_
          refine lv_lload hx hb d_TM_joinConstant_104 (lv_at hl 3 rfl) ?_
          refine em_call (wr := []) (em_runV (As := [.int (nI n), .long r_12, .long b]) (rest := []) ⟨hx, hb, hml, hown, hG⟩ (tm_put l D cI cL cZ cC f fs_4 tb_5 le_6 ri_7 wo_8 fr_9 od_10 ha_11 n r_12 b _ (by omega) htb_15 hle_16 hri_17 hwo_18 hfr_19 hod_20 hha_21 (by omega) hres_22 hwb hnt) (cwV 3 hG (gd_V k_790 k_792 k_20 k_109 k_793) rfl rfl rfl (by decide +kernel) ⟨Nat.le_of_ble_eq_true rfl, Nat.le_of_ble_eq_true rfl⟩) (tw_V (q0 := 0) hP hD hK hE hst hS rfl rfl [0, 1, 2, 3, 4, 5, 6] rfl (by decide)) rfl rfl hl.1 rfl (lv_room (Nat.le_of_ble_eq_true rfl)) d_TM_joinConstant_106 ⟨Nat.le_of_ble_eq_true rfl, Nat.le_of_ble_eq_true rfl⟩) hP hD hS hA [0, 1, 2, 3, 4, 5, 6] [] rfl rfl (by decide) (by decide) (fun v u H locs hok hP hD hS => ?_) (fun x C u H locs hbad hxx hP hD hS => ?_)
          · skip
            obtain ⟨fs_23, tb_24, le_25, ri_26, wo_27, fr_28, od_29, ha_30⟩ := u
            obtain ⟨r_31, rfl, hp_32⟩ := hok
            obtain ⟨hfs_33, htb_34, hle_35, hri_36, hwo_37, hfr_38, hod_39, hha_40, hres_41⟩ : fs_23 ≤ 1024 ∧ (tb_24 = 0 ∨ tb_24 = 1) ∧ wfa 1024 le_25 ∧ wfa 1024 ri_26 ∧ wfa 1024 wo_27 ∧ rng 1024 fr_28 ∧ rng 1024 od_29 ∧ bln ha_30 ∧ wfw 1024 r_31 := hp_32
            have hP : va_P D classes [((f 4), .inr (2, [.ref (f 5), .ref (f 6), .ref (f 7), .int (nI fs_23), .ref (f 8), .ref (f 9), .ref (f 10), .int tb_24])), ((f 5), .inl (cL, 1024, .inr (.inl le_25))), ((f 6), .inl (cL, 1024, .inr (.inl ri_26))), ((f 7), .inl (cI, 1024, .inl fr_28)), ((f 8), .inl (cI, 1024, .inl od_29)), ((f 9), .inl (cZ, 1024, .inl ha_30)), ((f 10), .inl (cL, 1024, .inr (.inl wo_27)))] H := hP
            have hD : va_D A [((f 4), .inr (2, [.ref (f 5), .ref (f 6), .ref (f 7), .int (nI fs_23), .ref (f 8), .ref (f 9), .ref (f 10), .int tb_24])), ((f 5), .inl (cL, 1024, .inr (.inl le_25))), ((f 6), .inl (cL, 1024, .inr (.inl ri_26))), ((f 7), .inl (cI, 1024, .inl fr_28)), ((f 8), .inl (cI, 1024, .inl od_29)), ((f 9), .inl (cZ, 1024, .inl ha_30)), ((f 10), .inl (cL, 1024, .inr (.inl wo_27)))] := hD
            refine W.eq (g2 := F0 m 109 ls [.long r_31]) rfl ?_
            exact em_lret hx hb hr hlocks hP hD hK hS (fs_23, tb_24, le_25, ri_26, wo_27, fr_28, od_29, ha_30) [0, 1, 2, 3, 4, 5, 6] (by decide) rfl ⟨_, rfl, ⟨(by omega), htb_34, hle_35, hri_36, hwo_37, hfr_38, hod_39, hha_40, hres_41⟩⟩ d_TM_joinConstant_109
          · skip
            exact hbad.elim
        · skip
          exact hbad.elim
      · skip
        obtain ⟨j_42, hj_42, ej_42⟩ := wcell_t hwa hb_3
        refine lv_lload_n hx hb d_TM_joinConstant_46 rfl (lv_at hl 2 rfl) ?_
        refine W.callR (W.runS (As := [.long a]) (rest := []) ⟨hx, hb, hml, hown, hG⟩ (wd_number l D cI cL cZ cC a ) (va_cwS 1 hG (gd_T k_755 k_756 k_127 k_757) rfl rfl rfl (by decide +kernel) ⟨Nat.le_of_ble_eq_true rfl, Nat.le_of_ble_eq_true rfl⟩) (wq_S hP hK [] rfl) rfl rfl hl.1 rfl (lv_room (Nat.le_of_ble_eq_true rfl)) d_TM_joinConstant_47 ⟨Nat.le_of_ble_eq_true rfl, Nat.le_of_ble_eq_true rfl⟩) ?_
        refine W.eq (g2 := F0 m 50 ls [.int a.toInt32]) rfl ?_
        refine W.eq (g2 := F0 m 50 ls [.int (nI j_42)]) (by rw [ej_42]) ?_
        refine lv_istore (lv' := [(7, .int (nI j_42)), (0, .ref (f 4)), (1, .int (nI n)), (2, .long a), (4, .long b), (6, .int q)]) hx hb d_TM_joinConstant_50 hl (Nat.le_of_ble_eq_true rfl) rfl (fun ls hl => ?_)
        refine lv_aload_n hx hb d_TM_joinConstant_52 rfl (lv_at hl 1 rfl) ?_
        refine lv_bipush (v := 8) hx hb d_TM_joinConstant_53 (by decide) ?_
        refine W.callRL (W.runS (As := [.int 8]) (rest := [.ref (f 4)]) ⟨hx, hb, hml, hown, hG⟩ (wd_constant l D cI cL cZ cC 8 ) (va_cwS 1 hG (gd_T k_728 k_729 k_127 k_730) rfl rfl rfl (by decide +kernel) ⟨Nat.le_of_ble_eq_true rfl, Nat.le_of_ble_eq_true rfl⟩) (wq_S hP hK [] rfl) rfl rfl hl.1 rfl (lv_room (Nat.le_of_ble_eq_true rfl)) d_TM_joinConstant_55 ⟨Nat.le_of_ble_eq_true rfl, Nat.le_of_ble_eq_true rfl⟩) ?_
        refine W.eq (g2 := F0 m 58 ls [.long (wcon 8), .ref (f 4)]) rfl ?_
        refine lv_aload_n hx hb d_TM_joinConstant_58 rfl (lv_at hl 1 rfl) ?_
        refine va_get (D := D) (ci := 2) (v := .ref (f 5)) (C := rn_TM) (T := fl_TM) (N := 8) hx hb hG in_TM hown hK hP 0 rfl rfl 0 (by decide) (hG _ k_162) (fun _ h9 => h9) rfl d_TM_joinConstant_59 ?_
        refine lv_iload hx hb d_TM_joinConstant_62 (lv_at hl 0 rfl) ?_
        refine va_lald hx hb hK hP 1 1 rfl rfl (vp_in_nI (n := j_42) (N := 1024) (by omega) (by omega)) d_TM_joinConstant_64 ?_
        refine lv_topl (fun w_43 ew_43 => ?_)
        have hw_43 : wfw 1024 w_43 := by rw [ew_43]; exact hle _
        refine em_call (wr := []) (em_runV (As := [.long (wcon 8), .long w_43]) (rest := []) ⟨hx, hb, hml, hown, hG⟩ (tm_apply l D cI cL cZ cC f fs tb le ri wo fr od ha (wcon 8) w_43 _ (by omega) htb hle hri hwo hfr hod hha (wfw_con (by decide)) hw_43 hnt) (cwV 2 hG (gd_V k_731 k_732 k_733 k_109 k_734) rfl rfl rfl (by decide +kernel) ⟨Nat.le_of_ble_eq_true rfl, Nat.le_of_ble_eq_true rfl⟩) (tw_V (q0 := 0) hP hD hK hE hst hS rfl rfl [0, 1, 2, 3, 4, 5, 6] rfl (by decide)) rfl rfl hl.1 rfl (lv_room (Nat.le_of_ble_eq_true rfl)) d_TM_joinConstant_65 ⟨Nat.le_of_ble_eq_true rfl, Nat.le_of_ble_eq_true rfl⟩) hP hD hS hA [0, 1, 2, 3, 4, 5, 6] [] rfl rfl (by decide) (by decide) (fun v u H locs hok hP hD hS => ?_) (fun x C u H locs hbad hxx hP hD hS => ?_)
        · skip
          obtain ⟨fs_44, tb_45, le_46, ri_47, wo_48, fr_49, od_50, ha_51⟩ := u
          obtain ⟨r_52, rfl, hp_53⟩ := hok
          obtain ⟨hfs_54, htb_55, hle_56, hri_57, hwo_58, hfr_59, hod_60, hha_61, hres_62⟩ : fs_44 ≤ 1024 ∧ (tb_45 = 0 ∨ tb_45 = 1) ∧ wfa 1024 le_46 ∧ wfa 1024 ri_47 ∧ wfa 1024 wo_48 ∧ rng 1024 fr_49 ∧ rng 1024 od_50 ∧ bln ha_51 ∧ wfw 1024 r_52 := hp_53
          have hP : va_P D classes [((f 4), .inr (2, [.ref (f 5), .ref (f 6), .ref (f 7), .int (nI fs_44), .ref (f 8), .ref (f 9), .ref (f 10), .int tb_45])), ((f 5), .inl (cL, 1024, .inr (.inl le_46))), ((f 6), .inl (cL, 1024, .inr (.inl ri_47))), ((f 7), .inl (cI, 1024, .inl fr_49)), ((f 8), .inl (cI, 1024, .inl od_50)), ((f 9), .inl (cZ, 1024, .inl ha_51)), ((f 10), .inl (cL, 1024, .inr (.inl wo_48)))] H := hP
          have hD : va_D A [((f 4), .inr (2, [.ref (f 5), .ref (f 6), .ref (f 7), .int (nI fs_44), .ref (f 8), .ref (f 9), .ref (f 10), .int tb_45])), ((f 5), .inl (cL, 1024, .inr (.inl le_46))), ((f 6), .inl (cL, 1024, .inr (.inl ri_47))), ((f 7), .inl (cI, 1024, .inl fr_49)), ((f 8), .inl (cI, 1024, .inl od_50)), ((f 9), .inl (cZ, 1024, .inl ha_51)), ((f 10), .inl (cL, 1024, .inr (.inl wo_48)))] := hD
          refine W.eq (g2 := F0 m 68 ls [.long r_52]) rfl ?_
          refine lv_lstore (lv' := [(8, .long r_52), (7, .int (nI j_42)), (0, .ref (f 4)), (1, .int (nI n)), (2, .long a), (4, .long b), (6, .int q)]) hx hb d_TM_joinConstant_68 hl (Nat.le_of_ble_eq_true rfl) rfl (fun ls hl => ?_)
          refine lv_aload_n hx hb d_TM_joinConstant_70 rfl (lv_at hl 2 rfl) ?_
          refine lv_iload_n hx hb d_TM_joinConstant_71 rfl (lv_at hl 3 rfl) ?_
          refine lv_aload_n hx hb d_TM_joinConstant_72 rfl (lv_at hl 2 rfl) ?_
          refine lv_iload hx hb d_TM_joinConstant_73 (lv_at hl 1 rfl) ?_
          refine lv_lload hx hb d_TM_joinConstant_75 (lv_at hl 0 rfl) ?_
          refine lv_aload_n hx hb d_TM_joinConstant_77 rfl (lv_at hl 2 rfl) ?_
          refine va_get (D := D) (ci := 2) (v := .ref (f 6)) (C := rn_TM) (T := fl_TM) (N := 8) hx hb hG in_TM hown hK hP 0 rfl rfl 1 (by decide) (hG _ k_163) (fun _ h9 => h9) rfl d_TM_joinConstant_78 ?_
          refine lv_iload hx hb d_TM_joinConstant_81 (lv_at hl 1 rfl) ?_
          refine va_lald hx hb hK hP 2 1 rfl rfl (vp_in_nI (n := j_42) (N := 1024) (by omega) (by omega)) d_TM_joinConstant_83 ?_
          refine lv_topl (fun w_63 ew_63 => ?_)
          have hw_63 : wfw 1024 w_63 := by rw [ew_63]; exact hri_57 _
          refine em_call (wr := []) (em_runV (As := [.int (nI j_42), .long r_52, .long w_63]) (rest := [.int (nI n), .ref (f 4)]) ⟨hx, hb, hml, hown, hG⟩ (tm_put l D cI cL cZ cC f fs_44 tb_45 le_46 ri_47 wo_48 fr_49 od_50 ha_51 j_42 r_52 w_63 _ (by omega) htb_55 hle_56 hri_57 hwo_58 hfr_59 hod_60 hha_61 (by omega) hres_62 hw_63 hnt) (cwV 3 hG (gd_V k_790 k_792 k_20 k_109 k_793) rfl rfl rfl (by decide +kernel) ⟨Nat.le_of_ble_eq_true rfl, Nat.le_of_ble_eq_true rfl⟩) (tw_V (q0 := 0) hP hD hK hE hst hS rfl rfl [0, 1, 2, 3, 4, 5, 6] rfl (by decide)) rfl rfl hl.1 rfl (lv_room (Nat.le_of_ble_eq_true rfl)) d_TM_joinConstant_84 ⟨Nat.le_of_ble_eq_true rfl, Nat.le_of_ble_eq_true rfl⟩) hP hD hS hA [0, 1, 2, 3, 4, 5, 6] [] rfl rfl (by decide) (by decide) (fun v u H locs hok hP hD hS => ?_) (fun x C u H locs hbad hxx hP hD hS => ?_)
          · skip
            obtain ⟨fs_64, tb_65, le_66, ri_67, wo_68, fr_69, od_70, ha_71⟩ := u
            obtain ⟨r_72, rfl, hp_73⟩ := hok
            obtain ⟨hfs_74, htb_75, hle_76, hri_77, hwo_78, hfr_79, hod_80, hha_81, hres_82⟩ : fs_64 ≤ 1024 ∧ (tb_65 = 0 ∨ tb_65 = 1) ∧ wfa 1024 le_66 ∧ wfa 1024 ri_67 ∧ wfa 1024 wo_68 ∧ rng 1024 fr_69 ∧ rng 1024 od_70 ∧ bln ha_71 ∧ wfw 1024 r_72 := hp_73
            have hP : va_P D classes [((f 4), .inr (2, [.ref (f 5), .ref (f 6), .ref (f 7), .int (nI fs_64), .ref (f 8), .ref (f 9), .ref (f 10), .int tb_65])), ((f 5), .inl (cL, 1024, .inr (.inl le_66))), ((f 6), .inl (cL, 1024, .inr (.inl ri_67))), ((f 7), .inl (cI, 1024, .inl fr_69)), ((f 8), .inl (cI, 1024, .inl od_70)), ((f 9), .inl (cZ, 1024, .inl ha_71)), ((f 10), .inl (cL, 1024, .inr (.inl wo_68)))] H := hP
            have hD : va_D A [((f 4), .inr (2, [.ref (f 5), .ref (f 6), .ref (f 7), .int (nI fs_64), .ref (f 8), .ref (f 9), .ref (f 10), .int tb_65])), ((f 5), .inl (cL, 1024, .inr (.inl le_66))), ((f 6), .inl (cL, 1024, .inr (.inl ri_67))), ((f 7), .inl (cI, 1024, .inl fr_69)), ((f 8), .inl (cI, 1024, .inl od_70)), ((f 9), .inl (cZ, 1024, .inl ha_71)), ((f 10), .inl (cL, 1024, .inr (.inl wo_68)))] := hD
            refine W.eq (g2 := F0 m 87 ls [.long r_72, .int (nI n), .ref (f 4)]) rfl ?_
            refine lv_lload hx hb d_TM_joinConstant_87 (lv_at hl 5 rfl) ?_
            refine em_call (wr := []) (em_runV (As := [.int (nI n), .long r_72, .long b]) (rest := []) ⟨hx, hb, hml, hown, hG⟩ (tm_put l D cI cL cZ cC f fs_64 tb_65 le_66 ri_67 wo_68 fr_69 od_70 ha_71 n r_72 b _ (by omega) htb_75 hle_76 hri_77 hwo_78 hfr_79 hod_80 hha_81 (by omega) hres_82 hwb hnt) (cwV 3 hG (gd_V k_790 k_792 k_20 k_109 k_793) rfl rfl rfl (by decide +kernel) ⟨Nat.le_of_ble_eq_true rfl, Nat.le_of_ble_eq_true rfl⟩) (tw_V (q0 := 0) hP hD hK hE hst hS rfl rfl [0, 1, 2, 3, 4, 5, 6] rfl (by decide)) rfl rfl hl.1 rfl (lv_room (Nat.le_of_ble_eq_true rfl)) d_TM_joinConstant_89 ⟨Nat.le_of_ble_eq_true rfl, Nat.le_of_ble_eq_true rfl⟩) hP hD hS hA [0, 1, 2, 3, 4, 5, 6] [] rfl rfl (by decide) (by decide) (fun v u H locs hok hP hD hS => ?_) (fun x C u H locs hbad hxx hP hD hS => ?_)
            · skip
              obtain ⟨fs_83, tb_84, le_85, ri_86, wo_87, fr_88, od_89, ha_90⟩ := u
              obtain ⟨r_91, rfl, hp_92⟩ := hok
              obtain ⟨hfs_93, htb_94, hle_95, hri_96, hwo_97, hfr_98, hod_99, hha_100, hres_101⟩ : fs_83 ≤ 1024 ∧ (tb_84 = 0 ∨ tb_84 = 1) ∧ wfa 1024 le_85 ∧ wfa 1024 ri_86 ∧ wfa 1024 wo_87 ∧ rng 1024 fr_88 ∧ rng 1024 od_89 ∧ bln ha_90 ∧ wfw 1024 r_91 := hp_92
              have hP : va_P D classes [((f 4), .inr (2, [.ref (f 5), .ref (f 6), .ref (f 7), .int (nI fs_83), .ref (f 8), .ref (f 9), .ref (f 10), .int tb_84])), ((f 5), .inl (cL, 1024, .inr (.inl le_85))), ((f 6), .inl (cL, 1024, .inr (.inl ri_86))), ((f 7), .inl (cI, 1024, .inl fr_88)), ((f 8), .inl (cI, 1024, .inl od_89)), ((f 9), .inl (cZ, 1024, .inl ha_90)), ((f 10), .inl (cL, 1024, .inr (.inl wo_87)))] H := hP
              have hD : va_D A [((f 4), .inr (2, [.ref (f 5), .ref (f 6), .ref (f 7), .int (nI fs_83), .ref (f 8), .ref (f 9), .ref (f 10), .int tb_84])), ((f 5), .inl (cL, 1024, .inr (.inl le_85))), ((f 6), .inl (cL, 1024, .inr (.inl ri_86))), ((f 7), .inl (cI, 1024, .inl fr_88)), ((f 8), .inl (cI, 1024, .inl od_89)), ((f 9), .inl (cZ, 1024, .inl ha_90)), ((f 10), .inl (cL, 1024, .inr (.inl wo_87)))] := hD
              refine W.eq (g2 := F0 m 92 ls [.long r_91]) rfl ?_
              exact em_lret hx hb hr hlocks hP hD hK hS (fs_83, tb_84, le_85, ri_86, wo_87, fr_88, od_89, ha_90) [0, 1, 2, 3, 4, 5, 6] (by decide) rfl ⟨_, rfl, ⟨(by omega), htb_94, hle_95, hri_96, hwo_97, hfr_98, hod_99, hha_100, hres_101⟩⟩ d_TM_joinConstant_92
            · skip
              exact hbad.elim
          · skip
            exact hbad.elim
        · skip
          exact hbad.elim
    · skip
      refine lv_aload_n hx hb d_TM_joinConstant_32 rfl (lv_at hl 0 rfl) ?_
      refine lv_iload_n hx hb d_TM_joinConstant_33 rfl (lv_at hl 1 rfl) ?_
      refine em_call (wr := []) (em_runV (As := [.int (nI n)]) (rest := []) ⟨hx, hb, hml, hown, hG⟩ (tm_drop l D cI cL cZ cC f fs tb le ri wo fr od ha n _ (by omega) htb hle hri hwo hfr hod hha (by omega) hnt) (cwV 1 hG (gd_V k_782 k_784 k_18 k_109 k_785) rfl rfl rfl (by decide +kernel) ⟨Nat.le_of_ble_eq_true rfl, Nat.le_of_ble_eq_true rfl⟩) (tw_V (q0 := 0) hP hD hK hE hst hS rfl rfl [0, 1, 2, 3, 4, 5, 6] rfl (by decide)) rfl rfl hl.1 rfl (lv_room (Nat.le_of_ble_eq_true rfl)) d_TM_joinConstant_34 ⟨Nat.le_of_ble_eq_true rfl, Nat.le_of_ble_eq_true rfl⟩) hP hD hS hA [0, 1, 2, 3, 4, 5, 6] [] rfl rfl (by decide) (by decide) (fun v u H locs hok hP hD hS => ?_) (fun x C u H locs hbad hxx hP hD hS => ?_)
      · skip
        obtain ⟨fs_102, tb_103, le_104, ri_105, wo_106, fr_107, od_108, ha_109⟩ := u
        obtain ⟨rfl, hp_111⟩ := hok
        obtain ⟨hfs_112, htb_113, hle_114, hri_115, hwo_116, hfr_117, hod_118, hha_119⟩ : fs_102 ≤ 1024 ∧ (tb_103 = 0 ∨ tb_103 = 1) ∧ wfa 1024 le_104 ∧ wfa 1024 ri_105 ∧ wfa 1024 wo_106 ∧ rng 1024 fr_107 ∧ rng 1024 od_108 ∧ bln ha_109 := hp_111
        have hP : va_P D classes [((f 4), .inr (2, [.ref (f 5), .ref (f 6), .ref (f 7), .int (nI fs_102), .ref (f 8), .ref (f 9), .ref (f 10), .int tb_103])), ((f 5), .inl (cL, 1024, .inr (.inl le_104))), ((f 6), .inl (cL, 1024, .inr (.inl ri_105))), ((f 7), .inl (cI, 1024, .inl fr_107)), ((f 8), .inl (cI, 1024, .inl od_108)), ((f 9), .inl (cZ, 1024, .inl ha_109)), ((f 10), .inl (cL, 1024, .inr (.inl wo_106)))] H := hP
        have hD : va_D A [((f 4), .inr (2, [.ref (f 5), .ref (f 6), .ref (f 7), .int (nI fs_102), .ref (f 8), .ref (f 9), .ref (f 10), .int tb_103])), ((f 5), .inl (cL, 1024, .inr (.inl le_104))), ((f 6), .inl (cL, 1024, .inr (.inl ri_105))), ((f 7), .inl (cI, 1024, .inl fr_107)), ((f 8), .inl (cI, 1024, .inl od_108)), ((f 9), .inl (cZ, 1024, .inl ha_109)), ((f 10), .inl (cL, 1024, .inr (.inl wo_106)))] := hD
        refine W.eq (g2 := F0 m 37 ls []) rfl ?_
        refine lv_lload_n hx hb d_TM_joinConstant_37 rfl (lv_at hl 2 rfl) ?_
        exact em_lret hx hb hr hlocks hP hD hK hS (fs_102, tb_103, le_104, ri_105, wo_106, fr_107, od_108, ha_109) [0, 1, 2, 3, 4, 5, 6] (by decide) rfl ⟨_, rfl, ⟨(by omega), htb_113, hle_114, hri_115, hwo_116, hfr_117, hod_118, hha_119, hwa⟩⟩ d_TM_joinConstant_38
      · skip
        exact hbad.elim
  · skip
    refine lv_aload_n hx hb d_TM_joinConstant_5 rfl (lv_at hl 0 rfl) ?_
    refine lv_iconst (v := 3) hx hb d_TM_joinConstant_6 (by decide) ?_
    refine W.callRL (W.runS (As := [.int 3]) (rest := [.ref (f 4)]) ⟨hx, hb, hml, hown, hG⟩ (wd_constant l D cI cL cZ cC 3 ) (va_cwS 1 hG (gd_T k_728 k_729 k_127 k_730) rfl rfl rfl (by decide +kernel) ⟨Nat.le_of_ble_eq_true rfl, Nat.le_of_ble_eq_true rfl⟩) (wq_S hP hK [] rfl) rfl rfl hl.1 rfl (lv_room (Nat.le_of_ble_eq_true rfl)) d_TM_joinConstant_7 ⟨Nat.le_of_ble_eq_true rfl, Nat.le_of_ble_eq_true rfl⟩) ?_
    refine W.eq (g2 := F0 m 10 ls [.long (wcon 3), .ref (f 4)]) rfl ?_
    refine lv_aload_n hx hb d_TM_joinConstant_10 rfl (lv_at hl 0 rfl) ?_
    refine lv_iload_n hx hb d_TM_joinConstant_11 rfl (lv_at hl 1 rfl) ?_
    refine lv_lload_n hx hb d_TM_joinConstant_12 rfl (lv_at hl 2 rfl) ?_
    refine lv_lload hx hb d_TM_joinConstant_13 (lv_at hl 3 rfl) ?_
    refine em_call (wr := []) (em_runV (As := [.int (nI n), .long a, .long b]) (rest := [.long (wcon 3), .ref (f 4)]) ⟨hx, hb, hml, hown, hG⟩ (tm_put l D cI cL cZ cC f fs tb le ri wo fr od ha n a b _ (by omega) htb hle hri hwo hfr hod hha (by omega) hwa hwb hnt) (cwV 3 hG (gd_V k_790 k_792 k_20 k_109 k_793) rfl rfl rfl (by decide +kernel) ⟨Nat.le_of_ble_eq_true rfl, Nat.le_of_ble_eq_true rfl⟩) (tw_V (q0 := 0) hP hD hK hE hst hS rfl rfl [0, 1, 2, 3, 4, 5, 6] rfl (by decide)) rfl rfl hl.1 rfl (lv_room (Nat.le_of_ble_eq_true rfl)) d_TM_joinConstant_15 ⟨Nat.le_of_ble_eq_true rfl, Nat.le_of_ble_eq_true rfl⟩) hP hD hS hA [0, 1, 2, 3, 4, 5, 6] [] rfl rfl (by decide) (by decide) (fun v u H locs hok hP hD hS => ?_) (fun x C u H locs hbad hxx hP hD hS => ?_)
    · skip
      obtain ⟨fs_121, tb_122, le_123, ri_124, wo_125, fr_126, od_127, ha_128⟩ := u
      obtain ⟨r_129, rfl, hp_130⟩ := hok
      obtain ⟨hfs_131, htb_132, hle_133, hri_134, hwo_135, hfr_136, hod_137, hha_138, hres_139⟩ : fs_121 ≤ 1024 ∧ (tb_122 = 0 ∨ tb_122 = 1) ∧ wfa 1024 le_123 ∧ wfa 1024 ri_124 ∧ wfa 1024 wo_125 ∧ rng 1024 fr_126 ∧ rng 1024 od_127 ∧ bln ha_128 ∧ wfw 1024 r_129 := hp_130
      have hP : va_P D classes [((f 4), .inr (2, [.ref (f 5), .ref (f 6), .ref (f 7), .int (nI fs_121), .ref (f 8), .ref (f 9), .ref (f 10), .int tb_122])), ((f 5), .inl (cL, 1024, .inr (.inl le_123))), ((f 6), .inl (cL, 1024, .inr (.inl ri_124))), ((f 7), .inl (cI, 1024, .inl fr_126)), ((f 8), .inl (cI, 1024, .inl od_127)), ((f 9), .inl (cZ, 1024, .inl ha_128)), ((f 10), .inl (cL, 1024, .inr (.inl wo_125)))] H := hP
      have hD : va_D A [((f 4), .inr (2, [.ref (f 5), .ref (f 6), .ref (f 7), .int (nI fs_121), .ref (f 8), .ref (f 9), .ref (f 10), .int tb_122])), ((f 5), .inl (cL, 1024, .inr (.inl le_123))), ((f 6), .inl (cL, 1024, .inr (.inl ri_124))), ((f 7), .inl (cI, 1024, .inl fr_126)), ((f 8), .inl (cI, 1024, .inl od_127)), ((f 9), .inl (cZ, 1024, .inl ha_128)), ((f 10), .inl (cL, 1024, .inr (.inl wo_125)))] := hD
      refine W.eq (g2 := F0 m 18 ls [.long r_129, .long (wcon 3), .ref (f 4)]) rfl ?_
      refine em_call (wr := []) (em_runV (As := [.long (wcon 3), .long r_129]) (rest := []) ⟨hx, hb, hml, hown, hG⟩ (tm_apply l D cI cL cZ cC f fs_121 tb_122 le_123 ri_124 wo_125 fr_126 od_127 ha_128 (wcon 3) r_129 _ (by omega) htb_132 hle_133 hri_134 hwo_135 hfr_136 hod_137 hha_138 (wfw_con (by decide)) hres_139 hnt) (cwV 2 hG (gd_V k_731 k_732 k_733 k_109 k_734) rfl rfl rfl (by decide +kernel) ⟨Nat.le_of_ble_eq_true rfl, Nat.le_of_ble_eq_true rfl⟩) (tw_V (q0 := 0) hP hD hK hE hst hS rfl rfl [0, 1, 2, 3, 4, 5, 6] rfl (by decide)) rfl rfl hl.1 rfl (lv_room (Nat.le_of_ble_eq_true rfl)) d_TM_joinConstant_18 ⟨Nat.le_of_ble_eq_true rfl, Nat.le_of_ble_eq_true rfl⟩) hP hD hS hA [0, 1, 2, 3, 4, 5, 6] [] rfl rfl (by decide) (by decide) (fun v u H locs hok hP hD hS => ?_) (fun x C u H locs hbad hxx hP hD hS => ?_)
      · skip
        obtain ⟨fs_140, tb_141, le_142, ri_143, wo_144, fr_145, od_146, ha_147⟩ := u
        obtain ⟨r_148, rfl, hp_149⟩ := hok
        obtain ⟨hfs_150, htb_151, hle_152, hri_153, hwo_154, hfr_155, hod_156, hha_157, hres_158⟩ : fs_140 ≤ 1024 ∧ (tb_141 = 0 ∨ tb_141 = 1) ∧ wfa 1024 le_142 ∧ wfa 1024 ri_143 ∧ wfa 1024 wo_144 ∧ rng 1024 fr_145 ∧ rng 1024 od_146 ∧ bln ha_147 ∧ wfw 1024 r_148 := hp_149
        have hP : va_P D classes [((f 4), .inr (2, [.ref (f 5), .ref (f 6), .ref (f 7), .int (nI fs_140), .ref (f 8), .ref (f 9), .ref (f 10), .int tb_141])), ((f 5), .inl (cL, 1024, .inr (.inl le_142))), ((f 6), .inl (cL, 1024, .inr (.inl ri_143))), ((f 7), .inl (cI, 1024, .inl fr_145)), ((f 8), .inl (cI, 1024, .inl od_146)), ((f 9), .inl (cZ, 1024, .inl ha_147)), ((f 10), .inl (cL, 1024, .inr (.inl wo_144)))] H := hP
        have hD : va_D A [((f 4), .inr (2, [.ref (f 5), .ref (f 6), .ref (f 7), .int (nI fs_140), .ref (f 8), .ref (f 9), .ref (f 10), .int tb_141])), ((f 5), .inl (cL, 1024, .inr (.inl le_142))), ((f 6), .inl (cL, 1024, .inr (.inl ri_143))), ((f 7), .inl (cI, 1024, .inl fr_145)), ((f 8), .inl (cI, 1024, .inl od_146)), ((f 9), .inl (cZ, 1024, .inl ha_147)), ((f 10), .inl (cL, 1024, .inr (.inl wo_144)))] := hD
        refine W.eq (g2 := F0 m 21 ls [.long r_148]) rfl ?_
        exact em_lret hx hb hr hlocks hP hD hK hS (fs_140, tb_141, le_142, ri_143, wo_144, fr_145, od_146, ha_147) [0, 1, 2, 3, 4, 5, 6] (by decide) rfl ⟨_, rfl, ⟨(by omega), htb_151, hle_152, hri_153, hwo_154, hfr_155, hod_156, hha_157, hres_158⟩⟩ d_TM_joinConstant_21
      · skip
        exact hbad.elim
    · skip
      exact hbad.elim
set_option maxHeartbeats 8000000 in
set_option maxRecDepth 100000 in
theorem tm_joinVarying (l : Launch) (D : va_G) (cI cL cZ cC : ClassId) (f : Nat → Nat) (fs : Nat) (tb : Int32) (le : Nat → Int64) (ri : Nat → Int64) (wo : Nat → Int64) (fr : Nat → Int32) (od : Nat → Int32) (ha : Nat → Int32) (n : Nat) (a : Int64) (b : Int64) (q : Int32) (sz : Nat) (hfs : fs ≤ 1024) (htb : (tb = 0 ∨ tb = 1)) (hle : wfa 1024 le) (hri : wfa 1024 ri) (hwo : wfa 1024 wo) (hfr : rng 1024 fr) (hod : rng 1024 od) (hha : bln ha) (hn : n < 1024) (hwa : wfw 1024 a) (hwb : wfw 1024 b) (hnt : l.stackTraces = false) : em_Met l y_TM_joinVarying (wz y_TM_joinVarying b_TM_joinVarying 7 (some .long)) ({ frames := 2, cells := 0, slots := 0, locals := 46 }) (va_Pc [.ref (f 4), .int (nI n), .long a, .long b, .int q] (tw_pre D (tys4 cI cL cZ cC) [((f 4), .inr (2, [.ref (f 5), .ref (f 6), .ref (f 7), .int (nI fs), .ref (f 8), .ref (f 9), .ref (f 10), .int tb])), ((f 5), .inl (cL, 1024, .inr (.inl le))), ((f 6), .inl (cL, 1024, .inr (.inl ri))), ((f 7), .inl (cI, 1024, .inl fr)), ((f 8), .inl (cI, 1024, .inl od)), ((f 9), .inl (cZ, 1024, .inl ha)), ((f 10), .inl (cL, 1024, .inr (.inl wo)))] sz)) D (tys4 cI cL cZ cC) (va_A [((f 4), .inr (2, [.ref (f 5), .ref (f 6), .ref (f 7), .int (nI fs), .ref (f 8), .ref (f 9), .ref (f 10), .int tb])), ((f 5), .inl (cL, 1024, .inr (.inl le))), ((f 6), .inl (cL, 1024, .inr (.inl ri))), ((f 7), .inl (cI, 1024, .inl fr)), ((f 8), .inl (cI, 1024, .inl od)), ((f 9), .inl (cZ, 1024, .inl ha)), ((f 10), .inl (cL, 1024, .inr (.inl wo)))] sz) (fun (u : Nat × Int32 × (Nat → Int64) × (Nat → Int64) × (Nat → Int64) × (Nat → Int32) × (Nat → Int32) × (Nat → Int32)) => [((f 4), .inr (2, [.ref (f 5), .ref (f 6), .ref (f 7), .int (nI u.1), .ref (f 8), .ref (f 9), .ref (f 10), .int u.2.1])), ((f 5), .inl (cL, 1024, .inr (.inl u.2.2.1))), ((f 6), .inl (cL, 1024, .inr (.inl u.2.2.2.1))), ((f 7), .inl (cI, 1024, .inl u.2.2.2.2.2.1)), ((f 8), .inl (cI, 1024, .inl u.2.2.2.2.2.2.1)), ((f 9), .inl (cZ, 1024, .inl u.2.2.2.2.2.2.2)), ((f 10), .inl (cL, 1024, .inr (.inl u.2.2.2.2.1)))]) (fun v (u : Nat × Int32 × (Nat → Int64) × (Nat → Int64) × (Nat → Int64) × (Nat → Int32) × (Nat → Int32) × (Nat → Int32)) => ∃ r : Int64, v = some (.long r) ∧ (u.1 ≤ 1024 ∧ (u.2.1 = 0 ∨ u.2.1 = 1) ∧ wfa 1024 u.2.2.1 ∧ wfa 1024 u.2.2.2.1 ∧ wfa 1024 u.2.2.2.2.1 ∧ rng 1024 u.2.2.2.2.2.1 ∧ rng 1024 u.2.2.2.2.2.2.1 ∧ bln u.2.2.2.2.2.2.2 ∧ wfw 1024 r)) (fun C (u : Nat × Int32 × (Nat → Int64) × (Nat → Int64) × (Nat → Int64) × (Nat → Int32) × (Nat → Int32) × (Nat → Int32)) => False) 0 0 := by
  refine em_Met.ofW (cc := b_TM_joinVarying) (maxL := 7) (ret := (some .long)) (by decide) rfl ?_
  intro p e s m args below meth c s₁ B hml hv hno
  obtain ⟨rfl, ⟨hsz, hP, hK, hD0⟩, hE⟩ := hv
  have hx := B.exec
  have hb := B.bytes
  have hr := B.returns
  have hts := atoms_spec (ws := wz y_TM_joinVarying b_TM_joinVarying 7 (some .long)) B.pre
  have hG := wz_G hts
  have hown : s.vm.findClass rn_TM = some m.cls := findClass_of_methodNamed B.named
  have hlocks := B.notSynchronized
  subst hsz
  have hD := hD0.self (sz := s.heap.size)
  have hst := tw_st hP
  generalize hAe : va_A [((f 4), .inr (2, [.ref (f 5), .ref (f 6), .ref (f 7), .int (nI fs), .ref (f 8), .ref (f 9), .ref (f 10), .int tb])), ((f 5), .inl (cL, 1024, .inr (.inl le))), ((f 6), .inl (cL, 1024, .inr (.inl ri))), ((f 7), .inl (cI, 1024, .inl fr)), ((f 8), .inl (cI, 1024, .inl od)), ((f 9), .inl (cZ, 1024, .inl ha)), ((f 10), .inl (cL, 1024, .inr (.inl wo)))] s.heap.size = A at hD hst ⊢
  have hA : ∀ q : Nat, s.heap.size ≤ q → A q := fun q h => by rw [← hAe]; exact Or.inr h
  have hS : va_S A s.heap s.heap [] := va_S.rf
  have hl := lv_entry ([.ref (f 4), .int (nI n), .long a, .long b, .int q]) (n := 7) (Nat.le_of_ble_eq_true rfl)
  rw [lg_entry_eq]
  generalize (lg_sl ([.ref (f 4), .int (nI n), .long a, .long b, .int q]) ++ List.replicate (7 - (lg_sl ([.ref (f 4), .int (nI n), .long a, .long b, .int q])).length) Slot.unset).toArray = ls at hl ⊢
  have hl : lv_has ls 7 [(0, .ref (f 4)), (1, .int (nI n)), (2, .long a), (4, .long b), (6, .int q)] := hl
  refine lv_aload_n hx hb d_TM_joinVarying_0 rfl (lv_at hl 0 rfl) ?_
  refine lv_lload_n hx hb d_TM_joinVarying_1 rfl (lv_at hl 2 rfl) ?_
  refine em_call (wr := []) (em_runV (As := [.long a]) (rest := []) ⟨hx, hb, hml, hown, hG⟩ (tm_isB l D cI cL cZ cC f fs tb le ri wo fr od ha a _ (by omega) htb hle hri hwo hfr hod hha hwa hnt) (cwV 1 hG (gd_V k_798 k_800 k_22 k_109 k_801) rfl rfl rfl (by decide +kernel) ⟨Nat.le_of_ble_eq_true rfl, Nat.le_of_ble_eq_true rfl⟩) (tw_V (q0 := 0) hP hD hK hE hst hS rfl rfl [0, 1, 2, 3, 4, 5, 6] rfl (by decide)) rfl rfl hl.1 rfl (lv_room (Nat.le_of_ble_eq_true rfl)) d_TM_joinVarying_2 ⟨Nat.le_of_ble_eq_true rfl, Nat.le_of_ble_eq_true rfl⟩) hP hD hS hA [0, 1, 2, 3, 4, 5, 6] [] rfl rfl (by decide) (by decide) (fun v u H locs hok hP hD hS => ?_) (fun x C u H locs hbad hxx hP hD hS => ?_)
  · skip
    obtain ⟨r_1, rfl, hp_2⟩ := hok
    have hp_2 : (r_1 = 0 ∨ (r_1 = 1 ∧ ¬ wcell a = 0 ∧ ¬ wcell (le a.toInt32.toNatClampNeg) = 0)) := hp_2
    have hP : va_P D classes [((f 4), .inr (2, [.ref (f 5), .ref (f 6), .ref (f 7), .int (nI fs), .ref (f 8), .ref (f 9), .ref (f 10), .int tb])), ((f 5), .inl (cL, 1024, .inr (.inl le))), ((f 6), .inl (cL, 1024, .inr (.inl ri))), ((f 7), .inl (cI, 1024, .inl fr)), ((f 8), .inl (cI, 1024, .inl od)), ((f 9), .inl (cZ, 1024, .inl ha)), ((f 10), .inl (cL, 1024, .inr (.inl wo)))] H := hP
    have hD : va_D A [((f 4), .inr (2, [.ref (f 5), .ref (f 6), .ref (f 7), .int (nI fs), .ref (f 8), .ref (f 9), .ref (f 10), .int tb])), ((f 5), .inl (cL, 1024, .inr (.inl le))), ((f 6), .inl (cL, 1024, .inr (.inl ri))), ((f 7), .inl (cI, 1024, .inl fr)), ((f 8), .inl (cI, 1024, .inl od)), ((f 9), .inl (cZ, 1024, .inl ha)), ((f 10), .inl (cL, 1024, .inr (.inl wo)))] := hD
    rcases hp_2 with rfl | ⟨rfl, hy_3⟩
    · skip
      refine W.eq (g2 := F0 m 5 ls [.int 0]) rfl ?_
      refine lv_if_eq (tgt := 49) hx hb d_TM_joinVarying_5 (by decide) (fun hbr => ?_) (fun hbr => absurd (by decide) hbr)
      refine lv_aload_n hx hb d_TM_joinVarying_49 rfl (lv_at hl 0 rfl) ?_
      refine lv_iload_n hx hb d_TM_joinVarying_50 rfl (lv_at hl 1 rfl) ?_
      refine lv_aload_n hx hb d_TM_joinVarying_51 rfl (lv_at hl 0 rfl) ?_
      refine lv_iload hx hb d_TM_joinVarying_52 (lv_at hl 4 rfl) ?_
      refine lv_if_eq (tgt := 62) hx hb d_TM_joinVarying_54 (by decide) (fun hb_4 => ?_) (fun hb_4 => ?_)
      · skip
        refine lv_iconst (v := 4) hx hb d_TM_joinVarying_62 (by decide) ?_
        refine W.callRL (W.runS (As := [.int 4]) (rest := [.ref (f 4), .int (nI n), .ref (f 4)]) ⟨hx, hb, hml, hown, hG⟩ (wd_constant l D cI cL cZ cC 4 ) (va_cwS 1 hG (gd_T k_728 k_729 k_127 k_730) rfl rfl rfl (by decide +kernel) ⟨Nat.le_of_ble_eq_true rfl, Nat.le_of_ble_eq_true rfl⟩) (wq_S hP hK [] rfl) rfl rfl hl.1 rfl (lv_room (Nat.le_of_ble_eq_true rfl)) d_TM_joinVarying_63 ⟨Nat.le_of_ble_eq_true rfl, Nat.le_of_ble_eq_true rfl⟩) ?_
        refine W.eq (g2 := F0 m 66 ls [.long (wcon 4), .ref (f 4), .int (nI n), .ref (f 4)]) rfl ?_
        refine lv_lload_n hx hb d_TM_joinVarying_66 rfl (lv_at hl 2 rfl) ?_
        refine em_call (wr := []) (em_runV (As := [.long (wcon 4), .long a]) (rest := [.int (nI n), .ref (f 4)]) ⟨hx, hb, hml, hown, hG⟩ (tm_apply l D cI cL cZ cC f fs tb le ri wo fr od ha (wcon 4) a _ (by omega) htb hle hri hwo hfr hod hha (wfw_con (by decide)) hwa hnt) (cwV 2 hG (gd_V k_731 k_732 k_733 k_109 k_734) rfl rfl rfl (by decide +kernel) ⟨Nat.le_of_ble_eq_true rfl, Nat.le_of_ble_eq_true rfl⟩) (tw_V (q0 := 0) hP hD hK hE hst hS rfl rfl [0, 1, 2, 3, 4, 5, 6] rfl (by decide)) rfl rfl hl.1 rfl (lv_room (Nat.le_of_ble_eq_true rfl)) d_TM_joinVarying_67 ⟨Nat.le_of_ble_eq_true rfl, Nat.le_of_ble_eq_true rfl⟩) hP hD hS hA [0, 1, 2, 3, 4, 5, 6] [] rfl rfl (by decide) (by decide) (fun v u H locs hok hP hD hS => ?_) (fun x C u H locs hbad hxx hP hD hS => ?_)
        · skip
          obtain ⟨fs_5, tb_6, le_7, ri_8, wo_9, fr_10, od_11, ha_12⟩ := u
          obtain ⟨r_13, rfl, hp_14⟩ := hok
          obtain ⟨hfs_15, htb_16, hle_17, hri_18, hwo_19, hfr_20, hod_21, hha_22, hres_23⟩ : fs_5 ≤ 1024 ∧ (tb_6 = 0 ∨ tb_6 = 1) ∧ wfa 1024 le_7 ∧ wfa 1024 ri_8 ∧ wfa 1024 wo_9 ∧ rng 1024 fr_10 ∧ rng 1024 od_11 ∧ bln ha_12 ∧ wfw 1024 r_13 := hp_14
          have hP : va_P D classes [((f 4), .inr (2, [.ref (f 5), .ref (f 6), .ref (f 7), .int (nI fs_5), .ref (f 8), .ref (f 9), .ref (f 10), .int tb_6])), ((f 5), .inl (cL, 1024, .inr (.inl le_7))), ((f 6), .inl (cL, 1024, .inr (.inl ri_8))), ((f 7), .inl (cI, 1024, .inl fr_10)), ((f 8), .inl (cI, 1024, .inl od_11)), ((f 9), .inl (cZ, 1024, .inl ha_12)), ((f 10), .inl (cL, 1024, .inr (.inl wo_9)))] H := hP
          have hD : va_D A [((f 4), .inr (2, [.ref (f 5), .ref (f 6), .ref (f 7), .int (nI fs_5), .ref (f 8), .ref (f 9), .ref (f 10), .int tb_6])), ((f 5), .inl (cL, 1024, .inr (.inl le_7))), ((f 6), .inl (cL, 1024, .inr (.inl ri_8))), ((f 7), .inl (cI, 1024, .inl fr_10)), ((f 8), .inl (cI, 1024, .inl od_11)), ((f 9), .inl (cZ, 1024, .inl ha_12)), ((f 10), .inl (cL, 1024, .inr (.inl wo_9)))] := hD
          refine W.eq (g2 := F0 m 70 ls [.long r_13, .int (nI n), .ref (f 4)]) rfl ?_
          refine lv_lload hx hb d_TM_joinVarying_70 (lv_at hl 3 rfl) ?_
          refine em_call (wr := []) (em_runV (As := [.int (nI n), .long r_13, .long b]) (rest := []) ⟨hx, hb, hml, hown, hG⟩ (tm_put l D cI cL cZ cC f fs_5 tb_6 le_7 ri_8 wo_9 fr_10 od_11 ha_12 n r_13 b _ (by omega) htb_16 hle_17 hri_18 hwo_19 hfr_20 hod_21 hha_22 (by omega) hres_23 hwb hnt) (cwV 3 hG (gd_V k_790 k_792 k_20 k_109 k_793) rfl rfl rfl (by decide +kernel) ⟨Nat.le_of_ble_eq_true rfl, Nat.le_of_ble_eq_true rfl⟩) (tw_V (q0 := 0) hP hD hK hE hst hS rfl rfl [0, 1, 2, 3, 4, 5, 6] rfl (by decide)) rfl rfl hl.1 rfl (lv_room (Nat.le_of_ble_eq_true rfl)) d_TM_joinVarying_72 ⟨Nat.le_of_ble_eq_true rfl, Nat.le_of_ble_eq_true rfl⟩) hP hD hS hA [0, 1, 2, 3, 4, 5, 6] [] rfl rfl (by decide) (by decide) (fun v u H locs hok hP hD hS => ?_) (fun x C u H locs hbad hxx hP hD hS => ?_)
          · skip
            obtain ⟨fs_24, tb_25, le_26, ri_27, wo_28, fr_29, od_30, ha_31⟩ := u
            obtain ⟨r_32, rfl, hp_33⟩ := hok
            obtain ⟨hfs_34, htb_35, hle_36, hri_37, hwo_38, hfr_39, hod_40, hha_41, hres_42⟩ : fs_24 ≤ 1024 ∧ (tb_25 = 0 ∨ tb_25 = 1) ∧ wfa 1024 le_26 ∧ wfa 1024 ri_27 ∧ wfa 1024 wo_28 ∧ rng 1024 fr_29 ∧ rng 1024 od_30 ∧ bln ha_31 ∧ wfw 1024 r_32 := hp_33
            have hP : va_P D classes [((f 4), .inr (2, [.ref (f 5), .ref (f 6), .ref (f 7), .int (nI fs_24), .ref (f 8), .ref (f 9), .ref (f 10), .int tb_25])), ((f 5), .inl (cL, 1024, .inr (.inl le_26))), ((f 6), .inl (cL, 1024, .inr (.inl ri_27))), ((f 7), .inl (cI, 1024, .inl fr_29)), ((f 8), .inl (cI, 1024, .inl od_30)), ((f 9), .inl (cZ, 1024, .inl ha_31)), ((f 10), .inl (cL, 1024, .inr (.inl wo_28)))] H := hP
            have hD : va_D A [((f 4), .inr (2, [.ref (f 5), .ref (f 6), .ref (f 7), .int (nI fs_24), .ref (f 8), .ref (f 9), .ref (f 10), .int tb_25])), ((f 5), .inl (cL, 1024, .inr (.inl le_26))), ((f 6), .inl (cL, 1024, .inr (.inl ri_27))), ((f 7), .inl (cI, 1024, .inl fr_29)), ((f 8), .inl (cI, 1024, .inl od_30)), ((f 9), .inl (cZ, 1024, .inl ha_31)), ((f 10), .inl (cL, 1024, .inr (.inl wo_28)))] := hD
            refine W.eq (g2 := F0 m 75 ls [.long r_32]) rfl ?_
            exact em_lret hx hb hr hlocks hP hD hK hS (fs_24, tb_25, le_26, ri_27, wo_28, fr_29, od_30, ha_31) [0, 1, 2, 3, 4, 5, 6] (by decide) rfl ⟨_, rfl, ⟨(by omega), htb_35, hle_36, hri_37, hwo_38, hfr_39, hod_40, hha_41, hres_42⟩⟩ d_TM_joinVarying_75
          · skip
            exact hbad.elim
        · skip
          exact hbad.elim
      · skip
        refine lv_bipush (v := 6) hx hb d_TM_joinVarying_57 (by decide) ?_
        refine lv_goto (tgt := 63) hx hb d_TM_joinVarying_59 (by decide) ?_
        refine W.callRL (W.runS (As := [.int 6]) (rest := [.ref (f 4), .int (nI n), .ref (f 4)]) ⟨hx, hb, hml, hown, hG⟩ (wd_constant l D cI cL cZ cC 6 ) (va_cwS 1 hG (gd_T k_728 k_729 k_127 k_730) rfl rfl rfl (by decide +kernel) ⟨Nat.le_of_ble_eq_true rfl, Nat.le_of_ble_eq_true rfl⟩) (wq_S hP hK [] rfl) rfl rfl hl.1 rfl (lv_room (Nat.le_of_ble_eq_true rfl)) d_TM_joinVarying_63 ⟨Nat.le_of_ble_eq_true rfl, Nat.le_of_ble_eq_true rfl⟩) ?_
        refine W.eq (g2 := F0 m 66 ls [.long (wcon 6), .ref (f 4), .int (nI n), .ref (f 4)]) rfl ?_
        refine lv_lload_n hx hb d_TM_joinVarying_66 rfl (lv_at hl 2 rfl) ?_
        refine em_call (wr := []) (em_runV (As := [.long (wcon 6), .long a]) (rest := [.int (nI n), .ref (f 4)]) ⟨hx, hb, hml, hown, hG⟩ (tm_apply l D cI cL cZ cC f fs tb le ri wo fr od ha (wcon 6) a _ (by omega) htb hle hri hwo hfr hod hha (wfw_con (by decide)) hwa hnt) (cwV 2 hG (gd_V k_731 k_732 k_733 k_109 k_734) rfl rfl rfl (by decide +kernel) ⟨Nat.le_of_ble_eq_true rfl, Nat.le_of_ble_eq_true rfl⟩) (tw_V (q0 := 0) hP hD hK hE hst hS rfl rfl [0, 1, 2, 3, 4, 5, 6] rfl (by decide)) rfl rfl hl.1 rfl (lv_room (Nat.le_of_ble_eq_true rfl)) d_TM_joinVarying_67 ⟨Nat.le_of_ble_eq_true rfl, Nat.le_of_ble_eq_true rfl⟩) hP hD hS hA [0, 1, 2, 3, 4, 5, 6] [] rfl rfl (by decide) (by decide) (fun v u H locs hok hP hD hS => ?_) (fun x C u H locs hbad hxx hP hD hS => ?_)
        · skip
          obtain ⟨fs_43, tb_44, le_45, ri_46, wo_47, fr_48, od_49, ha_50⟩ := u
          obtain ⟨r_51, rfl, hp_52⟩ := hok
          obtain ⟨hfs_53, htb_54, hle_55, hri_56, hwo_57, hfr_58, hod_59, hha_60, hres_61⟩ : fs_43 ≤ 1024 ∧ (tb_44 = 0 ∨ tb_44 = 1) ∧ wfa 1024 le_45 ∧ wfa 1024 ri_46 ∧ wfa 1024 wo_47 ∧ rng 1024 fr_48 ∧ rng 1024 od_49 ∧ bln ha_50 ∧ wfw 1024 r_51 := hp_52
          have hP : va_P D classes [((f 4), .inr (2, [.ref (f 5), .ref (f 6), .ref (f 7), .int (nI fs_43), .ref (f 8), .ref (f 9), .ref (f 10), .int tb_44])), ((f 5), .inl (cL, 1024, .inr (.inl le_45))), ((f 6), .inl (cL, 1024, .inr (.inl ri_46))), ((f 7), .inl (cI, 1024, .inl fr_48)), ((f 8), .inl (cI, 1024, .inl od_49)), ((f 9), .inl (cZ, 1024, .inl ha_50)), ((f 10), .inl (cL, 1024, .inr (.inl wo_47)))] H := hP
          have hD : va_D A [((f 4), .inr (2, [.ref (f 5), .ref (f 6), .ref (f 7), .int (nI fs_43), .ref (f 8), .ref (f 9), .ref (f 10), .int tb_44])), ((f 5), .inl (cL, 1024, .inr (.inl le_45))), ((f 6), .inl (cL, 1024, .inr (.inl ri_46))), ((f 7), .inl (cI, 1024, .inl fr_48)), ((f 8), .inl (cI, 1024, .inl od_49)), ((f 9), .inl (cZ, 1024, .inl ha_50)), ((f 10), .inl (cL, 1024, .inr (.inl wo_47)))] := hD
          refine W.eq (g2 := F0 m 70 ls [.long r_51, .int (nI n), .ref (f 4)]) rfl ?_
          refine lv_lload hx hb d_TM_joinVarying_70 (lv_at hl 3 rfl) ?_
          refine em_call (wr := []) (em_runV (As := [.int (nI n), .long r_51, .long b]) (rest := []) ⟨hx, hb, hml, hown, hG⟩ (tm_put l D cI cL cZ cC f fs_43 tb_44 le_45 ri_46 wo_47 fr_48 od_49 ha_50 n r_51 b _ (by omega) htb_54 hle_55 hri_56 hwo_57 hfr_58 hod_59 hha_60 (by omega) hres_61 hwb hnt) (cwV 3 hG (gd_V k_790 k_792 k_20 k_109 k_793) rfl rfl rfl (by decide +kernel) ⟨Nat.le_of_ble_eq_true rfl, Nat.le_of_ble_eq_true rfl⟩) (tw_V (q0 := 0) hP hD hK hE hst hS rfl rfl [0, 1, 2, 3, 4, 5, 6] rfl (by decide)) rfl rfl hl.1 rfl (lv_room (Nat.le_of_ble_eq_true rfl)) d_TM_joinVarying_72 ⟨Nat.le_of_ble_eq_true rfl, Nat.le_of_ble_eq_true rfl⟩) hP hD hS hA [0, 1, 2, 3, 4, 5, 6] [] rfl rfl (by decide) (by decide) (fun v u H locs hok hP hD hS => ?_) (fun x C u H locs hbad hxx hP hD hS => ?_)
          · skip
            obtain ⟨fs_62, tb_63, le_64, ri_65, wo_66, fr_67, od_68, ha_69⟩ := u
            obtain ⟨r_70, rfl, hp_71⟩ := hok
            obtain ⟨hfs_72, htb_73, hle_74, hri_75, hwo_76, hfr_77, hod_78, hha_79, hres_80⟩ : fs_62 ≤ 1024 ∧ (tb_63 = 0 ∨ tb_63 = 1) ∧ wfa 1024 le_64 ∧ wfa 1024 ri_65 ∧ wfa 1024 wo_66 ∧ rng 1024 fr_67 ∧ rng 1024 od_68 ∧ bln ha_69 ∧ wfw 1024 r_70 := hp_71
            have hP : va_P D classes [((f 4), .inr (2, [.ref (f 5), .ref (f 6), .ref (f 7), .int (nI fs_62), .ref (f 8), .ref (f 9), .ref (f 10), .int tb_63])), ((f 5), .inl (cL, 1024, .inr (.inl le_64))), ((f 6), .inl (cL, 1024, .inr (.inl ri_65))), ((f 7), .inl (cI, 1024, .inl fr_67)), ((f 8), .inl (cI, 1024, .inl od_68)), ((f 9), .inl (cZ, 1024, .inl ha_69)), ((f 10), .inl (cL, 1024, .inr (.inl wo_66)))] H := hP
            have hD : va_D A [((f 4), .inr (2, [.ref (f 5), .ref (f 6), .ref (f 7), .int (nI fs_62), .ref (f 8), .ref (f 9), .ref (f 10), .int tb_63])), ((f 5), .inl (cL, 1024, .inr (.inl le_64))), ((f 6), .inl (cL, 1024, .inr (.inl ri_65))), ((f 7), .inl (cI, 1024, .inl fr_67)), ((f 8), .inl (cI, 1024, .inl od_68)), ((f 9), .inl (cZ, 1024, .inl ha_69)), ((f 10), .inl (cL, 1024, .inr (.inl wo_66)))] := hD
            refine W.eq (g2 := F0 m 75 ls [.long r_70]) rfl ?_
            exact em_lret hx hb hr hlocks hP hD hK hS (fs_62, tb_63, le_64, ri_65, wo_66, fr_67, od_68, ha_69) [0, 1, 2, 3, 4, 5, 6] (by decide) rfl ⟨_, rfl, ⟨(by omega), htb_73, hle_74, hri_75, hwo_76, hfr_77, hod_78, hha_79, hres_80⟩⟩ d_TM_joinVarying_75
          · skip
            exact hbad.elim
        · skip
          exact hbad.elim
    · skip
      obtain ⟨hy_3a, hy_3b⟩ := hy_3
      obtain ⟨j_81, hj_81, ej_81⟩ := wcell_t hwa hy_3a
      refine W.eq (g2 := F0 m 5 ls [.int 1]) rfl ?_
      refine lv_if_eq (tgt := 49) hx hb d_TM_joinVarying_5 (by decide) (fun hbr => absurd hbr (by decide)) (fun hbr => ?_)
      refine lv_aload_n hx hb d_TM_joinVarying_8 rfl (lv_at hl 0 rfl) ?_
      refine va_get (D := D) (ci := 2) (v := .ref (f 5)) (C := rn_TM) (T := fl_TM) (N := 8) hx hb hG in_TM hown hK hP 0 rfl rfl 0 (by decide) (hG _ k_162) (fun _ h9 => h9) rfl d_TM_joinVarying_9 ?_
      refine lv_aload_n hx hb d_TM_joinVarying_12 rfl (lv_at hl 0 rfl) ?_
      refine va_get (D := D) (ci := 2) (v := .ref (f 5)) (C := rn_TM) (T := fl_TM) (N := 8) hx hb hG in_TM hown hK hP 0 rfl rfl 0 (by decide) (hG _ k_162) (fun _ h9 => h9) rfl d_TM_joinVarying_13 ?_
      refine lv_lload_n hx hb d_TM_joinVarying_16 rfl (lv_at hl 2 rfl) ?_
      refine W.callR (W.runS (As := [.long a]) (rest := [.ref (f 5), .ref (f 5)]) ⟨hx, hb, hml, hown, hG⟩ (wd_number l D cI cL cZ cC a ) (va_cwS 1 hG (gd_T k_755 k_756 k_127 k_757) rfl rfl rfl (by decide +kernel) ⟨Nat.le_of_ble_eq_true rfl, Nat.le_of_ble_eq_true rfl⟩) (wq_S hP hK [] rfl) rfl rfl hl.1 rfl (lv_room (Nat.le_of_ble_eq_true rfl)) d_TM_joinVarying_17 ⟨Nat.le_of_ble_eq_true rfl, Nat.le_of_ble_eq_true rfl⟩) ?_
      refine W.eq (g2 := F0 m 20 ls [.int a.toInt32, .ref (f 5), .ref (f 5)]) rfl ?_
      refine W.eq (g2 := F0 m 20 ls [.int (nI j_81), .ref (f 5), .ref (f 5)]) (by rw [ej_81]) ?_
      refine va_lald hx hb hK hP 1 1 rfl rfl (vp_in_nI (n := j_81) (N := 1024) (by omega) (by omega)) d_TM_joinVarying_20 ?_
      refine lv_topl (fun w_82 ew_82 => ?_)
      have hw_82 : wfw 1024 w_82 := by rw [ew_82]; exact hle _
      have hcw_82 : ¬ wcell w_82 = 0 := by rw [ew_82, ← ej_81]; exact hy_3b
      obtain ⟨j_83, hj_83, ej_83⟩ := wcell_t hw_82 hcw_82
      refine W.callR (W.runS (As := [.long w_82]) (rest := [.ref (f 5)]) ⟨hx, hb, hml, hown, hG⟩ (wd_number l D cI cL cZ cC w_82 ) (va_cwS 1 hG (gd_T k_755 k_756 k_127 k_757) rfl rfl rfl (by decide +kernel) ⟨Nat.le_of_ble_eq_true rfl, Nat.le_of_ble_eq_true rfl⟩) (wq_S hP hK [] rfl) rfl rfl hl.1 rfl (lv_room (Nat.le_of_ble_eq_true rfl)) d_TM_joinVarying_21 ⟨Nat.le_of_ble_eq_true rfl, Nat.le_of_ble_eq_true rfl⟩) ?_
      refine W.eq (g2 := F0 m 24 ls [.int w_82.toInt32, .ref (f 5)]) rfl ?_
      refine W.eq (g2 := F0 m 24 ls [.int (nI j_83), .ref (f 5)]) (by rw [ej_83]) ?_
      refine lv_iload hx hb d_TM_joinVarying_24 (lv_at hl 4 rfl) ?_
      refine lv_if_eq (tgt := 34) hx hb d_TM_joinVarying_26 (by decide) (fun hb_84 => ?_) (fun hb_84 => ?_)
      · skip
        refine lv_bipush (v := 7) hx hb d_TM_joinVarying_34 (by decide) ?_
        refine W.callRL (W.runS (As := [.int 7]) (rest := [.int (nI j_83), .ref (f 5)]) ⟨hx, hb, hml, hown, hG⟩ (wd_constant l D cI cL cZ cC 7 ) (va_cwS 1 hG (gd_T k_728 k_729 k_127 k_730) rfl rfl rfl (by decide +kernel) ⟨Nat.le_of_ble_eq_true rfl, Nat.le_of_ble_eq_true rfl⟩) (wq_S hP hK [] rfl) rfl rfl hl.1 rfl (lv_room (Nat.le_of_ble_eq_true rfl)) d_TM_joinVarying_36 ⟨Nat.le_of_ble_eq_true rfl, Nat.le_of_ble_eq_true rfl⟩) ?_
        refine W.eq (g2 := F0 m 39 ls [.long (wcon 7), .int (nI j_83), .ref (f 5)]) rfl ?_
        refine va_last hx hb hK hP hD hS 1 1 rfl rfl (vp_in_nI (n := j_83) (N := 1024) (by omega) (by omega)) d_TM_joinVarying_39 (fun H locs hP hD hS => ?_)
        have hP : va_P D classes [((f 4), .inr (2, [.ref (f 5), .ref (f 6), .ref (f 7), .int (nI fs), .ref (f 8), .ref (f 9), .ref (f 10), .int tb])), ((f 5), .inl (cL, 1024, .inr (.inl (vp_updL le (nI j_83).toNatClampNeg (wcon 7))))), ((f 6), .inl (cL, 1024, .inr (.inl ri))), ((f 7), .inl (cI, 1024, .inl fr)), ((f 8), .inl (cI, 1024, .inl od)), ((f 9), .inl (cZ, 1024, .inl ha)), ((f 10), .inl (cL, 1024, .inr (.inl wo)))] H := hP
        have hD : va_D A [((f 4), .inr (2, [.ref (f 5), .ref (f 6), .ref (f 7), .int (nI fs), .ref (f 8), .ref (f 9), .ref (f 10), .int tb])), ((f 5), .inl (cL, 1024, .inr (.inl (vp_updL le (nI j_83).toNatClampNeg (wcon 7))))), ((f 6), .inl (cL, 1024, .inr (.inl ri))), ((f 7), .inl (cI, 1024, .inl fr)), ((f 8), .inl (cI, 1024, .inl od)), ((f 9), .inl (cZ, 1024, .inl ha)), ((f 10), .inl (cL, 1024, .inr (.inl wo)))] := hD
        obtain ⟨g_85, eg_85⟩ : ∃ z, z = vp_updL le (nI j_83).toNatClampNeg (wcon 7) := ⟨_, rfl⟩
        rw [← eg_85] at hP hD
        have hg_85 : wfa 1024 g_85 := by rw [eg_85]; exact wfa_up hle (wfw_con (by decide))
        refine lv_aload_n hx hb d_TM_joinVarying_40 rfl (lv_at hl 0 rfl) ?_
        refine lv_iload_n hx hb d_TM_joinVarying_41 rfl (lv_at hl 1 rfl) ?_
        refine lv_lload_n hx hb d_TM_joinVarying_42 rfl (lv_at hl 2 rfl) ?_
        refine lv_lload hx hb d_TM_joinVarying_43 (lv_at hl 3 rfl) ?_
        refine em_call (wr := []) (em_runV (As := [.int (nI n), .long a, .long b]) (rest := []) ⟨hx, hb, hml, hown, hG⟩ (tm_put l D cI cL cZ cC f fs tb g_85 ri wo fr od ha n a b _ (by omega) htb hg_85 hri hwo hfr hod hha (by omega) hwa hwb hnt) (cwV 3 hG (gd_V k_790 k_792 k_20 k_109 k_793) rfl rfl rfl (by decide +kernel) ⟨Nat.le_of_ble_eq_true rfl, Nat.le_of_ble_eq_true rfl⟩) (tw_V (q0 := 0) hP hD hK hE hst hS rfl rfl [0, 1, 2, 3, 4, 5, 6] rfl (by decide)) rfl rfl hl.1 rfl (lv_room (Nat.le_of_ble_eq_true rfl)) d_TM_joinVarying_45 ⟨Nat.le_of_ble_eq_true rfl, Nat.le_of_ble_eq_true rfl⟩) hP hD hS hA [0, 1, 2, 3, 4, 5, 6] [] rfl rfl (by decide) (by decide) (fun v u H locs hok hP hD hS => ?_) (fun x C u H locs hbad hxx hP hD hS => ?_)
        · skip
          obtain ⟨fs_86, tb_87, le_88, ri_89, wo_90, fr_91, od_92, ha_93⟩ := u
          obtain ⟨r_94, rfl, hp_95⟩ := hok
          obtain ⟨hfs_96, htb_97, hle_98, hri_99, hwo_100, hfr_101, hod_102, hha_103, hres_104⟩ : fs_86 ≤ 1024 ∧ (tb_87 = 0 ∨ tb_87 = 1) ∧ wfa 1024 le_88 ∧ wfa 1024 ri_89 ∧ wfa 1024 wo_90 ∧ rng 1024 fr_91 ∧ rng 1024 od_92 ∧ bln ha_93 ∧ wfw 1024 r_94 := hp_95
          have hP : va_P D classes [((f 4), .inr (2, [.ref (f 5), .ref (f 6), .ref (f 7), .int (nI fs_86), .ref (f 8), .ref (f 9), .ref (f 10), .int tb_87])), ((f 5), .inl (cL, 1024, .inr (.inl le_88))), ((f 6), .inl (cL, 1024, .inr (.inl ri_89))), ((f 7), .inl (cI, 1024, .inl fr_91)), ((f 8), .inl (cI, 1024, .inl od_92)), ((f 9), .inl (cZ, 1024, .inl ha_93)), ((f 10), .inl (cL, 1024, .inr (.inl wo_90)))] H := hP
          have hD : va_D A [((f 4), .inr (2, [.ref (f 5), .ref (f 6), .ref (f 7), .int (nI fs_86), .ref (f 8), .ref (f 9), .ref (f 10), .int tb_87])), ((f 5), .inl (cL, 1024, .inr (.inl le_88))), ((f 6), .inl (cL, 1024, .inr (.inl ri_89))), ((f 7), .inl (cI, 1024, .inl fr_91)), ((f 8), .inl (cI, 1024, .inl od_92)), ((f 9), .inl (cZ, 1024, .inl ha_93)), ((f 10), .inl (cL, 1024, .inr (.inl wo_90)))] := hD
          refine W.eq (g2 := F0 m 48 ls [.long r_94]) rfl ?_
          exact em_lret hx hb hr hlocks hP hD hK hS (fs_86, tb_87, le_88, ri_89, wo_90, fr_91, od_92, ha_93) [0, 1, 2, 3, 4, 5, 6] (by decide) rfl ⟨_, rfl, ⟨(by omega), htb_97, hle_98, hri_99, hwo_100, hfr_101, hod_102, hha_103, hres_104⟩⟩ d_TM_joinVarying_48
        · skip
          exact hbad.elim
      · skip
        refine lv_bipush (v := 9) hx hb d_TM_joinVarying_29 (by decide) ?_
        refine lv_goto (tgt := 36) hx hb d_TM_joinVarying_31 (by decide) ?_
        refine W.callRL (W.runS (As := [.int 9]) (rest := [.int (nI j_83), .ref (f 5)]) ⟨hx, hb, hml, hown, hG⟩ (wd_constant l D cI cL cZ cC 9 ) (va_cwS 1 hG (gd_T k_728 k_729 k_127 k_730) rfl rfl rfl (by decide +kernel) ⟨Nat.le_of_ble_eq_true rfl, Nat.le_of_ble_eq_true rfl⟩) (wq_S hP hK [] rfl) rfl rfl hl.1 rfl (lv_room (Nat.le_of_ble_eq_true rfl)) d_TM_joinVarying_36 ⟨Nat.le_of_ble_eq_true rfl, Nat.le_of_ble_eq_true rfl⟩) ?_
        refine W.eq (g2 := F0 m 39 ls [.long (wcon 9), .int (nI j_83), .ref (f 5)]) rfl ?_
        refine va_last hx hb hK hP hD hS 1 1 rfl rfl (vp_in_nI (n := j_83) (N := 1024) (by omega) (by omega)) d_TM_joinVarying_39 (fun H locs hP hD hS => ?_)
        have hP : va_P D classes [((f 4), .inr (2, [.ref (f 5), .ref (f 6), .ref (f 7), .int (nI fs), .ref (f 8), .ref (f 9), .ref (f 10), .int tb])), ((f 5), .inl (cL, 1024, .inr (.inl (vp_updL le (nI j_83).toNatClampNeg (wcon 9))))), ((f 6), .inl (cL, 1024, .inr (.inl ri))), ((f 7), .inl (cI, 1024, .inl fr)), ((f 8), .inl (cI, 1024, .inl od)), ((f 9), .inl (cZ, 1024, .inl ha)), ((f 10), .inl (cL, 1024, .inr (.inl wo)))] H := hP
        have hD : va_D A [((f 4), .inr (2, [.ref (f 5), .ref (f 6), .ref (f 7), .int (nI fs), .ref (f 8), .ref (f 9), .ref (f 10), .int tb])), ((f 5), .inl (cL, 1024, .inr (.inl (vp_updL le (nI j_83).toNatClampNeg (wcon 9))))), ((f 6), .inl (cL, 1024, .inr (.inl ri))), ((f 7), .inl (cI, 1024, .inl fr)), ((f 8), .inl (cI, 1024, .inl od)), ((f 9), .inl (cZ, 1024, .inl ha)), ((f 10), .inl (cL, 1024, .inr (.inl wo)))] := hD
        obtain ⟨g_105, eg_105⟩ : ∃ z, z = vp_updL le (nI j_83).toNatClampNeg (wcon 9) := ⟨_, rfl⟩
        rw [← eg_105] at hP hD
        have hg_105 : wfa 1024 g_105 := by rw [eg_105]; exact wfa_up hle (wfw_con (by decide))
        refine lv_aload_n hx hb d_TM_joinVarying_40 rfl (lv_at hl 0 rfl) ?_
        refine lv_iload_n hx hb d_TM_joinVarying_41 rfl (lv_at hl 1 rfl) ?_
        refine lv_lload_n hx hb d_TM_joinVarying_42 rfl (lv_at hl 2 rfl) ?_
        refine lv_lload hx hb d_TM_joinVarying_43 (lv_at hl 3 rfl) ?_
        refine em_call (wr := []) (em_runV (As := [.int (nI n), .long a, .long b]) (rest := []) ⟨hx, hb, hml, hown, hG⟩ (tm_put l D cI cL cZ cC f fs tb g_105 ri wo fr od ha n a b _ (by omega) htb hg_105 hri hwo hfr hod hha (by omega) hwa hwb hnt) (cwV 3 hG (gd_V k_790 k_792 k_20 k_109 k_793) rfl rfl rfl (by decide +kernel) ⟨Nat.le_of_ble_eq_true rfl, Nat.le_of_ble_eq_true rfl⟩) (tw_V (q0 := 0) hP hD hK hE hst hS rfl rfl [0, 1, 2, 3, 4, 5, 6] rfl (by decide)) rfl rfl hl.1 rfl (lv_room (Nat.le_of_ble_eq_true rfl)) d_TM_joinVarying_45 ⟨Nat.le_of_ble_eq_true rfl, Nat.le_of_ble_eq_true rfl⟩) hP hD hS hA [0, 1, 2, 3, 4, 5, 6] [] rfl rfl (by decide) (by decide) (fun v u H locs hok hP hD hS => ?_) (fun x C u H locs hbad hxx hP hD hS => ?_)
        · skip
          obtain ⟨fs_106, tb_107, le_108, ri_109, wo_110, fr_111, od_112, ha_113⟩ := u
          obtain ⟨r_114, rfl, hp_115⟩ := hok
          obtain ⟨hfs_116, htb_117, hle_118, hri_119, hwo_120, hfr_121, hod_122, hha_123, hres_124⟩ : fs_106 ≤ 1024 ∧ (tb_107 = 0 ∨ tb_107 = 1) ∧ wfa 1024 le_108 ∧ wfa 1024 ri_109 ∧ wfa 1024 wo_110 ∧ rng 1024 fr_111 ∧ rng 1024 od_112 ∧ bln ha_113 ∧ wfw 1024 r_114 := hp_115
          have hP : va_P D classes [((f 4), .inr (2, [.ref (f 5), .ref (f 6), .ref (f 7), .int (nI fs_106), .ref (f 8), .ref (f 9), .ref (f 10), .int tb_107])), ((f 5), .inl (cL, 1024, .inr (.inl le_108))), ((f 6), .inl (cL, 1024, .inr (.inl ri_109))), ((f 7), .inl (cI, 1024, .inl fr_111)), ((f 8), .inl (cI, 1024, .inl od_112)), ((f 9), .inl (cZ, 1024, .inl ha_113)), ((f 10), .inl (cL, 1024, .inr (.inl wo_110)))] H := hP
          have hD : va_D A [((f 4), .inr (2, [.ref (f 5), .ref (f 6), .ref (f 7), .int (nI fs_106), .ref (f 8), .ref (f 9), .ref (f 10), .int tb_107])), ((f 5), .inl (cL, 1024, .inr (.inl le_108))), ((f 6), .inl (cL, 1024, .inr (.inl ri_109))), ((f 7), .inl (cI, 1024, .inl fr_111)), ((f 8), .inl (cI, 1024, .inl od_112)), ((f 9), .inl (cZ, 1024, .inl ha_113)), ((f 10), .inl (cL, 1024, .inr (.inl wo_110)))] := hD
          refine W.eq (g2 := F0 m 48 ls [.long r_114]) rfl ?_
          exact em_lret hx hb hr hlocks hP hD hK hS (fs_106, tb_107, le_108, ri_109, wo_110, fr_111, od_112, ha_113) [0, 1, 2, 3, 4, 5, 6] (by decide) rfl ⟨_, rfl, ⟨(by omega), htb_117, hle_118, hri_119, hwo_120, hfr_121, hod_122, hha_123, hres_124⟩⟩ d_TM_joinVarying_48
        · skip
          exact hbad.elim
  · skip
    exact hbad.elim
set_option maxHeartbeats 8000000 in
set_option maxRecDepth 100000 in
theorem tm_takeOutOf (l : Launch) (D : va_G) (cI cL cZ cC : ClassId) (f : Nat → Nat) (fs : Nat) (tb : Int32) (le : Nat → Int64) (ri : Nat → Int64) (wo : Nat → Int64) (fr : Nat → Int32) (od : Nat → Int32) (ha : Nat → Int32) (n : Nat) (b : Int64) (sz : Nat) (hfs : fs ≤ 1024) (htb : (tb = 0 ∨ tb = 1)) (hle : wfa 1024 le) (hri : wfa 1024 ri) (hwo : wfa 1024 wo) (hfr : rng 1024 fr) (hod : rng 1024 od) (hha : bln ha) (hn : n < 1024) (hnt : l.stackTraces = false) : em_Met l y_TM_takeOutOf (wz y_TM_takeOutOf b_TM_takeOutOf 16 none) ({ frames := 3, cells := 0, slots := 0, locals := 75 }) (va_Pc [.ref (f 4), .int (nI n), .long b] (tw_pre D (tys4 cI cL cZ cC) [((f 4), .inr (2, [.ref (f 5), .ref (f 6), .ref (f 7), .int (nI fs), .ref (f 8), .ref (f 9), .ref (f 10), .int tb])), ((f 5), .inl (cL, 1024, .inr (.inl le))), ((f 6), .inl (cL, 1024, .inr (.inl ri))), ((f 7), .inl (cI, 1024, .inl fr)), ((f 8), .inl (cI, 1024, .inl od)), ((f 9), .inl (cZ, 1024, .inl ha)), ((f 10), .inl (cL, 1024, .inr (.inl wo)))] sz)) D (tys4 cI cL cZ cC) (va_A [((f 4), .inr (2, [.ref (f 5), .ref (f 6), .ref (f 7), .int (nI fs), .ref (f 8), .ref (f 9), .ref (f 10), .int tb])), ((f 5), .inl (cL, 1024, .inr (.inl le))), ((f 6), .inl (cL, 1024, .inr (.inl ri))), ((f 7), .inl (cI, 1024, .inl fr)), ((f 8), .inl (cI, 1024, .inl od)), ((f 9), .inl (cZ, 1024, .inl ha)), ((f 10), .inl (cL, 1024, .inr (.inl wo)))] sz) (fun (u : Nat × Int32 × (Nat → Int64) × (Nat → Int64) × (Nat → Int64) × (Nat → Int32) × (Nat → Int32) × (Nat → Int32)) => [((f 4), .inr (2, [.ref (f 5), .ref (f 6), .ref (f 7), .int (nI u.1), .ref (f 8), .ref (f 9), .ref (f 10), .int u.2.1])), ((f 5), .inl (cL, 1024, .inr (.inl u.2.2.1))), ((f 6), .inl (cL, 1024, .inr (.inl u.2.2.2.1))), ((f 7), .inl (cI, 1024, .inl u.2.2.2.2.2.1)), ((f 8), .inl (cI, 1024, .inl u.2.2.2.2.2.2.1)), ((f 9), .inl (cZ, 1024, .inl u.2.2.2.2.2.2.2)), ((f 10), .inl (cL, 1024, .inr (.inl u.2.2.2.2.1)))]) (fun v (u : Nat × Int32 × (Nat → Int64) × (Nat → Int64) × (Nat → Int64) × (Nat → Int32) × (Nat → Int32) × (Nat → Int32)) => v = none ∧ (u.1 ≤ 1024 ∧ (u.2.1 = 0 ∨ u.2.1 = 1) ∧ wfa 1024 u.2.2.1 ∧ wfa 1024 u.2.2.2.1 ∧ wfa 1024 u.2.2.2.2.1 ∧ rng 1024 u.2.2.2.2.2.1 ∧ rng 1024 u.2.2.2.2.2.2.1 ∧ bln u.2.2.2.2.2.2.2)) (fun C (u : Nat × Int32 × (Nat → Int64) × (Nat → Int64) × (Nat → Int64) × (Nat → Int32) × (Nat → Int32) × (Nat → Int32)) => False) 0 0 := by
  refine em_Met.ofW (cc := b_TM_takeOutOf) (maxL := 16) (ret := none) (by decide) rfl ?_
  intro p e s m args below meth c s₁ B hml hv hno
  obtain ⟨rfl, ⟨hsz, hP, hK, hD0⟩, hE⟩ := hv
  have hx := B.exec
  have hb := B.bytes
  have hr := B.returns
  have hts := atoms_spec (ws := wz y_TM_takeOutOf b_TM_takeOutOf 16 none) B.pre
  have hG := wz_G hts
  have hown : s.vm.findClass rn_TM = some m.cls := findClass_of_methodNamed B.named
  have hlocks := B.notSynchronized
  subst hsz
  have hD := hD0.self (sz := s.heap.size)
  have hst := tw_st hP
  generalize hAe : va_A [((f 4), .inr (2, [.ref (f 5), .ref (f 6), .ref (f 7), .int (nI fs), .ref (f 8), .ref (f 9), .ref (f 10), .int tb])), ((f 5), .inl (cL, 1024, .inr (.inl le))), ((f 6), .inl (cL, 1024, .inr (.inl ri))), ((f 7), .inl (cI, 1024, .inl fr)), ((f 8), .inl (cI, 1024, .inl od)), ((f 9), .inl (cZ, 1024, .inl ha)), ((f 10), .inl (cL, 1024, .inr (.inl wo)))] s.heap.size = A at hD hst ⊢
  have hA : ∀ q : Nat, s.heap.size ≤ q → A q := fun q h => by rw [← hAe]; exact Or.inr h
  have hS : va_S A s.heap s.heap [] := va_S.rf
  have hl := lv_entry ([.ref (f 4), .int (nI n), .long b]) (n := 16) (Nat.le_of_ble_eq_true rfl)
  rw [lg_entry_eq]
  generalize (lg_sl ([.ref (f 4), .int (nI n), .long b]) ++ List.replicate (16 - (lg_sl ([.ref (f 4), .int (nI n), .long b])).length) Slot.unset).toArray = ls at hl ⊢
  have hl : lv_has ls 16 [(0, .ref (f 4)), (1, .int (nI n)), (2, .long b)] := hl
  refine lv_aload_n hx hb d_TM_takeOutOf_0 rfl (lv_at hl 0 rfl) ?_
  refine va_get (D := D) (ci := 2) (v := .ref (f 5)) (C := rn_TM) (T := fl_TM) (N := 8) hx hb hG in_TM hown hK hP 0 rfl rfl 0 (by decide) (hG _ k_162) (fun _ h9 => h9) rfl d_TM_takeOutOf_1 ?_
  refine lv_iload_n hx hb d_TM_takeOutOf_4 rfl (lv_at hl 1 rfl) ?_
  refine va_lald hx hb hK hP 1 1 rfl rfl (vp_in_nI (n := n) (N := 1024) (by omega) (by omega)) d_TM_takeOutOf_5 ?_
  refine lv_topl (fun w_1 ew_1 => ?_)
  have hw_1 : wfw 1024 w_1 := by rw [ew_1]; exact hle _
  refine lv_lstore (lv' := [(4, .long w_1), (0, .ref (f 4)), (1, .int (nI n)), (2, .long b)]) hx hb d_TM_takeOutOf_6 hl (Nat.le_of_ble_eq_true rfl) rfl (fun ls hl => ?_)
  refine lv_aload_n hx hb d_TM_takeOutOf_8 rfl (lv_at hl 1 rfl) ?_
  refine va_get (D := D) (ci := 2) (v := .ref (f 6)) (C := rn_TM) (T := fl_TM) (N := 8) hx hb hG in_TM hown hK hP 0 rfl rfl 1 (by decide) (hG _ k_163) (fun _ h9 => h9) rfl d_TM_takeOutOf_9 ?_
  refine lv_iload_n hx hb d_TM_takeOutOf_12 rfl (lv_at hl 2 rfl) ?_
  refine va_lald hx hb hK hP 2 1 rfl rfl (vp_in_nI (n := n) (N := 1024) (by omega) (by omega)) d_TM_takeOutOf_13 ?_
  refine lv_topl (fun w_2 ew_2 => ?_)
  have hw_2 : wfw 1024 w_2 := by rw [ew_2]; exact hri _
  refine lv_lstore (lv' := [(6, .long w_2), (4, .long w_1), (0, .ref (f 4)), (1, .int (nI n)), (2, .long b)]) hx hb d_TM_takeOutOf_14 hl (Nat.le_of_ble_eq_true rfl) rfl (fun ls hl => ?_)
  refine lv_aload_n hx hb d_TM_takeOutOf_16 rfl (lv_at hl 2 rfl) ?_
  refine lv_lload hx hb d_TM_takeOutOf_17 (lv_at hl 1 rfl) ?_
  refine lv_lload_n hx hb d_TM_takeOutOf_19 rfl (lv_at hl 4 rfl) ?_
  refine em_call (wr := []) (em_runV (As := [.long w_1, .long b]) (rest := []) ⟨hx, hb, hml, hown, hG⟩ (tm_hasName l D cI cL cZ cC f fs tb le ri wo fr od ha w_1 b _ (by omega) htb hle hri hwo hfr hod hha hw_1 hnt) (cwV 2 hG (gd_V k_766 k_768 k_14 k_109 k_769) rfl rfl rfl (by decide +kernel) ⟨Nat.le_of_ble_eq_true rfl, Nat.le_of_ble_eq_true rfl⟩) (tw_V (q0 := 0) hP hD hK hE hst hS rfl rfl [0, 1, 2, 3, 4, 5, 6] rfl (by decide)) rfl rfl hl.1 rfl (lv_room (Nat.le_of_ble_eq_true rfl)) d_TM_takeOutOf_20 ⟨Nat.le_of_ble_eq_true rfl, Nat.le_of_ble_eq_true rfl⟩) hP hD hS hA [0, 1, 2, 3, 4, 5, 6] [] rfl rfl (by decide) (by decide) (fun v u H locs hok hP hD hS => ?_) (fun x C u H locs hbad hxx hP hD hS => ?_)
  · skip
    obtain ⟨r_3, rfl, hp_4⟩ := hok
    have hp_4 : (r_3 = 0 ∨ r_3 = 1) := hp_4
    have hP : va_P D classes [((f 4), .inr (2, [.ref (f 5), .ref (f 6), .ref (f 7), .int (nI fs), .ref (f 8), .ref (f 9), .ref (f 10), .int tb])), ((f 5), .inl (cL, 1024, .inr (.inl le))), ((f 6), .inl (cL, 1024, .inr (.inl ri))), ((f 7), .inl (cI, 1024, .inl fr)), ((f 8), .inl (cI, 1024, .inl od)), ((f 9), .inl (cZ, 1024, .inl ha)), ((f 10), .inl (cL, 1024, .inr (.inl wo)))] H := hP
    have hD : va_D A [((f 4), .inr (2, [.ref (f 5), .ref (f 6), .ref (f 7), .int (nI fs), .ref (f 8), .ref (f 9), .ref (f 10), .int tb])), ((f 5), .inl (cL, 1024, .inr (.inl le))), ((f 6), .inl (cL, 1024, .inr (.inl ri))), ((f 7), .inl (cI, 1024, .inl fr)), ((f 8), .inl (cI, 1024, .inl od)), ((f 9), .inl (cZ, 1024, .inl ha)), ((f 10), .inl (cL, 1024, .inr (.inl wo)))] := hD
    rcases hp_4 with rfl | rfl
    · skip
      refine W.eq (g2 := F0 m 23 ls [.int 0]) rfl ?_
      refine lv_istore (lv' := [(8, .int 0), (6, .long w_2), (4, .long w_1), (0, .ref (f 4)), (1, .int (nI n)), (2, .long b)]) hx hb d_TM_takeOutOf_23 hl (Nat.le_of_ble_eq_true rfl) rfl (fun ls hl => ?_)
      refine lv_aload_n hx hb d_TM_takeOutOf_25 rfl (lv_at hl 3 rfl) ?_
      refine lv_lload hx hb d_TM_takeOutOf_26 (lv_at hl 1 rfl) ?_
      refine lv_lload_n hx hb d_TM_takeOutOf_28 rfl (lv_at hl 5 rfl) ?_
      refine em_call (wr := []) (em_runV (As := [.long w_2, .long b]) (rest := []) ⟨hx, hb, hml, hown, hG⟩ (tm_hasName l D cI cL cZ cC f fs tb le ri wo fr od ha w_2 b _ (by omega) htb hle hri hwo hfr hod hha hw_2 hnt) (cwV 2 hG (gd_V k_766 k_768 k_14 k_109 k_769) rfl rfl rfl (by decide +kernel) ⟨Nat.le_of_ble_eq_true rfl, Nat.le_of_ble_eq_true rfl⟩) (tw_V (q0 := 0) hP hD hK hE hst hS rfl rfl [0, 1, 2, 3, 4, 5, 6] rfl (by decide)) rfl rfl hl.1 rfl (lv_room (Nat.le_of_ble_eq_true rfl)) d_TM_takeOutOf_29 ⟨Nat.le_of_ble_eq_true rfl, Nat.le_of_ble_eq_true rfl⟩) hP hD hS hA [0, 1, 2, 3, 4, 5, 6] [] rfl rfl (by decide) (by decide) (fun v u H locs hok hP hD hS => ?_) (fun x C u H locs hbad hxx hP hD hS => ?_)
      · skip
        obtain ⟨r_5, rfl, hp_6⟩ := hok
        have hp_6 : (r_5 = 0 ∨ r_5 = 1) := hp_6
        have hP : va_P D classes [((f 4), .inr (2, [.ref (f 5), .ref (f 6), .ref (f 7), .int (nI fs), .ref (f 8), .ref (f 9), .ref (f 10), .int tb])), ((f 5), .inl (cL, 1024, .inr (.inl le))), ((f 6), .inl (cL, 1024, .inr (.inl ri))), ((f 7), .inl (cI, 1024, .inl fr)), ((f 8), .inl (cI, 1024, .inl od)), ((f 9), .inl (cZ, 1024, .inl ha)), ((f 10), .inl (cL, 1024, .inr (.inl wo)))] H := hP
        have hD : va_D A [((f 4), .inr (2, [.ref (f 5), .ref (f 6), .ref (f 7), .int (nI fs), .ref (f 8), .ref (f 9), .ref (f 10), .int tb])), ((f 5), .inl (cL, 1024, .inr (.inl le))), ((f 6), .inl (cL, 1024, .inr (.inl ri))), ((f 7), .inl (cI, 1024, .inl fr)), ((f 8), .inl (cI, 1024, .inl od)), ((f 9), .inl (cZ, 1024, .inl ha)), ((f 10), .inl (cL, 1024, .inr (.inl wo)))] := hD
        rcases hp_6 with rfl | rfl
        · skip
          refine W.eq (g2 := F0 m 32 ls [.int 0]) rfl ?_
          refine lv_istore (lv' := [(9, .int 0), (8, .int 0), (6, .long w_2), (4, .long w_1), (0, .ref (f 4)), (1, .int (nI n)), (2, .long b)]) hx hb d_TM_takeOutOf_32 hl (Nat.le_of_ble_eq_true rfl) rfl (fun ls hl => ?_)
          refine lv_aload_n hx hb d_TM_takeOutOf_34 rfl (lv_at hl 4 rfl) ?_
          refine va_get (D := D) (ci := 2) (v := .ref (f 9)) (C := rn_TM) (T := fl_TM) (N := 8) hx hb hG in_TM hown hK hP 0 rfl rfl 5 (by decide) (hG _ k_167) (fun _ h9 => h9) rfl d_TM_takeOutOf_35 ?_
          refine lv_iload_n hx hb d_TM_takeOutOf_38 rfl (lv_at hl 5 rfl) ?_
          refine lv_iload hx hb d_TM_takeOutOf_39 (lv_at hl 1 rfl) ?_
          refine lv_if_ne (tgt := 49) hx hb d_TM_takeOutOf_41 (by decide) (fun hbr => absurd (by decide) hbr) (fun hbr => ?_)
          refine lv_iload hx hb d_TM_takeOutOf_44 (lv_at hl 0 rfl) ?_
          refine lv_if_eq (tgt := 53) hx hb d_TM_takeOutOf_46 (by decide) (fun hbr => ?_) (fun hbr => absurd (by decide) hbr)
          refine lv_iconst (v := 0) hx hb d_TM_takeOutOf_53 (by decide) ?_
          refine va_zast hx hb hK hP hD hS 5 2 rfl rfl (vp_in_nI (n := n) (N := 1024) (by omega) (by omega)) d_TM_takeOutOf_54 (fun H locs hP hD hS => ?_)
          have hP : va_P D classes [((f 4), .inr (2, [.ref (f 5), .ref (f 6), .ref (f 7), .int (nI fs), .ref (f 8), .ref (f 9), .ref (f 10), .int tb])), ((f 5), .inl (cL, 1024, .inr (.inl le))), ((f 6), .inl (cL, 1024, .inr (.inl ri))), ((f 7), .inl (cI, 1024, .inl fr)), ((f 8), .inl (cI, 1024, .inl od)), ((f 9), .inl (cZ, 1024, .inl (upd ha (nI n).toNatClampNeg (vp_nar .boolean 0)))), ((f 10), .inl (cL, 1024, .inr (.inl wo)))] H := hP
          have hD : va_D A [((f 4), .inr (2, [.ref (f 5), .ref (f 6), .ref (f 7), .int (nI fs), .ref (f 8), .ref (f 9), .ref (f 10), .int tb])), ((f 5), .inl (cL, 1024, .inr (.inl le))), ((f 6), .inl (cL, 1024, .inr (.inl ri))), ((f 7), .inl (cI, 1024, .inl fr)), ((f 8), .inl (cI, 1024, .inl od)), ((f 9), .inl (cZ, 1024, .inl (upd ha (nI n).toNatClampNeg (vp_nar .boolean 0)))), ((f 10), .inl (cL, 1024, .inr (.inl wo)))] := hD
          obtain ⟨g_7, eg_7⟩ : ∃ z, z = upd ha (nI n).toNatClampNeg (vp_nar .boolean 0) := ⟨_, rfl⟩
          rw [← eg_7] at hP hD
          have hg_7 : bln g_7 := by rw [eg_7]; exact bln_up hha _
          refine lv_aload_n hx hb d_TM_takeOutOf_55 rfl (lv_at hl 4 rfl) ?_
          refine va_get (D := D) (ci := 2) (v := .ref (f 9)) (C := rn_TM) (T := fl_TM) (N := 8) hx hb hG in_TM hown hK hP 0 rfl rfl 5 (by decide) (hG _ k_167) (fun _ h9 => h9) rfl d_TM_takeOutOf_56 ?_
          refine lv_iload_n hx hb d_TM_takeOutOf_59 rfl (lv_at hl 5 rfl) ?_
          refine va_zald hx hb hK hP 5 2 rfl rfl (vp_in_nI (n := n) (N := 1024) (by omega) (by omega)) d_TM_takeOutOf_60 ?_
          refine lv_topi (fun v_8 ev_8 => ?_)
          have hv_8 : v_8 = 0 ∨ v_8 = 1 := by rw [ev_8]; exact hg_7 _
          refine lv_if_ne (tgt := 65) hx hb d_TM_takeOutOf_61 (by decide) (fun hb_9 => ?_) (fun hb_9 => ?_)
          · skip
            refine lv_iload hx hb d_TM_takeOutOf_65 (lv_at hl 1 rfl) ?_
            refine lv_if_eq (tgt := 79) hx hb d_TM_takeOutOf_67 (by decide) (fun hbr => ?_) (fun hbr => absurd (by decide) hbr)
            refine lv_lload hx hb d_TM_takeOutOf_79 (lv_at hl 3 rfl) ?_
            refine lv_lstore (lv' := [(10, .long w_1), (9, .int 0), (8, .int 0), (6, .long w_2), (4, .long w_1), (0, .ref (f 4)), (1, .int (nI n)), (2, .long b)]) hx hb d_TM_takeOutOf_81 hl (Nat.le_of_ble_eq_true rfl) rfl (fun ls hl => ?_)
            refine lv_iload hx hb d_TM_takeOutOf_83 (lv_at hl 1 rfl) ?_
            refine lv_if_eq (tgt := 97) hx hb d_TM_takeOutOf_85 (by decide) (fun hbr => ?_) (fun hbr => absurd (by decide) hbr)
            refine lv_lload hx hb d_TM_takeOutOf_97 (lv_at hl 3 rfl) ?_
            refine lv_lstore (lv' := [(12, .long w_2), (10, .long w_1), (9, .int 0), (8, .int 0), (6, .long w_2), (4, .long w_1), (0, .ref (f 4)), (1, .int (nI n)), (2, .long b)]) hx hb d_TM_takeOutOf_99 hl (Nat.le_of_ble_eq_true rfl) rfl (fun ls hl => ?_)
            refine lv_iload hx hb d_TM_takeOutOf_101 (lv_at hl 3 rfl) ?_
            refine lv_if_eq (tgt := 115) hx hb d_TM_takeOutOf_103 (by decide) (fun hbr => ?_) (fun hbr => absurd (by decide) hbr)
            refine lv_iconst (v := 1) hx hb d_TM_takeOutOf_115 (by decide) ?_
            refine lv_goto (tgt := 120) hx hb d_TM_takeOutOf_116 (by decide) ?_
            refine lv_istore (lv' := [(14, .int 1), (12, .long w_2), (10, .long w_1), (9, .int 0), (8, .int 0), (6, .long w_2), (4, .long w_1), (0, .ref (f 4)), (1, .int (nI n)), (2, .long b)]) hx hb d_TM_takeOutOf_120 hl (Nat.le_of_ble_eq_true rfl) rfl (fun ls hl => ?_)
            refine lv_iload hx hb d_TM_takeOutOf_122 (lv_at hl 3 rfl) ?_
            refine lv_if_eq (tgt := 136) hx hb d_TM_takeOutOf_124 (by decide) (fun hbr => ?_) (fun hbr => absurd (by decide) hbr)
            refine lv_iconst (v := 1) hx hb d_TM_takeOutOf_136 (by decide) ?_
            refine lv_goto (tgt := 141) hx hb d_TM_takeOutOf_137 (by decide) ?_
            refine lv_istore (lv' := [(15, .int 1), (14, .int 1), (12, .long w_2), (10, .long w_1), (9, .int 0), (8, .int 0), (6, .long w_2), (4, .long w_1), (0, .ref (f 4)), (1, .int (nI n)), (2, .long b)]) hx hb d_TM_takeOutOf_141 hl (Nat.le_of_ble_eq_true rfl) rfl (fun ls hl => ?_)
            refine lv_iload hx hb d_TM_takeOutOf_143 (lv_at hl 5 rfl) ?_
            refine lv_if_eq (tgt := 161) hx hb d_TM_takeOutOf_145 (by decide) (fun hbr => ?_) (fun hbr => absurd (by decide) hbr)
            refine lv_iload hx hb d_TM_takeOutOf_161 (lv_at hl 4 rfl) ?_
            refine lv_if_eq (tgt := 179) hx hb d_TM_takeOutOf_163 (by decide) (fun hbr => ?_) (fun hbr => absurd (by decide) hbr)
            refine lv_aload_n hx hb d_TM_takeOutOf_179 rfl (lv_at hl 8 rfl) ?_
            refine va_get (D := D) (ci := 2) (v := .ref (f 10)) (C := rn_TM) (T := fl_TM) (N := 8) hx hb hG in_TM hown hK hP 0 rfl rfl 6 (by decide) (hG _ k_168) (fun _ h9 => h9) rfl d_TM_takeOutOf_180 ?_
            refine lv_iload_n hx hb d_TM_takeOutOf_183 rfl (lv_at hl 9 rfl) ?_
            refine lv_iload hx hb d_TM_takeOutOf_184 (lv_at hl 1 rfl) ?_
            refine lv_if_eq (tgt := 203) hx hb d_TM_takeOutOf_186 (by decide) (fun hbr => absurd hbr (by decide)) (fun hbr => ?_)
            refine lv_aload_n hx hb d_TM_takeOutOf_189 rfl (lv_at hl 8 rfl) ?_
            refine lv_iload_n hx hb d_TM_takeOutOf_190 rfl (lv_at hl 9 rfl) ?_
            refine lv_lload hx hb d_TM_takeOutOf_191 (lv_at hl 3 rfl) ?_
            refine lv_lload hx hb d_TM_takeOutOf_193 (lv_at hl 2 rfl) ?_
            refine lv_iload hx hb d_TM_takeOutOf_195 (lv_at hl 0 rfl) ?_
            refine em_call (wr := []) (em_runV (As := [.int (nI n), .long w_1, .long w_2, .int 1]) (rest := [.int (nI n), .ref (f 10)]) ⟨hx, hb, hml, hown, hG⟩ (tm_joinConstant l D cI cL cZ cC f fs tb le ri wo fr od g_7 n w_1 w_2 1 _ (by omega) htb hle hri hwo hfr hod hg_7 (by omega) hw_1 hw_2 hnt) (cwV 4 hG (gd_V k_786 k_788 k_19 k_109 k_789) rfl rfl rfl (by decide +kernel) ⟨Nat.le_of_ble_eq_true rfl, Nat.le_of_ble_eq_true rfl⟩) (tw_V (q0 := 0) hP hD hK hE hst hS rfl rfl [0, 1, 2, 3, 4, 5, 6] rfl (by decide)) rfl rfl hl.1 rfl (lv_room (Nat.le_of_ble_eq_true rfl)) d_TM_takeOutOf_197 ⟨Nat.le_of_ble_eq_true rfl, Nat.le_of_ble_eq_true rfl⟩) hP hD hS hA [0, 1, 2, 3, 4, 5, 6] [] rfl rfl (by decide) (by decide) (fun v u H locs hok hP hD hS => ?_) (fun x C u H locs hbad hxx hP hD hS => ?_)
            · skip
              obtain ⟨fs_10, tb_11, le_12, ri_13, wo_14, fr_15, od_16, ha_17⟩ := u
              obtain ⟨r_18, rfl, hp_19⟩ := hok
              obtain ⟨hfs_20, htb_21, hle_22, hri_23, hwo_24, hfr_25, hod_26, hha_27, hres_28⟩ : fs_10 ≤ 1024 ∧ (tb_11 = 0 ∨ tb_11 = 1) ∧ wfa 1024 le_12 ∧ wfa 1024 ri_13 ∧ wfa 1024 wo_14 ∧ rng 1024 fr_15 ∧ rng 1024 od_16 ∧ bln ha_17 ∧ wfw 1024 r_18 := hp_19
              have hP : va_P D classes [((f 4), .inr (2, [.ref (f 5), .ref (f 6), .ref (f 7), .int (nI fs_10), .ref (f 8), .ref (f 9), .ref (f 10), .int tb_11])), ((f 5), .inl (cL, 1024, .inr (.inl le_12))), ((f 6), .inl (cL, 1024, .inr (.inl ri_13))), ((f 7), .inl (cI, 1024, .inl fr_15)), ((f 8), .inl (cI, 1024, .inl od_16)), ((f 9), .inl (cZ, 1024, .inl ha_17)), ((f 10), .inl (cL, 1024, .inr (.inl wo_14)))] H := hP
              have hD : va_D A [((f 4), .inr (2, [.ref (f 5), .ref (f 6), .ref (f 7), .int (nI fs_10), .ref (f 8), .ref (f 9), .ref (f 10), .int tb_11])), ((f 5), .inl (cL, 1024, .inr (.inl le_12))), ((f 6), .inl (cL, 1024, .inr (.inl ri_13))), ((f 7), .inl (cI, 1024, .inl fr_15)), ((f 8), .inl (cI, 1024, .inl od_16)), ((f 9), .inl (cZ, 1024, .inl ha_17)), ((f 10), .inl (cL, 1024, .inr (.inl wo_14)))] := hD
              refine W.eq (g2 := F0 m 200 ls [.long r_18, .int (nI n), .ref (f 10)]) rfl ?_
              refine lv_goto (tgt := 214) hx hb d_TM_takeOutOf_200 (by decide) ?_
              refine va_last hx hb hK hP hD hS 6 1 rfl rfl (vp_in_nI (n := n) (N := 1024) (by omega) (by omega)) d_TM_takeOutOf_214 (fun H locs hP hD hS => ?_)
              have hP : va_P D classes [((f 4), .inr (2, [.ref (f 5), .ref (f 6), .ref (f 7), .int (nI fs_10), .ref (f 8), .ref (f 9), .ref (f 10), .int tb_11])), ((f 5), .inl (cL, 1024, .inr (.inl le_12))), ((f 6), .inl (cL, 1024, .inr (.inl ri_13))), ((f 7), .inl (cI, 1024, .inl fr_15)), ((f 8), .inl (cI, 1024, .inl od_16)), ((f 9), .inl (cZ, 1024, .inl ha_17)), ((f 10), .inl (cL, 1024, .inr (.inl (vp_updL wo_14 (nI n).toNatClampNeg r_18))))] H := hP
              have hD : va_D A [((f 4), .inr (2, [.ref (f 5), .ref (f 6), .ref (f 7), .int (nI fs_10), .ref (f 8), .ref (f 9), .ref (f 10), .int tb_11])), ((f 5), .inl (cL, 1024, .inr (.inl le_12))), ((f 6), .inl (cL, 1024, .inr (.inl ri_13))), ((f 7), .inl (cI, 1024, .inl fr_15)), ((f 8), .inl (cI, 1024, .inl od_16)), ((f 9), .inl (cZ, 1024, .inl ha_17)), ((f 10), .inl (cL, 1024, .inr (.inl (vp_updL wo_14 (nI n).toNatClampNeg r_18))))] := hD
              obtain ⟨g_29, eg_29⟩ : ∃ z, z = vp_updL wo_14 (nI n).toNatClampNeg r_18 := ⟨_, rfl⟩
              rw [← eg_29] at hP hD
              have hg_29 : wfa 1024 g_29 := by rw [eg_29]; exact wfa_up hwo_24 hres_28
              exact em_vret hx hb hr hlocks hP hD hK hS (fs_10, tb_11, le_12, ri_13, g_29, fr_15, od_16, ha_17) [0, 1, 2, 3, 4, 5, 6] (by decide) rfl ⟨rfl, ⟨(by omega), htb_21, hle_22, hri_23, hg_29, hfr_25, hod_26, hha_27⟩⟩ d_TM_takeOutOf_215
            · skip
              exact hbad.elim
          · skip
            exact em_vret hx hb hr hlocks hP hD hK hS (fs, tb, le, ri, wo, fr, od, g_7) [0, 1, 2, 3, 4, 5, 6] (by decide) rfl ⟨rfl, ⟨(by omega), htb, hle, hri, hwo, hfr, hod, hg_7⟩⟩ d_TM_takeOutOf_64
        · skip
          refine W.eq (g2 := F0 m 32 ls [.int 1]) rfl ?_
          refine lv_istore (lv' := [(9, .int 1), (8, .int 0), (6, .long w_2), (4, .long w_1), (0, .ref (f 4)), (1, .int (nI n)), (2, .long b)]) hx hb d_TM_takeOutOf_32 hl (Nat.le_of_ble_eq_true rfl) rfl (fun ls hl => ?_)
          refine lv_aload_n hx hb d_TM_takeOutOf_34 rfl (lv_at hl 4 rfl) ?_
          refine va_get (D := D) (ci := 2) (v := .ref (f 9)) (C := rn_TM) (T := fl_TM) (N := 8) hx hb hG in_TM hown hK hP 0 rfl rfl 5 (by decide) (hG _ k_167) (fun _ h9 => h9) rfl d_TM_takeOutOf_35 ?_
          refine lv_iload_n hx hb d_TM_takeOutOf_38 rfl (lv_at hl 5 rfl) ?_
          refine lv_iload hx hb d_TM_takeOutOf_39 (lv_at hl 1 rfl) ?_
          refine lv_if_ne (tgt := 49) hx hb d_TM_takeOutOf_41 (by decide) (fun hbr => absurd (by decide) hbr) (fun hbr => ?_)
          refine lv_iload hx hb d_TM_takeOutOf_44 (lv_at hl 0 rfl) ?_
          refine lv_if_eq (tgt := 53) hx hb d_TM_takeOutOf_46 (by decide) (fun hbr => absurd hbr (by decide)) (fun hbr => ?_)
          refine lv_iconst (v := 1) hx hb d_TM_takeOutOf_49 (by decide) ?_
          refine lv_goto (tgt := 54) hx hb d_TM_takeOutOf_50 (by decide) ?_
          refine va_zast hx hb hK hP hD hS 5 2 rfl rfl (vp_in_nI (n := n) (N := 1024) (by omega) (by omega)) d_TM_takeOutOf_54 (fun H locs hP hD hS => ?_)
          have hP : va_P D classes [((f 4), .inr (2, [.ref (f 5), .ref (f 6), .ref (f 7), .int (nI fs), .ref (f 8), .ref (f 9), .ref (f 10), .int tb])), ((f 5), .inl (cL, 1024, .inr (.inl le))), ((f 6), .inl (cL, 1024, .inr (.inl ri))), ((f 7), .inl (cI, 1024, .inl fr)), ((f 8), .inl (cI, 1024, .inl od)), ((f 9), .inl (cZ, 1024, .inl (upd ha (nI n).toNatClampNeg (vp_nar .boolean 1)))), ((f 10), .inl (cL, 1024, .inr (.inl wo)))] H := hP
          have hD : va_D A [((f 4), .inr (2, [.ref (f 5), .ref (f 6), .ref (f 7), .int (nI fs), .ref (f 8), .ref (f 9), .ref (f 10), .int tb])), ((f 5), .inl (cL, 1024, .inr (.inl le))), ((f 6), .inl (cL, 1024, .inr (.inl ri))), ((f 7), .inl (cI, 1024, .inl fr)), ((f 8), .inl (cI, 1024, .inl od)), ((f 9), .inl (cZ, 1024, .inl (upd ha (nI n).toNatClampNeg (vp_nar .boolean 1)))), ((f 10), .inl (cL, 1024, .inr (.inl wo)))] := hD
          obtain ⟨g_30, eg_30⟩ : ∃ z, z = upd ha (nI n).toNatClampNeg (vp_nar .boolean 1) := ⟨_, rfl⟩
          rw [← eg_30] at hP hD
          have hg_30 : bln g_30 := by rw [eg_30]; exact bln_up hha _
          refine lv_aload_n hx hb d_TM_takeOutOf_55 rfl (lv_at hl 4 rfl) ?_
          refine va_get (D := D) (ci := 2) (v := .ref (f 9)) (C := rn_TM) (T := fl_TM) (N := 8) hx hb hG in_TM hown hK hP 0 rfl rfl 5 (by decide) (hG _ k_167) (fun _ h9 => h9) rfl d_TM_takeOutOf_56 ?_
          refine lv_iload_n hx hb d_TM_takeOutOf_59 rfl (lv_at hl 5 rfl) ?_
          refine va_zald hx hb hK hP 5 2 rfl rfl (vp_in_nI (n := n) (N := 1024) (by omega) (by omega)) d_TM_takeOutOf_60 ?_
          refine lv_topi (fun v_31 ev_31 => ?_)
          have hv_31 : v_31 = 0 ∨ v_31 = 1 := by rw [ev_31]; exact hg_30 _
          refine lv_if_ne (tgt := 65) hx hb d_TM_takeOutOf_61 (by decide) (fun hb_32 => ?_) (fun hb_32 => ?_)
          · skip
            refine lv_iload hx hb d_TM_takeOutOf_65 (lv_at hl 1 rfl) ?_
            refine lv_if_eq (tgt := 79) hx hb d_TM_takeOutOf_67 (by decide) (fun hbr => ?_) (fun hbr => absurd (by decide) hbr)
            refine lv_lload hx hb d_TM_takeOutOf_79 (lv_at hl 3 rfl) ?_
            refine lv_lstore (lv' := [(10, .long w_1), (9, .int 1), (8, .int 0), (6, .long w_2), (4, .long w_1), (0, .ref (f 4)), (1, .int (nI n)), (2, .long b)]) hx hb d_TM_takeOutOf_81 hl (Nat.le_of_ble_eq_true rfl) rfl (fun ls hl => ?_)
            refine lv_iload hx hb d_TM_takeOutOf_83 (lv_at hl 1 rfl) ?_
            refine lv_if_eq (tgt := 97) hx hb d_TM_takeOutOf_85 (by decide) (fun hbr => absurd hbr (by decide)) (fun hbr => ?_)
            refine lv_aload_n hx hb d_TM_takeOutOf_88 rfl (lv_at hl 5 rfl) ?_
            refine lv_lload hx hb d_TM_takeOutOf_89 (lv_at hl 3 rfl) ?_
            refine em_call (wr := []) (em_runV (As := [.long w_2]) (rest := []) ⟨hx, hb, hml, hown, hG⟩ (tm_withoutName l D cI cL cZ cC f fs tb le ri wo fr od g_30 w_2 _ (by omega) htb hle hri hwo hfr hod hg_30 hw_2 hnt) (cwV 1 hG (gd_V k_770 k_772 k_15 k_109 k_773) rfl rfl rfl (by decide +kernel) ⟨Nat.le_of_ble_eq_true rfl, Nat.le_of_ble_eq_true rfl⟩) (tw_V (q0 := 0) hP hD hK hE hst hS rfl rfl [0, 1, 2, 3, 4, 5, 6] rfl (by decide)) rfl rfl hl.1 rfl (lv_room (Nat.le_of_ble_eq_true rfl)) d_TM_takeOutOf_91 ⟨Nat.le_of_ble_eq_true rfl, Nat.le_of_ble_eq_true rfl⟩) hP hD hS hA [0, 1, 2, 3, 4, 5, 6] [] rfl rfl (by decide) (by decide) (fun v u H locs hok hP hD hS => ?_) (fun x C u H locs hbad hxx hP hD hS => ?_)
            · skip
              obtain ⟨r_33, rfl, hp_34⟩ := hok
              have hp_34 : wfw 1024 r_33 := hp_34
              have hP : va_P D classes [((f 4), .inr (2, [.ref (f 5), .ref (f 6), .ref (f 7), .int (nI fs), .ref (f 8), .ref (f 9), .ref (f 10), .int tb])), ((f 5), .inl (cL, 1024, .inr (.inl le))), ((f 6), .inl (cL, 1024, .inr (.inl ri))), ((f 7), .inl (cI, 1024, .inl fr)), ((f 8), .inl (cI, 1024, .inl od)), ((f 9), .inl (cZ, 1024, .inl g_30)), ((f 10), .inl (cL, 1024, .inr (.inl wo)))] H := hP
              have hD : va_D A [((f 4), .inr (2, [.ref (f 5), .ref (f 6), .ref (f 7), .int (nI fs), .ref (f 8), .ref (f 9), .ref (f 10), .int tb])), ((f 5), .inl (cL, 1024, .inr (.inl le))), ((f 6), .inl (cL, 1024, .inr (.inl ri))), ((f 7), .inl (cI, 1024, .inl fr)), ((f 8), .inl (cI, 1024, .inl od)), ((f 9), .inl (cZ, 1024, .inl g_30)), ((f 10), .inl (cL, 1024, .inr (.inl wo)))] := hD
              refine W.eq (g2 := F0 m 94 ls [.long r_33]) rfl ?_
              refine lv_goto (tgt := 99) hx hb d_TM_takeOutOf_94 (by decide) ?_
              refine lv_lstore (lv' := [(12, .long r_33), (10, .long w_1), (9, .int 1), (8, .int 0), (6, .long w_2), (4, .long w_1), (0, .ref (f 4)), (1, .int (nI n)), (2, .long b)]) hx hb d_TM_takeOutOf_99 hl (Nat.le_of_ble_eq_true rfl) rfl (fun ls hl => ?_)
              refine lv_iload hx hb d_TM_takeOutOf_101 (lv_at hl 3 rfl) ?_
              refine lv_if_eq (tgt := 115) hx hb d_TM_takeOutOf_103 (by decide) (fun hbr => ?_) (fun hbr => absurd (by decide) hbr)
              refine lv_iconst (v := 1) hx hb d_TM_takeOutOf_115 (by decide) ?_
              refine lv_goto (tgt := 120) hx hb d_TM_takeOutOf_116 (by decide) ?_
              refine lv_istore (lv' := [(14, .int 1), (12, .long r_33), (10, .long w_1), (9, .int 1), (8, .int 0), (6, .long w_2), (4, .long w_1), (0, .ref (f 4)), (1, .int (nI n)), (2, .long b)]) hx hb d_TM_takeOutOf_120 hl (Nat.le_of_ble_eq_true rfl) rfl (fun ls hl => ?_)
              refine lv_iload hx hb d_TM_takeOutOf_122 (lv_at hl 3 rfl) ?_
              refine lv_if_eq (tgt := 136) hx hb d_TM_takeOutOf_124 (by decide) (fun hbr => absurd hbr (by decide)) (fun hbr => ?_)
              refine lv_aload_n hx hb d_TM_takeOutOf_127 rfl (lv_at hl 7 rfl) ?_
              refine lv_lload hx hb d_TM_takeOutOf_128 (lv_at hl 1 rfl) ?_
              refine em_call (wr := []) (em_runV (As := [.long r_33]) (rest := []) ⟨hx, hb, hml, hown, hG⟩ (tm_isK l D cI cL cZ cC f fs tb le ri wo fr od g_30 r_33 _ (by omega) htb hle hri hwo hfr hod hg_30 hp_34 hnt) (cwV 1 hG (gd_V k_774 k_776 k_16 k_109 k_777) rfl rfl rfl (by decide +kernel) ⟨Nat.le_of_ble_eq_true rfl, Nat.le_of_ble_eq_true rfl⟩) (tw_V (q0 := 0) hP hD hK hE hst hS rfl rfl [0, 1, 2, 3, 4, 5, 6] rfl (by decide)) rfl rfl hl.1 rfl (lv_room (Nat.le_of_ble_eq_true rfl)) d_TM_takeOutOf_130 ⟨Nat.le_of_ble_eq_true rfl, Nat.le_of_ble_eq_true rfl⟩) hP hD hS hA [0, 1, 2, 3, 4, 5, 6] [] rfl rfl (by decide) (by decide) (fun v u H locs hok hP hD hS => ?_) (fun x C u H locs hbad hxx hP hD hS => ?_)
              · skip
                obtain ⟨r_35, rfl, hp_36⟩ := hok
                have hp_36 : (r_35 = 0 ∨ (r_35 = 1 ∧ ¬ wcell r_33 = 0)) := hp_36
                have hP : va_P D classes [((f 4), .inr (2, [.ref (f 5), .ref (f 6), .ref (f 7), .int (nI fs), .ref (f 8), .ref (f 9), .ref (f 10), .int tb])), ((f 5), .inl (cL, 1024, .inr (.inl le))), ((f 6), .inl (cL, 1024, .inr (.inl ri))), ((f 7), .inl (cI, 1024, .inl fr)), ((f 8), .inl (cI, 1024, .inl od)), ((f 9), .inl (cZ, 1024, .inl g_30)), ((f 10), .inl (cL, 1024, .inr (.inl wo)))] H := hP
                have hD : va_D A [((f 4), .inr (2, [.ref (f 5), .ref (f 6), .ref (f 7), .int (nI fs), .ref (f 8), .ref (f 9), .ref (f 10), .int tb])), ((f 5), .inl (cL, 1024, .inr (.inl le))), ((f 6), .inl (cL, 1024, .inr (.inl ri))), ((f 7), .inl (cI, 1024, .inl fr)), ((f 8), .inl (cI, 1024, .inl od)), ((f 9), .inl (cZ, 1024, .inl g_30)), ((f 10), .inl (cL, 1024, .inr (.inl wo)))] := hD
                rcases hp_36 with rfl | ⟨rfl, hy_37⟩
                · skip
                  refine W.eq (g2 := F0 m 133 ls [.int 0]) rfl ?_
                  refine lv_if_eq (tgt := 140) hx hb d_TM_takeOutOf_133 (by decide) (fun hbr => ?_) (fun hbr => absurd (by decide) hbr)
                  refine lv_iconst (v := 0) hx hb d_TM_takeOutOf_140 (by decide) ?_
                  refine lv_istore (lv' := [(15, .int 0), (14, .int 1), (12, .long r_33), (10, .long w_1), (9, .int 1), (8, .int 0), (6, .long w_2), (4, .long w_1), (0, .ref (f 4)), (1, .int (nI n)), (2, .long b)]) hx hb d_TM_takeOutOf_141 hl (Nat.le_of_ble_eq_true rfl) rfl (fun ls hl => ?_)
                  refine lv_iload hx hb d_TM_takeOutOf_143 (lv_at hl 5 rfl) ?_
                  refine lv_if_eq (tgt := 161) hx hb d_TM_takeOutOf_145 (by decide) (fun hbr => ?_) (fun hbr => absurd (by decide) hbr)
                  refine lv_iload hx hb d_TM_takeOutOf_161 (lv_at hl 4 rfl) ?_
                  refine lv_if_eq (tgt := 179) hx hb d_TM_takeOutOf_163 (by decide) (fun hbr => absurd hbr (by decide)) (fun hbr => ?_)
                  refine lv_iload hx hb d_TM_takeOutOf_166 (lv_at hl 0 rfl) ?_
                  refine lv_if_eq (tgt := 179) hx hb d_TM_takeOutOf_168 (by decide) (fun hbr => ?_) (fun hbr => absurd (by decide) hbr)
                  refine lv_aload_n hx hb d_TM_takeOutOf_179 rfl (lv_at hl 8 rfl) ?_
                  refine va_get (D := D) (ci := 2) (v := .ref (f 10)) (C := rn_TM) (T := fl_TM) (N := 8) hx hb hG in_TM hown hK hP 0 rfl rfl 6 (by decide) (hG _ k_168) (fun _ h9 => h9) rfl d_TM_takeOutOf_180 ?_
                  refine lv_iload_n hx hb d_TM_takeOutOf_183 rfl (lv_at hl 9 rfl) ?_
                  refine lv_iload hx hb d_TM_takeOutOf_184 (lv_at hl 1 rfl) ?_
                  refine lv_if_eq (tgt := 203) hx hb d_TM_takeOutOf_186 (by decide) (fun hbr => absurd hbr (by decide)) (fun hbr => ?_)
                  refine lv_aload_n hx hb d_TM_takeOutOf_189 rfl (lv_at hl 8 rfl) ?_
                  refine lv_iload_n hx hb d_TM_takeOutOf_190 rfl (lv_at hl 9 rfl) ?_
                  refine lv_lload hx hb d_TM_takeOutOf_191 (lv_at hl 3 rfl) ?_
                  refine lv_lload hx hb d_TM_takeOutOf_193 (lv_at hl 2 rfl) ?_
                  refine lv_iload hx hb d_TM_takeOutOf_195 (lv_at hl 0 rfl) ?_
                  refine em_call (wr := []) (em_runV (As := [.int (nI n), .long w_1, .long r_33, .int 0]) (rest := [.int (nI n), .ref (f 10)]) ⟨hx, hb, hml, hown, hG⟩ (tm_joinConstant l D cI cL cZ cC f fs tb le ri wo fr od g_30 n w_1 r_33 0 _ (by omega) htb hle hri hwo hfr hod hg_30 (by omega) hw_1 hp_34 hnt) (cwV 4 hG (gd_V k_786 k_788 k_19 k_109 k_789) rfl rfl rfl (by decide +kernel) ⟨Nat.le_of_ble_eq_true rfl, Nat.le_of_ble_eq_true rfl⟩) (tw_V (q0 := 0) hP hD hK hE hst hS rfl rfl [0, 1, 2, 3, 4, 5, 6] rfl (by decide)) rfl rfl hl.1 rfl (lv_room (Nat.le_of_ble_eq_true rfl)) d_TM_takeOutOf_197 ⟨Nat.le_of_ble_eq_true rfl, Nat.le_of_ble_eq_true rfl⟩) hP hD hS hA [0, 1, 2, 3, 4, 5, 6] [] rfl rfl (by decide) (by decide) (fun v u H locs hok hP hD hS => ?_) (fun x C u H locs hbad hxx hP hD hS => ?_)
                  · skip
                    obtain ⟨fs_38, tb_39, le_40, ri_41, wo_42, fr_43, od_44, ha_45⟩ := u
                    obtain ⟨r_46, rfl, hp_47⟩ := hok
                    obtain ⟨hfs_48, htb_49, hle_50, hri_51, hwo_52, hfr_53, hod_54, hha_55, hres_56⟩ : fs_38 ≤ 1024 ∧ (tb_39 = 0 ∨ tb_39 = 1) ∧ wfa 1024 le_40 ∧ wfa 1024 ri_41 ∧ wfa 1024 wo_42 ∧ rng 1024 fr_43 ∧ rng 1024 od_44 ∧ bln ha_45 ∧ wfw 1024 r_46 := hp_47
                    have hP : va_P D classes [((f 4), .inr (2, [.ref (f 5), .ref (f 6), .ref (f 7), .int (nI fs_38), .ref (f 8), .ref (f 9), .ref (f 10), .int tb_39])), ((f 5), .inl (cL, 1024, .inr (.inl le_40))), ((f 6), .inl (cL, 1024, .inr (.inl ri_41))), ((f 7), .inl (cI, 1024, .inl fr_43)), ((f 8), .inl (cI, 1024, .inl od_44)), ((f 9), .inl (cZ, 1024, .inl ha_45)), ((f 10), .inl (cL, 1024, .inr (.inl wo_42)))] H := hP
                    have hD : va_D A [((f 4), .inr (2, [.ref (f 5), .ref (f 6), .ref (f 7), .int (nI fs_38), .ref (f 8), .ref (f 9), .ref (f 10), .int tb_39])), ((f 5), .inl (cL, 1024, .inr (.inl le_40))), ((f 6), .inl (cL, 1024, .inr (.inl ri_41))), ((f 7), .inl (cI, 1024, .inl fr_43)), ((f 8), .inl (cI, 1024, .inl od_44)), ((f 9), .inl (cZ, 1024, .inl ha_45)), ((f 10), .inl (cL, 1024, .inr (.inl wo_42)))] := hD
                    refine W.eq (g2 := F0 m 200 ls [.long r_46, .int (nI n), .ref (f 10)]) rfl ?_
                    refine lv_goto (tgt := 214) hx hb d_TM_takeOutOf_200 (by decide) ?_
                    refine va_last hx hb hK hP hD hS 6 1 rfl rfl (vp_in_nI (n := n) (N := 1024) (by omega) (by omega)) d_TM_takeOutOf_214 (fun H locs hP hD hS => ?_)
                    have hP : va_P D classes [((f 4), .inr (2, [.ref (f 5), .ref (f 6), .ref (f 7), .int (nI fs_38), .ref (f 8), .ref (f 9), .ref (f 10), .int tb_39])), ((f 5), .inl (cL, 1024, .inr (.inl le_40))), ((f 6), .inl (cL, 1024, .inr (.inl ri_41))), ((f 7), .inl (cI, 1024, .inl fr_43)), ((f 8), .inl (cI, 1024, .inl od_44)), ((f 9), .inl (cZ, 1024, .inl ha_45)), ((f 10), .inl (cL, 1024, .inr (.inl (vp_updL wo_42 (nI n).toNatClampNeg r_46))))] H := hP
                    have hD : va_D A [((f 4), .inr (2, [.ref (f 5), .ref (f 6), .ref (f 7), .int (nI fs_38), .ref (f 8), .ref (f 9), .ref (f 10), .int tb_39])), ((f 5), .inl (cL, 1024, .inr (.inl le_40))), ((f 6), .inl (cL, 1024, .inr (.inl ri_41))), ((f 7), .inl (cI, 1024, .inl fr_43)), ((f 8), .inl (cI, 1024, .inl od_44)), ((f 9), .inl (cZ, 1024, .inl ha_45)), ((f 10), .inl (cL, 1024, .inr (.inl (vp_updL wo_42 (nI n).toNatClampNeg r_46))))] := hD
                    obtain ⟨g_57, eg_57⟩ : ∃ z, z = vp_updL wo_42 (nI n).toNatClampNeg r_46 := ⟨_, rfl⟩
                    rw [← eg_57] at hP hD
                    have hg_57 : wfa 1024 g_57 := by rw [eg_57]; exact wfa_up hwo_52 hres_56
                    exact em_vret hx hb hr hlocks hP hD hK hS (fs_38, tb_39, le_40, ri_41, g_57, fr_43, od_44, ha_45) [0, 1, 2, 3, 4, 5, 6] (by decide) rfl ⟨rfl, ⟨(by omega), htb_49, hle_50, hri_51, hg_57, hfr_53, hod_54, hha_55⟩⟩ d_TM_takeOutOf_215
                  · skip
                    exact hbad.elim
                · skip
                  refine W.eq (g2 := F0 m 133 ls [.int 1]) rfl ?_
                  refine lv_if_eq (tgt := 140) hx hb d_TM_takeOutOf_133 (by decide) (fun hbr => absurd hbr (by decide)) (fun hbr => ?_)
                  refine lv_iconst (v := 1) hx hb d_TM_takeOutOf_136 (by decide) ?_
                  refine lv_goto (tgt := 141) hx hb d_TM_takeOutOf_137 (by decide) ?_
                  refine lv_istore (lv' := [(15, .int 1), (14, .int 1), (12, .long r_33), (10, .long w_1), (9, .int 1), (8, .int 0), (6, .long w_2), (4, .long w_1), (0, .ref (f 4)), (1, .int (nI n)), (2, .long b)]) hx hb d_TM_takeOutOf_141 hl (Nat.le_of_ble_eq_true rfl) rfl (fun ls hl => ?_)
                  refine lv_iload hx hb d_TM_takeOutOf_143 (lv_at hl 5 rfl) ?_
                  refine lv_if_eq (tgt := 161) hx hb d_TM_takeOutOf_145 (by decide) (fun hbr => ?_) (fun hbr => absurd (by decide) hbr)
                  refine lv_iload hx hb d_TM_takeOutOf_161 (lv_at hl 4 rfl) ?_
                  refine lv_if_eq (tgt := 179) hx hb d_TM_takeOutOf_163 (by decide) (fun hbr => absurd hbr (by decide)) (fun hbr => ?_)
                  refine lv_iload hx hb d_TM_takeOutOf_166 (lv_at hl 0 rfl) ?_
                  refine lv_if_eq (tgt := 179) hx hb d_TM_takeOutOf_168 (by decide) (fun hbr => absurd hbr (by decide)) (fun hbr => ?_)
                  refine lv_aload_n hx hb d_TM_takeOutOf_171 rfl (lv_at hl 8 rfl) ?_
                  refine lv_lload hx hb d_TM_takeOutOf_172 (lv_at hl 2 rfl) ?_
                  refine em_call (wr := []) (em_runV (As := [.long r_33]) (rest := []) ⟨hx, hb, hml, hown, hG⟩ (tm_unwrap l D cI cL cZ cC f fs tb le ri wo fr od g_30 r_33 _ (by omega) htb hle hri hwo hfr hod hg_30 hp_34 hy_37 hnt) (cwV 1 hG (gd_V k_778 k_780 k_17 k_109 k_781) rfl rfl rfl (by decide +kernel) ⟨Nat.le_of_ble_eq_true rfl, Nat.le_of_ble_eq_true rfl⟩) (tw_V (q0 := 0) hP hD hK hE hst hS rfl rfl [0, 1, 2, 3, 4, 5, 6] rfl (by decide)) rfl rfl hl.1 rfl (lv_room (Nat.le_of_ble_eq_true rfl)) d_TM_takeOutOf_174 ⟨Nat.le_of_ble_eq_true rfl, Nat.le_of_ble_eq_true rfl⟩) hP hD hS hA [0, 1, 2, 3, 4, 5, 6] [] rfl rfl (by decide) (by decide) (fun v u H locs hok hP hD hS => ?_) (fun x C u H locs hbad hxx hP hD hS => ?_)
                  · skip
                    obtain ⟨fs_58, tb_59, le_60, ri_61, wo_62, fr_63, od_64, ha_65⟩ := u
                    obtain ⟨r_66, rfl, hp_67⟩ := hok
                    obtain ⟨hfs_68, htb_69, hle_70, hri_71, hwo_72, hfr_73, hod_74, hha_75, hres_76⟩ : fs_58 ≤ 1024 ∧ (tb_59 = 0 ∨ tb_59 = 1) ∧ wfa 1024 le_60 ∧ wfa 1024 ri_61 ∧ wfa 1024 wo_62 ∧ rng 1024 fr_63 ∧ rng 1024 od_64 ∧ bln ha_65 ∧ wfw 1024 r_66 := hp_67
                    have hP : va_P D classes [((f 4), .inr (2, [.ref (f 5), .ref (f 6), .ref (f 7), .int (nI fs_58), .ref (f 8), .ref (f 9), .ref (f 10), .int tb_59])), ((f 5), .inl (cL, 1024, .inr (.inl le_60))), ((f 6), .inl (cL, 1024, .inr (.inl ri_61))), ((f 7), .inl (cI, 1024, .inl fr_63)), ((f 8), .inl (cI, 1024, .inl od_64)), ((f 9), .inl (cZ, 1024, .inl ha_65)), ((f 10), .inl (cL, 1024, .inr (.inl wo_62)))] H := hP
                    have hD : va_D A [((f 4), .inr (2, [.ref (f 5), .ref (f 6), .ref (f 7), .int (nI fs_58), .ref (f 8), .ref (f 9), .ref (f 10), .int tb_59])), ((f 5), .inl (cL, 1024, .inr (.inl le_60))), ((f 6), .inl (cL, 1024, .inr (.inl ri_61))), ((f 7), .inl (cI, 1024, .inl fr_63)), ((f 8), .inl (cI, 1024, .inl od_64)), ((f 9), .inl (cZ, 1024, .inl ha_65)), ((f 10), .inl (cL, 1024, .inr (.inl wo_62)))] := hD
                    refine W.eq (g2 := F0 m 177 ls [.long r_66]) rfl ?_
                    refine lv_lstore (lv' := [(12, .long r_66), (15, .int 1), (14, .int 1), (10, .long w_1), (9, .int 1), (8, .int 0), (6, .long w_2), (4, .long w_1), (0, .ref (f 4)), (1, .int (nI n)), (2, .long b)]) hx hb d_TM_takeOutOf_177 hl (Nat.le_of_ble_eq_true rfl) rfl (fun ls hl => ?_)
                    refine lv_aload_n hx hb d_TM_takeOutOf_179 rfl (lv_at hl 8 rfl) ?_
                    refine va_get (D := D) (ci := 2) (v := .ref (f 10)) (C := rn_TM) (T := fl_TM) (N := 8) hx hb hG in_TM hown hK hP 0 rfl rfl 6 (by decide) (hG _ k_168) (fun _ h9 => h9) rfl d_TM_takeOutOf_180 ?_
                    refine lv_iload_n hx hb d_TM_takeOutOf_183 rfl (lv_at hl 9 rfl) ?_
                    refine lv_iload hx hb d_TM_takeOutOf_184 (lv_at hl 2 rfl) ?_
                    refine lv_if_eq (tgt := 203) hx hb d_TM_takeOutOf_186 (by decide) (fun hbr => absurd hbr (by decide)) (fun hbr => ?_)
                    refine lv_aload_n hx hb d_TM_takeOutOf_189 rfl (lv_at hl 8 rfl) ?_
                    refine lv_iload_n hx hb d_TM_takeOutOf_190 rfl (lv_at hl 9 rfl) ?_
                    refine lv_lload hx hb d_TM_takeOutOf_191 (lv_at hl 3 rfl) ?_
                    refine lv_lload hx hb d_TM_takeOutOf_193 (lv_at hl 0 rfl) ?_
                    refine lv_iload hx hb d_TM_takeOutOf_195 (lv_at hl 1 rfl) ?_
                    refine em_call (wr := []) (em_runV (As := [.int (nI n), .long w_1, .long r_66, .int 1]) (rest := [.int (nI n), .ref (f 10)]) ⟨hx, hb, hml, hown, hG⟩ (tm_joinConstant l D cI cL cZ cC f fs_58 tb_59 le_60 ri_61 wo_62 fr_63 od_64 ha_65 n w_1 r_66 1 _ (by omega) htb_69 hle_70 hri_71 hwo_72 hfr_73 hod_74 hha_75 (by omega) hw_1 hres_76 hnt) (cwV 4 hG (gd_V k_786 k_788 k_19 k_109 k_789) rfl rfl rfl (by decide +kernel) ⟨Nat.le_of_ble_eq_true rfl, Nat.le_of_ble_eq_true rfl⟩) (tw_V (q0 := 0) hP hD hK hE hst hS rfl rfl [0, 1, 2, 3, 4, 5, 6] rfl (by decide)) rfl rfl hl.1 rfl (lv_room (Nat.le_of_ble_eq_true rfl)) d_TM_takeOutOf_197 ⟨Nat.le_of_ble_eq_true rfl, Nat.le_of_ble_eq_true rfl⟩) hP hD hS hA [0, 1, 2, 3, 4, 5, 6] [] rfl rfl (by decide) (by decide) (fun v u H locs hok hP hD hS => ?_) (fun x C u H locs hbad hxx hP hD hS => ?_)
                    · skip
                      obtain ⟨fs_77, tb_78, le_79, ri_80, wo_81, fr_82, od_83, ha_84⟩ := u
                      obtain ⟨r_85, rfl, hp_86⟩ := hok
                      obtain ⟨hfs_87, htb_88, hle_89, hri_90, hwo_91, hfr_92, hod_93, hha_94, hres_95⟩ : fs_77 ≤ 1024 ∧ (tb_78 = 0 ∨ tb_78 = 1) ∧ wfa 1024 le_79 ∧ wfa 1024 ri_80 ∧ wfa 1024 wo_81 ∧ rng 1024 fr_82 ∧ rng 1024 od_83 ∧ bln ha_84 ∧ wfw 1024 r_85 := hp_86
                      have hP : va_P D classes [((f 4), .inr (2, [.ref (f 5), .ref (f 6), .ref (f 7), .int (nI fs_77), .ref (f 8), .ref (f 9), .ref (f 10), .int tb_78])), ((f 5), .inl (cL, 1024, .inr (.inl le_79))), ((f 6), .inl (cL, 1024, .inr (.inl ri_80))), ((f 7), .inl (cI, 1024, .inl fr_82)), ((f 8), .inl (cI, 1024, .inl od_83)), ((f 9), .inl (cZ, 1024, .inl ha_84)), ((f 10), .inl (cL, 1024, .inr (.inl wo_81)))] H := hP
                      have hD : va_D A [((f 4), .inr (2, [.ref (f 5), .ref (f 6), .ref (f 7), .int (nI fs_77), .ref (f 8), .ref (f 9), .ref (f 10), .int tb_78])), ((f 5), .inl (cL, 1024, .inr (.inl le_79))), ((f 6), .inl (cL, 1024, .inr (.inl ri_80))), ((f 7), .inl (cI, 1024, .inl fr_82)), ((f 8), .inl (cI, 1024, .inl od_83)), ((f 9), .inl (cZ, 1024, .inl ha_84)), ((f 10), .inl (cL, 1024, .inr (.inl wo_81)))] := hD
                      refine W.eq (g2 := F0 m 200 ls [.long r_85, .int (nI n), .ref (f 10)]) rfl ?_
                      refine lv_goto (tgt := 214) hx hb d_TM_takeOutOf_200 (by decide) ?_
                      refine va_last hx hb hK hP hD hS 6 1 rfl rfl (vp_in_nI (n := n) (N := 1024) (by omega) (by omega)) d_TM_takeOutOf_214 (fun H locs hP hD hS => ?_)
                      have hP : va_P D classes [((f 4), .inr (2, [.ref (f 5), .ref (f 6), .ref (f 7), .int (nI fs_77), .ref (f 8), .ref (f 9), .ref (f 10), .int tb_78])), ((f 5), .inl (cL, 1024, .inr (.inl le_79))), ((f 6), .inl (cL, 1024, .inr (.inl ri_80))), ((f 7), .inl (cI, 1024, .inl fr_82)), ((f 8), .inl (cI, 1024, .inl od_83)), ((f 9), .inl (cZ, 1024, .inl ha_84)), ((f 10), .inl (cL, 1024, .inr (.inl (vp_updL wo_81 (nI n).toNatClampNeg r_85))))] H := hP
                      have hD : va_D A [((f 4), .inr (2, [.ref (f 5), .ref (f 6), .ref (f 7), .int (nI fs_77), .ref (f 8), .ref (f 9), .ref (f 10), .int tb_78])), ((f 5), .inl (cL, 1024, .inr (.inl le_79))), ((f 6), .inl (cL, 1024, .inr (.inl ri_80))), ((f 7), .inl (cI, 1024, .inl fr_82)), ((f 8), .inl (cI, 1024, .inl od_83)), ((f 9), .inl (cZ, 1024, .inl ha_84)), ((f 10), .inl (cL, 1024, .inr (.inl (vp_updL wo_81 (nI n).toNatClampNeg r_85))))] := hD
                      obtain ⟨g_96, eg_96⟩ : ∃ z, z = vp_updL wo_81 (nI n).toNatClampNeg r_85 := ⟨_, rfl⟩
                      rw [← eg_96] at hP hD
                      have hg_96 : wfa 1024 g_96 := by rw [eg_96]; exact wfa_up hwo_91 hres_95
                      exact em_vret hx hb hr hlocks hP hD hK hS (fs_77, tb_78, le_79, ri_80, g_96, fr_82, od_83, ha_84) [0, 1, 2, 3, 4, 5, 6] (by decide) rfl ⟨rfl, ⟨(by omega), htb_88, hle_89, hri_90, hg_96, hfr_92, hod_93, hha_94⟩⟩ d_TM_takeOutOf_215
                    · skip
                      exact hbad.elim
                  · skip
                    exact hbad.elim
              · skip
                exact hbad.elim
            · skip
              exact hbad.elim
          · skip
            exact em_vret hx hb hr hlocks hP hD hK hS (fs, tb, le, ri, wo, fr, od, g_30) [0, 1, 2, 3, 4, 5, 6] (by decide) rfl ⟨rfl, ⟨(by omega), htb, hle, hri, hwo, hfr, hod, hg_30⟩⟩ d_TM_takeOutOf_64
      · skip
        exact hbad.elim
    · skip
      refine W.eq (g2 := F0 m 23 ls [.int 1]) rfl ?_
      refine lv_istore (lv' := [(8, .int 1), (6, .long w_2), (4, .long w_1), (0, .ref (f 4)), (1, .int (nI n)), (2, .long b)]) hx hb d_TM_takeOutOf_23 hl (Nat.le_of_ble_eq_true rfl) rfl (fun ls hl => ?_)
      refine lv_aload_n hx hb d_TM_takeOutOf_25 rfl (lv_at hl 3 rfl) ?_
      refine lv_lload hx hb d_TM_takeOutOf_26 (lv_at hl 1 rfl) ?_
      refine lv_lload_n hx hb d_TM_takeOutOf_28 rfl (lv_at hl 5 rfl) ?_
      refine em_call (wr := []) (em_runV (As := [.long w_2, .long b]) (rest := []) ⟨hx, hb, hml, hown, hG⟩ (tm_hasName l D cI cL cZ cC f fs tb le ri wo fr od ha w_2 b _ (by omega) htb hle hri hwo hfr hod hha hw_2 hnt) (cwV 2 hG (gd_V k_766 k_768 k_14 k_109 k_769) rfl rfl rfl (by decide +kernel) ⟨Nat.le_of_ble_eq_true rfl, Nat.le_of_ble_eq_true rfl⟩) (tw_V (q0 := 0) hP hD hK hE hst hS rfl rfl [0, 1, 2, 3, 4, 5, 6] rfl (by decide)) rfl rfl hl.1 rfl (lv_room (Nat.le_of_ble_eq_true rfl)) d_TM_takeOutOf_29 ⟨Nat.le_of_ble_eq_true rfl, Nat.le_of_ble_eq_true rfl⟩) hP hD hS hA [0, 1, 2, 3, 4, 5, 6] [] rfl rfl (by decide) (by decide) (fun v u H locs hok hP hD hS => ?_) (fun x C u H locs hbad hxx hP hD hS => ?_)
      · skip
        obtain ⟨r_97, rfl, hp_98⟩ := hok
        have hp_98 : (r_97 = 0 ∨ r_97 = 1) := hp_98
        have hP : va_P D classes [((f 4), .inr (2, [.ref (f 5), .ref (f 6), .ref (f 7), .int (nI fs), .ref (f 8), .ref (f 9), .ref (f 10), .int tb])), ((f 5), .inl (cL, 1024, .inr (.inl le))), ((f 6), .inl (cL, 1024, .inr (.inl ri))), ((f 7), .inl (cI, 1024, .inl fr)), ((f 8), .inl (cI, 1024, .inl od)), ((f 9), .inl (cZ, 1024, .inl ha)), ((f 10), .inl (cL, 1024, .inr (.inl wo)))] H := hP
        have hD : va_D A [((f 4), .inr (2, [.ref (f 5), .ref (f 6), .ref (f 7), .int (nI fs), .ref (f 8), .ref (f 9), .ref (f 10), .int tb])), ((f 5), .inl (cL, 1024, .inr (.inl le))), ((f 6), .inl (cL, 1024, .inr (.inl ri))), ((f 7), .inl (cI, 1024, .inl fr)), ((f 8), .inl (cI, 1024, .inl od)), ((f 9), .inl (cZ, 1024, .inl ha)), ((f 10), .inl (cL, 1024, .inr (.inl wo)))] := hD
        rcases hp_98 with rfl | rfl
        · skip
          refine W.eq (g2 := F0 m 32 ls [.int 0]) rfl ?_
          refine lv_istore (lv' := [(9, .int 0), (8, .int 1), (6, .long w_2), (4, .long w_1), (0, .ref (f 4)), (1, .int (nI n)), (2, .long b)]) hx hb d_TM_takeOutOf_32 hl (Nat.le_of_ble_eq_true rfl) rfl (fun ls hl => ?_)
          refine lv_aload_n hx hb d_TM_takeOutOf_34 rfl (lv_at hl 4 rfl) ?_
          refine va_get (D := D) (ci := 2) (v := .ref (f 9)) (C := rn_TM) (T := fl_TM) (N := 8) hx hb hG in_TM hown hK hP 0 rfl rfl 5 (by decide) (hG _ k_167) (fun _ h9 => h9) rfl d_TM_takeOutOf_35 ?_
          refine lv_iload_n hx hb d_TM_takeOutOf_38 rfl (lv_at hl 5 rfl) ?_
          refine lv_iload hx hb d_TM_takeOutOf_39 (lv_at hl 1 rfl) ?_
          refine lv_if_ne (tgt := 49) hx hb d_TM_takeOutOf_41 (by decide) (fun hbr => ?_) (fun hbr => absurd hbr (by decide))
          refine lv_iconst (v := 1) hx hb d_TM_takeOutOf_49 (by decide) ?_
          refine lv_goto (tgt := 54) hx hb d_TM_takeOutOf_50 (by decide) ?_
          refine va_zast hx hb hK hP hD hS 5 2 rfl rfl (vp_in_nI (n := n) (N := 1024) (by omega) (by omega)) d_TM_takeOutOf_54 (fun H locs hP hD hS => ?_)
          have hP : va_P D classes [((f 4), .inr (2, [.ref (f 5), .ref (f 6), .ref (f 7), .int (nI fs), .ref (f 8), .ref (f 9), .ref (f 10), .int tb])), ((f 5), .inl (cL, 1024, .inr (.inl le))), ((f 6), .inl (cL, 1024, .inr (.inl ri))), ((f 7), .inl (cI, 1024, .inl fr)), ((f 8), .inl (cI, 1024, .inl od)), ((f 9), .inl (cZ, 1024, .inl (upd ha (nI n).toNatClampNeg (vp_nar .boolean 1)))), ((f 10), .inl (cL, 1024, .inr (.inl wo)))] H := hP
          have hD : va_D A [((f 4), .inr (2, [.ref (f 5), .ref (f 6), .ref (f 7), .int (nI fs), .ref (f 8), .ref (f 9), .ref (f 10), .int tb])), ((f 5), .inl (cL, 1024, .inr (.inl le))), ((f 6), .inl (cL, 1024, .inr (.inl ri))), ((f 7), .inl (cI, 1024, .inl fr)), ((f 8), .inl (cI, 1024, .inl od)), ((f 9), .inl (cZ, 1024, .inl (upd ha (nI n).toNatClampNeg (vp_nar .boolean 1)))), ((f 10), .inl (cL, 1024, .inr (.inl wo)))] := hD
          obtain ⟨g_99, eg_99⟩ : ∃ z, z = upd ha (nI n).toNatClampNeg (vp_nar .boolean 1) := ⟨_, rfl⟩
          rw [← eg_99] at hP hD
          have hg_99 : bln g_99 := by rw [eg_99]; exact bln_up hha _
          refine lv_aload_n hx hb d_TM_takeOutOf_55 rfl (lv_at hl 4 rfl) ?_
          refine va_get (D := D) (ci := 2) (v := .ref (f 9)) (C := rn_TM) (T := fl_TM) (N := 8) hx hb hG in_TM hown hK hP 0 rfl rfl 5 (by decide) (hG _ k_167) (fun _ h9 => h9) rfl d_TM_takeOutOf_56 ?_
          refine lv_iload_n hx hb d_TM_takeOutOf_59 rfl (lv_at hl 5 rfl) ?_
          refine va_zald hx hb hK hP 5 2 rfl rfl (vp_in_nI (n := n) (N := 1024) (by omega) (by omega)) d_TM_takeOutOf_60 ?_
          refine lv_topi (fun v_100 ev_100 => ?_)
          have hv_100 : v_100 = 0 ∨ v_100 = 1 := by rw [ev_100]; exact hg_99 _
          refine lv_if_ne (tgt := 65) hx hb d_TM_takeOutOf_61 (by decide) (fun hb_101 => ?_) (fun hb_101 => ?_)
          · skip
            refine lv_iload hx hb d_TM_takeOutOf_65 (lv_at hl 1 rfl) ?_
            refine lv_if_eq (tgt := 79) hx hb d_TM_takeOutOf_67 (by decide) (fun hbr => absurd hbr (by decide)) (fun hbr => ?_)
            refine lv_aload_n hx hb d_TM_takeOutOf_70 rfl (lv_at hl 4 rfl) ?_
            refine lv_lload hx hb d_TM_takeOutOf_71 (lv_at hl 3 rfl) ?_
            refine em_call (wr := []) (em_runV (As := [.long w_1]) (rest := []) ⟨hx, hb, hml, hown, hG⟩ (tm_withoutName l D cI cL cZ cC f fs tb le ri wo fr od g_99 w_1 _ (by omega) htb hle hri hwo hfr hod hg_99 hw_1 hnt) (cwV 1 hG (gd_V k_770 k_772 k_15 k_109 k_773) rfl rfl rfl (by decide +kernel) ⟨Nat.le_of_ble_eq_true rfl, Nat.le_of_ble_eq_true rfl⟩) (tw_V (q0 := 0) hP hD hK hE hst hS rfl rfl [0, 1, 2, 3, 4, 5, 6] rfl (by decide)) rfl rfl hl.1 rfl (lv_room (Nat.le_of_ble_eq_true rfl)) d_TM_takeOutOf_73 ⟨Nat.le_of_ble_eq_true rfl, Nat.le_of_ble_eq_true rfl⟩) hP hD hS hA [0, 1, 2, 3, 4, 5, 6] [] rfl rfl (by decide) (by decide) (fun v u H locs hok hP hD hS => ?_) (fun x C u H locs hbad hxx hP hD hS => ?_)
            · skip
              obtain ⟨r_102, rfl, hp_103⟩ := hok
              have hp_103 : wfw 1024 r_102 := hp_103
              have hP : va_P D classes [((f 4), .inr (2, [.ref (f 5), .ref (f 6), .ref (f 7), .int (nI fs), .ref (f 8), .ref (f 9), .ref (f 10), .int tb])), ((f 5), .inl (cL, 1024, .inr (.inl le))), ((f 6), .inl (cL, 1024, .inr (.inl ri))), ((f 7), .inl (cI, 1024, .inl fr)), ((f 8), .inl (cI, 1024, .inl od)), ((f 9), .inl (cZ, 1024, .inl g_99)), ((f 10), .inl (cL, 1024, .inr (.inl wo)))] H := hP
              have hD : va_D A [((f 4), .inr (2, [.ref (f 5), .ref (f 6), .ref (f 7), .int (nI fs), .ref (f 8), .ref (f 9), .ref (f 10), .int tb])), ((f 5), .inl (cL, 1024, .inr (.inl le))), ((f 6), .inl (cL, 1024, .inr (.inl ri))), ((f 7), .inl (cI, 1024, .inl fr)), ((f 8), .inl (cI, 1024, .inl od)), ((f 9), .inl (cZ, 1024, .inl g_99)), ((f 10), .inl (cL, 1024, .inr (.inl wo)))] := hD
              refine W.eq (g2 := F0 m 76 ls [.long r_102]) rfl ?_
              refine lv_goto (tgt := 81) hx hb d_TM_takeOutOf_76 (by decide) ?_
              refine lv_lstore (lv' := [(10, .long r_102), (9, .int 0), (8, .int 1), (6, .long w_2), (4, .long w_1), (0, .ref (f 4)), (1, .int (nI n)), (2, .long b)]) hx hb d_TM_takeOutOf_81 hl (Nat.le_of_ble_eq_true rfl) rfl (fun ls hl => ?_)
              refine lv_iload hx hb d_TM_takeOutOf_83 (lv_at hl 1 rfl) ?_
              refine lv_if_eq (tgt := 97) hx hb d_TM_takeOutOf_85 (by decide) (fun hbr => ?_) (fun hbr => absurd (by decide) hbr)
              refine lv_lload hx hb d_TM_takeOutOf_97 (lv_at hl 3 rfl) ?_
              refine lv_lstore (lv' := [(12, .long w_2), (10, .long r_102), (9, .int 0), (8, .int 1), (6, .long w_2), (4, .long w_1), (0, .ref (f 4)), (1, .int (nI n)), (2, .long b)]) hx hb d_TM_takeOutOf_99 hl (Nat.le_of_ble_eq_true rfl) rfl (fun ls hl => ?_)
              refine lv_iload hx hb d_TM_takeOutOf_101 (lv_at hl 3 rfl) ?_
              refine lv_if_eq (tgt := 115) hx hb d_TM_takeOutOf_103 (by decide) (fun hbr => absurd hbr (by decide)) (fun hbr => ?_)
              refine lv_aload_n hx hb d_TM_takeOutOf_106 rfl (lv_at hl 6 rfl) ?_
              refine lv_lload hx hb d_TM_takeOutOf_107 (lv_at hl 1 rfl) ?_
              refine em_call (wr := []) (em_runV (As := [.long r_102]) (rest := []) ⟨hx, hb, hml, hown, hG⟩ (tm_isK l D cI cL cZ cC f fs tb le ri wo fr od g_99 r_102 _ (by omega) htb hle hri hwo hfr hod hg_99 hp_103 hnt) (cwV 1 hG (gd_V k_774 k_776 k_16 k_109 k_777) rfl rfl rfl (by decide +kernel) ⟨Nat.le_of_ble_eq_true rfl, Nat.le_of_ble_eq_true rfl⟩) (tw_V (q0 := 0) hP hD hK hE hst hS rfl rfl [0, 1, 2, 3, 4, 5, 6] rfl (by decide)) rfl rfl hl.1 rfl (lv_room (Nat.le_of_ble_eq_true rfl)) d_TM_takeOutOf_109 ⟨Nat.le_of_ble_eq_true rfl, Nat.le_of_ble_eq_true rfl⟩) hP hD hS hA [0, 1, 2, 3, 4, 5, 6] [] rfl rfl (by decide) (by decide) (fun v u H locs hok hP hD hS => ?_) (fun x C u H locs hbad hxx hP hD hS => ?_)
              · skip
                obtain ⟨r_104, rfl, hp_105⟩ := hok
                have hp_105 : (r_104 = 0 ∨ (r_104 = 1 ∧ ¬ wcell r_102 = 0)) := hp_105
                have hP : va_P D classes [((f 4), .inr (2, [.ref (f 5), .ref (f 6), .ref (f 7), .int (nI fs), .ref (f 8), .ref (f 9), .ref (f 10), .int tb])), ((f 5), .inl (cL, 1024, .inr (.inl le))), ((f 6), .inl (cL, 1024, .inr (.inl ri))), ((f 7), .inl (cI, 1024, .inl fr)), ((f 8), .inl (cI, 1024, .inl od)), ((f 9), .inl (cZ, 1024, .inl g_99)), ((f 10), .inl (cL, 1024, .inr (.inl wo)))] H := hP
                have hD : va_D A [((f 4), .inr (2, [.ref (f 5), .ref (f 6), .ref (f 7), .int (nI fs), .ref (f 8), .ref (f 9), .ref (f 10), .int tb])), ((f 5), .inl (cL, 1024, .inr (.inl le))), ((f 6), .inl (cL, 1024, .inr (.inl ri))), ((f 7), .inl (cI, 1024, .inl fr)), ((f 8), .inl (cI, 1024, .inl od)), ((f 9), .inl (cZ, 1024, .inl g_99)), ((f 10), .inl (cL, 1024, .inr (.inl wo)))] := hD
                rcases hp_105 with rfl | ⟨rfl, hy_106⟩
                · skip
                  refine W.eq (g2 := F0 m 112 ls [.int 0]) rfl ?_
                  refine lv_if_eq (tgt := 119) hx hb d_TM_takeOutOf_112 (by decide) (fun hbr => ?_) (fun hbr => absurd (by decide) hbr)
                  refine lv_iconst (v := 0) hx hb d_TM_takeOutOf_119 (by decide) ?_
                  refine lv_istore (lv' := [(14, .int 0), (12, .long w_2), (10, .long r_102), (9, .int 0), (8, .int 1), (6, .long w_2), (4, .long w_1), (0, .ref (f 4)), (1, .int (nI n)), (2, .long b)]) hx hb d_TM_takeOutOf_120 hl (Nat.le_of_ble_eq_true rfl) rfl (fun ls hl => ?_)
                  refine lv_iload hx hb d_TM_takeOutOf_122 (lv_at hl 3 rfl) ?_
                  refine lv_if_eq (tgt := 136) hx hb d_TM_takeOutOf_124 (by decide) (fun hbr => ?_) (fun hbr => absurd (by decide) hbr)
                  refine lv_iconst (v := 1) hx hb d_TM_takeOutOf_136 (by decide) ?_
                  refine lv_goto (tgt := 141) hx hb d_TM_takeOutOf_137 (by decide) ?_
                  refine lv_istore (lv' := [(15, .int 1), (14, .int 0), (12, .long w_2), (10, .long r_102), (9, .int 0), (8, .int 1), (6, .long w_2), (4, .long w_1), (0, .ref (f 4)), (1, .int (nI n)), (2, .long b)]) hx hb d_TM_takeOutOf_141 hl (Nat.le_of_ble_eq_true rfl) rfl (fun ls hl => ?_)
                  refine lv_iload hx hb d_TM_takeOutOf_143 (lv_at hl 5 rfl) ?_
                  refine lv_if_eq (tgt := 161) hx hb d_TM_takeOutOf_145 (by decide) (fun hbr => absurd hbr (by decide)) (fun hbr => ?_)
                  refine lv_iload hx hb d_TM_takeOutOf_148 (lv_at hl 1 rfl) ?_
                  refine lv_if_eq (tgt := 161) hx hb d_TM_takeOutOf_150 (by decide) (fun hbr => ?_) (fun hbr => absurd (by decide) hbr)
                  refine lv_iload hx hb d_TM_takeOutOf_161 (lv_at hl 4 rfl) ?_
                  refine lv_if_eq (tgt := 179) hx hb d_TM_takeOutOf_163 (by decide) (fun hbr => ?_) (fun hbr => absurd (by decide) hbr)
                  refine lv_aload_n hx hb d_TM_takeOutOf_179 rfl (lv_at hl 8 rfl) ?_
                  refine va_get (D := D) (ci := 2) (v := .ref (f 10)) (C := rn_TM) (T := fl_TM) (N := 8) hx hb hG in_TM hown hK hP 0 rfl rfl 6 (by decide) (hG _ k_168) (fun _ h9 => h9) rfl d_TM_takeOutOf_180 ?_
                  refine lv_iload_n hx hb d_TM_takeOutOf_183 rfl (lv_at hl 9 rfl) ?_
                  refine lv_iload hx hb d_TM_takeOutOf_184 (lv_at hl 1 rfl) ?_
                  refine lv_if_eq (tgt := 203) hx hb d_TM_takeOutOf_186 (by decide) (fun hbr => ?_) (fun hbr => absurd (by decide) hbr)
                  refine lv_aload_n hx hb d_TM_takeOutOf_203 rfl (lv_at hl 8 rfl) ?_
                  refine lv_iload_n hx hb d_TM_takeOutOf_204 rfl (lv_at hl 9 rfl) ?_
                  refine lv_lload hx hb d_TM_takeOutOf_205 (lv_at hl 3 rfl) ?_
                  refine lv_lload hx hb d_TM_takeOutOf_207 (lv_at hl 2 rfl) ?_
                  refine lv_iload hx hb d_TM_takeOutOf_209 (lv_at hl 0 rfl) ?_
                  refine em_call (wr := []) (em_runV (As := [.int (nI n), .long r_102, .long w_2, .int 1]) (rest := [.int (nI n), .ref (f 10)]) ⟨hx, hb, hml, hown, hG⟩ (tm_joinVarying l D cI cL cZ cC f fs tb le ri wo fr od g_99 n r_102 w_2 1 _ (by omega) htb hle hri hwo hfr hod hg_99 (by omega) hp_103 hw_2 hnt) (cwV 4 hG (gd_V k_794 k_796 k_21 k_109 k_797) rfl rfl rfl (by decide +kernel) ⟨Nat.le_of_ble_eq_true rfl, Nat.le_of_ble_eq_true rfl⟩) (tw_V (q0 := 0) hP hD hK hE hst hS rfl rfl [0, 1, 2, 3, 4, 5, 6] rfl (by decide)) rfl rfl hl.1 rfl (lv_room (Nat.le_of_ble_eq_true rfl)) d_TM_takeOutOf_211 ⟨Nat.le_of_ble_eq_true rfl, Nat.le_of_ble_eq_true rfl⟩) hP hD hS hA [0, 1, 2, 3, 4, 5, 6] [] rfl rfl (by decide) (by decide) (fun v u H locs hok hP hD hS => ?_) (fun x C u H locs hbad hxx hP hD hS => ?_)
                  · skip
                    obtain ⟨fs_107, tb_108, le_109, ri_110, wo_111, fr_112, od_113, ha_114⟩ := u
                    obtain ⟨r_115, rfl, hp_116⟩ := hok
                    obtain ⟨hfs_117, htb_118, hle_119, hri_120, hwo_121, hfr_122, hod_123, hha_124, hres_125⟩ : fs_107 ≤ 1024 ∧ (tb_108 = 0 ∨ tb_108 = 1) ∧ wfa 1024 le_109 ∧ wfa 1024 ri_110 ∧ wfa 1024 wo_111 ∧ rng 1024 fr_112 ∧ rng 1024 od_113 ∧ bln ha_114 ∧ wfw 1024 r_115 := hp_116
                    have hP : va_P D classes [((f 4), .inr (2, [.ref (f 5), .ref (f 6), .ref (f 7), .int (nI fs_107), .ref (f 8), .ref (f 9), .ref (f 10), .int tb_108])), ((f 5), .inl (cL, 1024, .inr (.inl le_109))), ((f 6), .inl (cL, 1024, .inr (.inl ri_110))), ((f 7), .inl (cI, 1024, .inl fr_112)), ((f 8), .inl (cI, 1024, .inl od_113)), ((f 9), .inl (cZ, 1024, .inl ha_114)), ((f 10), .inl (cL, 1024, .inr (.inl wo_111)))] H := hP
                    have hD : va_D A [((f 4), .inr (2, [.ref (f 5), .ref (f 6), .ref (f 7), .int (nI fs_107), .ref (f 8), .ref (f 9), .ref (f 10), .int tb_108])), ((f 5), .inl (cL, 1024, .inr (.inl le_109))), ((f 6), .inl (cL, 1024, .inr (.inl ri_110))), ((f 7), .inl (cI, 1024, .inl fr_112)), ((f 8), .inl (cI, 1024, .inl od_113)), ((f 9), .inl (cZ, 1024, .inl ha_114)), ((f 10), .inl (cL, 1024, .inr (.inl wo_111)))] := hD
                    refine W.eq (g2 := F0 m 214 ls [.long r_115, .int (nI n), .ref (f 10)]) rfl ?_
                    refine va_last hx hb hK hP hD hS 6 1 rfl rfl (vp_in_nI (n := n) (N := 1024) (by omega) (by omega)) d_TM_takeOutOf_214 (fun H locs hP hD hS => ?_)
                    have hP : va_P D classes [((f 4), .inr (2, [.ref (f 5), .ref (f 6), .ref (f 7), .int (nI fs_107), .ref (f 8), .ref (f 9), .ref (f 10), .int tb_108])), ((f 5), .inl (cL, 1024, .inr (.inl le_109))), ((f 6), .inl (cL, 1024, .inr (.inl ri_110))), ((f 7), .inl (cI, 1024, .inl fr_112)), ((f 8), .inl (cI, 1024, .inl od_113)), ((f 9), .inl (cZ, 1024, .inl ha_114)), ((f 10), .inl (cL, 1024, .inr (.inl (vp_updL wo_111 (nI n).toNatClampNeg r_115))))] H := hP
                    have hD : va_D A [((f 4), .inr (2, [.ref (f 5), .ref (f 6), .ref (f 7), .int (nI fs_107), .ref (f 8), .ref (f 9), .ref (f 10), .int tb_108])), ((f 5), .inl (cL, 1024, .inr (.inl le_109))), ((f 6), .inl (cL, 1024, .inr (.inl ri_110))), ((f 7), .inl (cI, 1024, .inl fr_112)), ((f 8), .inl (cI, 1024, .inl od_113)), ((f 9), .inl (cZ, 1024, .inl ha_114)), ((f 10), .inl (cL, 1024, .inr (.inl (vp_updL wo_111 (nI n).toNatClampNeg r_115))))] := hD
                    obtain ⟨g_126, eg_126⟩ : ∃ z, z = vp_updL wo_111 (nI n).toNatClampNeg r_115 := ⟨_, rfl⟩
                    rw [← eg_126] at hP hD
                    have hg_126 : wfa 1024 g_126 := by rw [eg_126]; exact wfa_up hwo_121 hres_125
                    exact em_vret hx hb hr hlocks hP hD hK hS (fs_107, tb_108, le_109, ri_110, g_126, fr_112, od_113, ha_114) [0, 1, 2, 3, 4, 5, 6] (by decide) rfl ⟨rfl, ⟨(by omega), htb_118, hle_119, hri_120, hg_126, hfr_122, hod_123, hha_124⟩⟩ d_TM_takeOutOf_215
                  · skip
                    exact hbad.elim
                · skip
                  refine W.eq (g2 := F0 m 112 ls [.int 1]) rfl ?_
                  refine lv_if_eq (tgt := 119) hx hb d_TM_takeOutOf_112 (by decide) (fun hbr => absurd hbr (by decide)) (fun hbr => ?_)
                  refine lv_iconst (v := 1) hx hb d_TM_takeOutOf_115 (by decide) ?_
                  refine lv_goto (tgt := 120) hx hb d_TM_takeOutOf_116 (by decide) ?_
                  refine lv_istore (lv' := [(14, .int 1), (12, .long w_2), (10, .long r_102), (9, .int 0), (8, .int 1), (6, .long w_2), (4, .long w_1), (0, .ref (f 4)), (1, .int (nI n)), (2, .long b)]) hx hb d_TM_takeOutOf_120 hl (Nat.le_of_ble_eq_true rfl) rfl (fun ls hl => ?_)
                  refine lv_iload hx hb d_TM_takeOutOf_122 (lv_at hl 3 rfl) ?_
                  refine lv_if_eq (tgt := 136) hx hb d_TM_takeOutOf_124 (by decide) (fun hbr => ?_) (fun hbr => absurd (by decide) hbr)
                  refine lv_iconst (v := 1) hx hb d_TM_takeOutOf_136 (by decide) ?_
                  refine lv_goto (tgt := 141) hx hb d_TM_takeOutOf_137 (by decide) ?_
                  refine lv_istore (lv' := [(15, .int 1), (14, .int 1), (12, .long w_2), (10, .long r_102), (9, .int 0), (8, .int 1), (6, .long w_2), (4, .long w_1), (0, .ref (f 4)), (1, .int (nI n)), (2, .long b)]) hx hb d_TM_takeOutOf_141 hl (Nat.le_of_ble_eq_true rfl) rfl (fun ls hl => ?_)
                  refine lv_iload hx hb d_TM_takeOutOf_143 (lv_at hl 5 rfl) ?_
                  refine lv_if_eq (tgt := 161) hx hb d_TM_takeOutOf_145 (by decide) (fun hbr => absurd hbr (by decide)) (fun hbr => ?_)
                  refine lv_iload hx hb d_TM_takeOutOf_148 (lv_at hl 1 rfl) ?_
                  refine lv_if_eq (tgt := 161) hx hb d_TM_takeOutOf_150 (by decide) (fun hbr => absurd hbr (by decide)) (fun hbr => ?_)
                  refine lv_aload_n hx hb d_TM_takeOutOf_153 rfl (lv_at hl 8 rfl) ?_
                  refine lv_lload hx hb d_TM_takeOutOf_154 (lv_at hl 3 rfl) ?_
                  refine em_call (wr := []) (em_runV (As := [.long r_102]) (rest := []) ⟨hx, hb, hml, hown, hG⟩ (tm_unwrap l D cI cL cZ cC f fs tb le ri wo fr od g_99 r_102 _ (by omega) htb hle hri hwo hfr hod hg_99 hp_103 hy_106 hnt) (cwV 1 hG (gd_V k_778 k_780 k_17 k_109 k_781) rfl rfl rfl (by decide +kernel) ⟨Nat.le_of_ble_eq_true rfl, Nat.le_of_ble_eq_true rfl⟩) (tw_V (q0 := 0) hP hD hK hE hst hS rfl rfl [0, 1, 2, 3, 4, 5, 6] rfl (by decide)) rfl rfl hl.1 rfl (lv_room (Nat.le_of_ble_eq_true rfl)) d_TM_takeOutOf_156 ⟨Nat.le_of_ble_eq_true rfl, Nat.le_of_ble_eq_true rfl⟩) hP hD hS hA [0, 1, 2, 3, 4, 5, 6] [] rfl rfl (by decide) (by decide) (fun v u H locs hok hP hD hS => ?_) (fun x C u H locs hbad hxx hP hD hS => ?_)
                  · skip
                    obtain ⟨fs_127, tb_128, le_129, ri_130, wo_131, fr_132, od_133, ha_134⟩ := u
                    obtain ⟨r_135, rfl, hp_136⟩ := hok
                    obtain ⟨hfs_137, htb_138, hle_139, hri_140, hwo_141, hfr_142, hod_143, hha_144, hres_145⟩ : fs_127 ≤ 1024 ∧ (tb_128 = 0 ∨ tb_128 = 1) ∧ wfa 1024 le_129 ∧ wfa 1024 ri_130 ∧ wfa 1024 wo_131 ∧ rng 1024 fr_132 ∧ rng 1024 od_133 ∧ bln ha_134 ∧ wfw 1024 r_135 := hp_136
                    have hP : va_P D classes [((f 4), .inr (2, [.ref (f 5), .ref (f 6), .ref (f 7), .int (nI fs_127), .ref (f 8), .ref (f 9), .ref (f 10), .int tb_128])), ((f 5), .inl (cL, 1024, .inr (.inl le_129))), ((f 6), .inl (cL, 1024, .inr (.inl ri_130))), ((f 7), .inl (cI, 1024, .inl fr_132)), ((f 8), .inl (cI, 1024, .inl od_133)), ((f 9), .inl (cZ, 1024, .inl ha_134)), ((f 10), .inl (cL, 1024, .inr (.inl wo_131)))] H := hP
                    have hD : va_D A [((f 4), .inr (2, [.ref (f 5), .ref (f 6), .ref (f 7), .int (nI fs_127), .ref (f 8), .ref (f 9), .ref (f 10), .int tb_128])), ((f 5), .inl (cL, 1024, .inr (.inl le_129))), ((f 6), .inl (cL, 1024, .inr (.inl ri_130))), ((f 7), .inl (cI, 1024, .inl fr_132)), ((f 8), .inl (cI, 1024, .inl od_133)), ((f 9), .inl (cZ, 1024, .inl ha_134)), ((f 10), .inl (cL, 1024, .inr (.inl wo_131)))] := hD
                    refine W.eq (g2 := F0 m 159 ls [.long r_135]) rfl ?_
                    refine lv_lstore (lv' := [(10, .long r_135), (15, .int 1), (14, .int 1), (12, .long w_2), (9, .int 0), (8, .int 1), (6, .long w_2), (4, .long w_1), (0, .ref (f 4)), (1, .int (nI n)), (2, .long b)]) hx hb d_TM_takeOutOf_159 hl (Nat.le_of_ble_eq_true rfl) rfl (fun ls hl => ?_)
                    refine lv_iload hx hb d_TM_takeOutOf_161 (lv_at hl 4 rfl) ?_
                    refine lv_if_eq (tgt := 179) hx hb d_TM_takeOutOf_163 (by decide) (fun hbr => ?_) (fun hbr => absurd (by decide) hbr)
                    refine lv_aload_n hx hb d_TM_takeOutOf_179 rfl (lv_at hl 8 rfl) ?_
                    refine va_get (D := D) (ci := 2) (v := .ref (f 10)) (C := rn_TM) (T := fl_TM) (N := 8) hx hb hG in_TM hown hK hP 0 rfl rfl 6 (by decide) (hG _ k_168) (fun _ h9 => h9) rfl d_TM_takeOutOf_180 ?_
                    refine lv_iload_n hx hb d_TM_takeOutOf_183 rfl (lv_at hl 9 rfl) ?_
                    refine lv_iload hx hb d_TM_takeOutOf_184 (lv_at hl 2 rfl) ?_
                    refine lv_if_eq (tgt := 203) hx hb d_TM_takeOutOf_186 (by decide) (fun hbr => absurd hbr (by decide)) (fun hbr => ?_)
                    refine lv_aload_n hx hb d_TM_takeOutOf_189 rfl (lv_at hl 8 rfl) ?_
                    refine lv_iload_n hx hb d_TM_takeOutOf_190 rfl (lv_at hl 9 rfl) ?_
                    refine lv_lload hx hb d_TM_takeOutOf_191 (lv_at hl 0 rfl) ?_
                    refine lv_lload hx hb d_TM_takeOutOf_193 (lv_at hl 3 rfl) ?_
                    refine lv_iload hx hb d_TM_takeOutOf_195 (lv_at hl 1 rfl) ?_
                    refine em_call (wr := []) (em_runV (As := [.int (nI n), .long r_135, .long w_2, .int 1]) (rest := [.int (nI n), .ref (f 10)]) ⟨hx, hb, hml, hown, hG⟩ (tm_joinConstant l D cI cL cZ cC f fs_127 tb_128 le_129 ri_130 wo_131 fr_132 od_133 ha_134 n r_135 w_2 1 _ (by omega) htb_138 hle_139 hri_140 hwo_141 hfr_142 hod_143 hha_144 (by omega) hres_145 hw_2 hnt) (cwV 4 hG (gd_V k_786 k_788 k_19 k_109 k_789) rfl rfl rfl (by decide +kernel) ⟨Nat.le_of_ble_eq_true rfl, Nat.le_of_ble_eq_true rfl⟩) (tw_V (q0 := 0) hP hD hK hE hst hS rfl rfl [0, 1, 2, 3, 4, 5, 6] rfl (by decide)) rfl rfl hl.1 rfl (lv_room (Nat.le_of_ble_eq_true rfl)) d_TM_takeOutOf_197 ⟨Nat.le_of_ble_eq_true rfl, Nat.le_of_ble_eq_true rfl⟩) hP hD hS hA [0, 1, 2, 3, 4, 5, 6] [] rfl rfl (by decide) (by decide) (fun v u H locs hok hP hD hS => ?_) (fun x C u H locs hbad hxx hP hD hS => ?_)
                    · skip
                      obtain ⟨fs_146, tb_147, le_148, ri_149, wo_150, fr_151, od_152, ha_153⟩ := u
                      obtain ⟨r_154, rfl, hp_155⟩ := hok
                      obtain ⟨hfs_156, htb_157, hle_158, hri_159, hwo_160, hfr_161, hod_162, hha_163, hres_164⟩ : fs_146 ≤ 1024 ∧ (tb_147 = 0 ∨ tb_147 = 1) ∧ wfa 1024 le_148 ∧ wfa 1024 ri_149 ∧ wfa 1024 wo_150 ∧ rng 1024 fr_151 ∧ rng 1024 od_152 ∧ bln ha_153 ∧ wfw 1024 r_154 := hp_155
                      have hP : va_P D classes [((f 4), .inr (2, [.ref (f 5), .ref (f 6), .ref (f 7), .int (nI fs_146), .ref (f 8), .ref (f 9), .ref (f 10), .int tb_147])), ((f 5), .inl (cL, 1024, .inr (.inl le_148))), ((f 6), .inl (cL, 1024, .inr (.inl ri_149))), ((f 7), .inl (cI, 1024, .inl fr_151)), ((f 8), .inl (cI, 1024, .inl od_152)), ((f 9), .inl (cZ, 1024, .inl ha_153)), ((f 10), .inl (cL, 1024, .inr (.inl wo_150)))] H := hP
                      have hD : va_D A [((f 4), .inr (2, [.ref (f 5), .ref (f 6), .ref (f 7), .int (nI fs_146), .ref (f 8), .ref (f 9), .ref (f 10), .int tb_147])), ((f 5), .inl (cL, 1024, .inr (.inl le_148))), ((f 6), .inl (cL, 1024, .inr (.inl ri_149))), ((f 7), .inl (cI, 1024, .inl fr_151)), ((f 8), .inl (cI, 1024, .inl od_152)), ((f 9), .inl (cZ, 1024, .inl ha_153)), ((f 10), .inl (cL, 1024, .inr (.inl wo_150)))] := hD
                      refine W.eq (g2 := F0 m 200 ls [.long r_154, .int (nI n), .ref (f 10)]) rfl ?_
                      refine lv_goto (tgt := 214) hx hb d_TM_takeOutOf_200 (by decide) ?_
                      refine va_last hx hb hK hP hD hS 6 1 rfl rfl (vp_in_nI (n := n) (N := 1024) (by omega) (by omega)) d_TM_takeOutOf_214 (fun H locs hP hD hS => ?_)
                      have hP : va_P D classes [((f 4), .inr (2, [.ref (f 5), .ref (f 6), .ref (f 7), .int (nI fs_146), .ref (f 8), .ref (f 9), .ref (f 10), .int tb_147])), ((f 5), .inl (cL, 1024, .inr (.inl le_148))), ((f 6), .inl (cL, 1024, .inr (.inl ri_149))), ((f 7), .inl (cI, 1024, .inl fr_151)), ((f 8), .inl (cI, 1024, .inl od_152)), ((f 9), .inl (cZ, 1024, .inl ha_153)), ((f 10), .inl (cL, 1024, .inr (.inl (vp_updL wo_150 (nI n).toNatClampNeg r_154))))] H := hP
                      have hD : va_D A [((f 4), .inr (2, [.ref (f 5), .ref (f 6), .ref (f 7), .int (nI fs_146), .ref (f 8), .ref (f 9), .ref (f 10), .int tb_147])), ((f 5), .inl (cL, 1024, .inr (.inl le_148))), ((f 6), .inl (cL, 1024, .inr (.inl ri_149))), ((f 7), .inl (cI, 1024, .inl fr_151)), ((f 8), .inl (cI, 1024, .inl od_152)), ((f 9), .inl (cZ, 1024, .inl ha_153)), ((f 10), .inl (cL, 1024, .inr (.inl (vp_updL wo_150 (nI n).toNatClampNeg r_154))))] := hD
                      obtain ⟨g_165, eg_165⟩ : ∃ z, z = vp_updL wo_150 (nI n).toNatClampNeg r_154 := ⟨_, rfl⟩
                      rw [← eg_165] at hP hD
                      have hg_165 : wfa 1024 g_165 := by rw [eg_165]; exact wfa_up hwo_160 hres_164
                      exact em_vret hx hb hr hlocks hP hD hK hS (fs_146, tb_147, le_148, ri_149, g_165, fr_151, od_152, ha_153) [0, 1, 2, 3, 4, 5, 6] (by decide) rfl ⟨rfl, ⟨(by omega), htb_157, hle_158, hri_159, hg_165, hfr_161, hod_162, hha_163⟩⟩ d_TM_takeOutOf_215
                    · skip
                      exact hbad.elim
                  · skip
                    exact hbad.elim
              · skip
                exact hbad.elim
            · skip
              exact hbad.elim
          · skip
            exact em_vret hx hb hr hlocks hP hD hK hS (fs, tb, le, ri, wo, fr, od, g_99) [0, 1, 2, 3, 4, 5, 6] (by decide) rfl ⟨rfl, ⟨(by omega), htb, hle, hri, hwo, hfr, hod, hg_99⟩⟩ d_TM_takeOutOf_64
        · skip
          refine W.eq (g2 := F0 m 32 ls [.int 1]) rfl ?_
          refine lv_istore (lv' := [(9, .int 1), (8, .int 1), (6, .long w_2), (4, .long w_1), (0, .ref (f 4)), (1, .int (nI n)), (2, .long b)]) hx hb d_TM_takeOutOf_32 hl (Nat.le_of_ble_eq_true rfl) rfl (fun ls hl => ?_)
          refine lv_aload_n hx hb d_TM_takeOutOf_34 rfl (lv_at hl 4 rfl) ?_
          refine va_get (D := D) (ci := 2) (v := .ref (f 9)) (C := rn_TM) (T := fl_TM) (N := 8) hx hb hG in_TM hown hK hP 0 rfl rfl 5 (by decide) (hG _ k_167) (fun _ h9 => h9) rfl d_TM_takeOutOf_35 ?_
          refine lv_iload_n hx hb d_TM_takeOutOf_38 rfl (lv_at hl 5 rfl) ?_
          refine lv_iload hx hb d_TM_takeOutOf_39 (lv_at hl 1 rfl) ?_
          refine lv_if_ne (tgt := 49) hx hb d_TM_takeOutOf_41 (by decide) (fun hbr => ?_) (fun hbr => absurd hbr (by decide))
          refine lv_iconst (v := 1) hx hb d_TM_takeOutOf_49 (by decide) ?_
          refine lv_goto (tgt := 54) hx hb d_TM_takeOutOf_50 (by decide) ?_
          refine va_zast hx hb hK hP hD hS 5 2 rfl rfl (vp_in_nI (n := n) (N := 1024) (by omega) (by omega)) d_TM_takeOutOf_54 (fun H locs hP hD hS => ?_)
          have hP : va_P D classes [((f 4), .inr (2, [.ref (f 5), .ref (f 6), .ref (f 7), .int (nI fs), .ref (f 8), .ref (f 9), .ref (f 10), .int tb])), ((f 5), .inl (cL, 1024, .inr (.inl le))), ((f 6), .inl (cL, 1024, .inr (.inl ri))), ((f 7), .inl (cI, 1024, .inl fr)), ((f 8), .inl (cI, 1024, .inl od)), ((f 9), .inl (cZ, 1024, .inl (upd ha (nI n).toNatClampNeg (vp_nar .boolean 1)))), ((f 10), .inl (cL, 1024, .inr (.inl wo)))] H := hP
          have hD : va_D A [((f 4), .inr (2, [.ref (f 5), .ref (f 6), .ref (f 7), .int (nI fs), .ref (f 8), .ref (f 9), .ref (f 10), .int tb])), ((f 5), .inl (cL, 1024, .inr (.inl le))), ((f 6), .inl (cL, 1024, .inr (.inl ri))), ((f 7), .inl (cI, 1024, .inl fr)), ((f 8), .inl (cI, 1024, .inl od)), ((f 9), .inl (cZ, 1024, .inl (upd ha (nI n).toNatClampNeg (vp_nar .boolean 1)))), ((f 10), .inl (cL, 1024, .inr (.inl wo)))] := hD
          obtain ⟨g_166, eg_166⟩ : ∃ z, z = upd ha (nI n).toNatClampNeg (vp_nar .boolean 1) := ⟨_, rfl⟩
          rw [← eg_166] at hP hD
          have hg_166 : bln g_166 := by rw [eg_166]; exact bln_up hha _
          refine lv_aload_n hx hb d_TM_takeOutOf_55 rfl (lv_at hl 4 rfl) ?_
          refine va_get (D := D) (ci := 2) (v := .ref (f 9)) (C := rn_TM) (T := fl_TM) (N := 8) hx hb hG in_TM hown hK hP 0 rfl rfl 5 (by decide) (hG _ k_167) (fun _ h9 => h9) rfl d_TM_takeOutOf_56 ?_
          refine lv_iload_n hx hb d_TM_takeOutOf_59 rfl (lv_at hl 5 rfl) ?_
          refine va_zald hx hb hK hP 5 2 rfl rfl (vp_in_nI (n := n) (N := 1024) (by omega) (by omega)) d_TM_takeOutOf_60 ?_
          refine lv_topi (fun v_167 ev_167 => ?_)
          have hv_167 : v_167 = 0 ∨ v_167 = 1 := by rw [ev_167]; exact hg_166 _
          refine lv_if_ne (tgt := 65) hx hb d_TM_takeOutOf_61 (by decide) (fun hb_168 => ?_) (fun hb_168 => ?_)
          · skip
            refine lv_iload hx hb d_TM_takeOutOf_65 (lv_at hl 1 rfl) ?_
            refine lv_if_eq (tgt := 79) hx hb d_TM_takeOutOf_67 (by decide) (fun hbr => absurd hbr (by decide)) (fun hbr => ?_)
            refine lv_aload_n hx hb d_TM_takeOutOf_70 rfl (lv_at hl 4 rfl) ?_
            refine lv_lload hx hb d_TM_takeOutOf_71 (lv_at hl 3 rfl) ?_
            refine em_call (wr := []) (em_runV (As := [.long w_1]) (rest := []) ⟨hx, hb, hml, hown, hG⟩ (tm_withoutName l D cI cL cZ cC f fs tb le ri wo fr od g_166 w_1 _ (by omega) htb hle hri hwo hfr hod hg_166 hw_1 hnt) (cwV 1 hG (gd_V k_770 k_772 k_15 k_109 k_773) rfl rfl rfl (by decide +kernel) ⟨Nat.le_of_ble_eq_true rfl, Nat.le_of_ble_eq_true rfl⟩) (tw_V (q0 := 0) hP hD hK hE hst hS rfl rfl [0, 1, 2, 3, 4, 5, 6] rfl (by decide)) rfl rfl hl.1 rfl (lv_room (Nat.le_of_ble_eq_true rfl)) d_TM_takeOutOf_73 ⟨Nat.le_of_ble_eq_true rfl, Nat.le_of_ble_eq_true rfl⟩) hP hD hS hA [0, 1, 2, 3, 4, 5, 6] [] rfl rfl (by decide) (by decide) (fun v u H locs hok hP hD hS => ?_) (fun x C u H locs hbad hxx hP hD hS => ?_)
            · skip
              obtain ⟨r_169, rfl, hp_170⟩ := hok
              have hp_170 : wfw 1024 r_169 := hp_170
              have hP : va_P D classes [((f 4), .inr (2, [.ref (f 5), .ref (f 6), .ref (f 7), .int (nI fs), .ref (f 8), .ref (f 9), .ref (f 10), .int tb])), ((f 5), .inl (cL, 1024, .inr (.inl le))), ((f 6), .inl (cL, 1024, .inr (.inl ri))), ((f 7), .inl (cI, 1024, .inl fr)), ((f 8), .inl (cI, 1024, .inl od)), ((f 9), .inl (cZ, 1024, .inl g_166)), ((f 10), .inl (cL, 1024, .inr (.inl wo)))] H := hP
              have hD : va_D A [((f 4), .inr (2, [.ref (f 5), .ref (f 6), .ref (f 7), .int (nI fs), .ref (f 8), .ref (f 9), .ref (f 10), .int tb])), ((f 5), .inl (cL, 1024, .inr (.inl le))), ((f 6), .inl (cL, 1024, .inr (.inl ri))), ((f 7), .inl (cI, 1024, .inl fr)), ((f 8), .inl (cI, 1024, .inl od)), ((f 9), .inl (cZ, 1024, .inl g_166)), ((f 10), .inl (cL, 1024, .inr (.inl wo)))] := hD
              refine W.eq (g2 := F0 m 76 ls [.long r_169]) rfl ?_
              refine lv_goto (tgt := 81) hx hb d_TM_takeOutOf_76 (by decide) ?_
              refine lv_lstore (lv' := [(10, .long r_169), (9, .int 1), (8, .int 1), (6, .long w_2), (4, .long w_1), (0, .ref (f 4)), (1, .int (nI n)), (2, .long b)]) hx hb d_TM_takeOutOf_81 hl (Nat.le_of_ble_eq_true rfl) rfl (fun ls hl => ?_)
              refine lv_iload hx hb d_TM_takeOutOf_83 (lv_at hl 1 rfl) ?_
              refine lv_if_eq (tgt := 97) hx hb d_TM_takeOutOf_85 (by decide) (fun hbr => absurd hbr (by decide)) (fun hbr => ?_)
              refine lv_aload_n hx hb d_TM_takeOutOf_88 rfl (lv_at hl 5 rfl) ?_
              refine lv_lload hx hb d_TM_takeOutOf_89 (lv_at hl 3 rfl) ?_
              refine em_call (wr := []) (em_runV (As := [.long w_2]) (rest := []) ⟨hx, hb, hml, hown, hG⟩ (tm_withoutName l D cI cL cZ cC f fs tb le ri wo fr od g_166 w_2 _ (by omega) htb hle hri hwo hfr hod hg_166 hw_2 hnt) (cwV 1 hG (gd_V k_770 k_772 k_15 k_109 k_773) rfl rfl rfl (by decide +kernel) ⟨Nat.le_of_ble_eq_true rfl, Nat.le_of_ble_eq_true rfl⟩) (tw_V (q0 := 0) hP hD hK hE hst hS rfl rfl [0, 1, 2, 3, 4, 5, 6] rfl (by decide)) rfl rfl hl.1 rfl (lv_room (Nat.le_of_ble_eq_true rfl)) d_TM_takeOutOf_91 ⟨Nat.le_of_ble_eq_true rfl, Nat.le_of_ble_eq_true rfl⟩) hP hD hS hA [0, 1, 2, 3, 4, 5, 6] [] rfl rfl (by decide) (by decide) (fun v u H locs hok hP hD hS => ?_) (fun x C u H locs hbad hxx hP hD hS => ?_)
              · skip
                obtain ⟨r_171, rfl, hp_172⟩ := hok
                have hp_172 : wfw 1024 r_171 := hp_172
                have hP : va_P D classes [((f 4), .inr (2, [.ref (f 5), .ref (f 6), .ref (f 7), .int (nI fs), .ref (f 8), .ref (f 9), .ref (f 10), .int tb])), ((f 5), .inl (cL, 1024, .inr (.inl le))), ((f 6), .inl (cL, 1024, .inr (.inl ri))), ((f 7), .inl (cI, 1024, .inl fr)), ((f 8), .inl (cI, 1024, .inl od)), ((f 9), .inl (cZ, 1024, .inl g_166)), ((f 10), .inl (cL, 1024, .inr (.inl wo)))] H := hP
                have hD : va_D A [((f 4), .inr (2, [.ref (f 5), .ref (f 6), .ref (f 7), .int (nI fs), .ref (f 8), .ref (f 9), .ref (f 10), .int tb])), ((f 5), .inl (cL, 1024, .inr (.inl le))), ((f 6), .inl (cL, 1024, .inr (.inl ri))), ((f 7), .inl (cI, 1024, .inl fr)), ((f 8), .inl (cI, 1024, .inl od)), ((f 9), .inl (cZ, 1024, .inl g_166)), ((f 10), .inl (cL, 1024, .inr (.inl wo)))] := hD
                refine W.eq (g2 := F0 m 94 ls [.long r_171]) rfl ?_
                refine lv_goto (tgt := 99) hx hb d_TM_takeOutOf_94 (by decide) ?_
                refine lv_lstore (lv' := [(12, .long r_171), (10, .long r_169), (9, .int 1), (8, .int 1), (6, .long w_2), (4, .long w_1), (0, .ref (f 4)), (1, .int (nI n)), (2, .long b)]) hx hb d_TM_takeOutOf_99 hl (Nat.le_of_ble_eq_true rfl) rfl (fun ls hl => ?_)
                refine lv_iload hx hb d_TM_takeOutOf_101 (lv_at hl 3 rfl) ?_
                refine lv_if_eq (tgt := 115) hx hb d_TM_takeOutOf_103 (by decide) (fun hbr => absurd hbr (by decide)) (fun hbr => ?_)
                refine lv_aload_n hx hb d_TM_takeOutOf_106 rfl (lv_at hl 6 rfl) ?_
                refine lv_lload hx hb d_TM_takeOutOf_107 (lv_at hl 1 rfl) ?_
                refine em_call (wr := []) (em_runV (As := [.long r_169]) (rest := []) ⟨hx, hb, hml, hown, hG⟩ (tm_isK l D cI cL cZ cC f fs tb le ri wo fr od g_166 r_169 _ (by omega) htb hle hri hwo hfr hod hg_166 hp_170 hnt) (cwV 1 hG (gd_V k_774 k_776 k_16 k_109 k_777) rfl rfl rfl (by decide +kernel) ⟨Nat.le_of_ble_eq_true rfl, Nat.le_of_ble_eq_true rfl⟩) (tw_V (q0 := 0) hP hD hK hE hst hS rfl rfl [0, 1, 2, 3, 4, 5, 6] rfl (by decide)) rfl rfl hl.1 rfl (lv_room (Nat.le_of_ble_eq_true rfl)) d_TM_takeOutOf_109 ⟨Nat.le_of_ble_eq_true rfl, Nat.le_of_ble_eq_true rfl⟩) hP hD hS hA [0, 1, 2, 3, 4, 5, 6] [] rfl rfl (by decide) (by decide) (fun v u H locs hok hP hD hS => ?_) (fun x C u H locs hbad hxx hP hD hS => ?_)
                · skip
                  obtain ⟨r_173, rfl, hp_174⟩ := hok
                  have hp_174 : (r_173 = 0 ∨ (r_173 = 1 ∧ ¬ wcell r_169 = 0)) := hp_174
                  have hP : va_P D classes [((f 4), .inr (2, [.ref (f 5), .ref (f 6), .ref (f 7), .int (nI fs), .ref (f 8), .ref (f 9), .ref (f 10), .int tb])), ((f 5), .inl (cL, 1024, .inr (.inl le))), ((f 6), .inl (cL, 1024, .inr (.inl ri))), ((f 7), .inl (cI, 1024, .inl fr)), ((f 8), .inl (cI, 1024, .inl od)), ((f 9), .inl (cZ, 1024, .inl g_166)), ((f 10), .inl (cL, 1024, .inr (.inl wo)))] H := hP
                  have hD : va_D A [((f 4), .inr (2, [.ref (f 5), .ref (f 6), .ref (f 7), .int (nI fs), .ref (f 8), .ref (f 9), .ref (f 10), .int tb])), ((f 5), .inl (cL, 1024, .inr (.inl le))), ((f 6), .inl (cL, 1024, .inr (.inl ri))), ((f 7), .inl (cI, 1024, .inl fr)), ((f 8), .inl (cI, 1024, .inl od)), ((f 9), .inl (cZ, 1024, .inl g_166)), ((f 10), .inl (cL, 1024, .inr (.inl wo)))] := hD
                  rcases hp_174 with rfl | ⟨rfl, hy_175⟩
                  · skip
                    refine W.eq (g2 := F0 m 112 ls [.int 0]) rfl ?_
                    refine lv_if_eq (tgt := 119) hx hb d_TM_takeOutOf_112 (by decide) (fun hbr => ?_) (fun hbr => absurd (by decide) hbr)
                    refine lv_iconst (v := 0) hx hb d_TM_takeOutOf_119 (by decide) ?_
                    refine lv_istore (lv' := [(14, .int 0), (12, .long r_171), (10, .long r_169), (9, .int 1), (8, .int 1), (6, .long w_2), (4, .long w_1), (0, .ref (f 4)), (1, .int (nI n)), (2, .long b)]) hx hb d_TM_takeOutOf_120 hl (Nat.le_of_ble_eq_true rfl) rfl (fun ls hl => ?_)
                    refine lv_iload hx hb d_TM_takeOutOf_122 (lv_at hl 3 rfl) ?_
                    refine lv_if_eq (tgt := 136) hx hb d_TM_takeOutOf_124 (by decide) (fun hbr => absurd hbr (by decide)) (fun hbr => ?_)
                    refine lv_aload_n hx hb d_TM_takeOutOf_127 rfl (lv_at hl 7 rfl) ?_
                    refine lv_lload hx hb d_TM_takeOutOf_128 (lv_at hl 1 rfl) ?_
                    refine em_call (wr := []) (em_runV (As := [.long r_171]) (rest := []) ⟨hx, hb, hml, hown, hG⟩ (tm_isK l D cI cL cZ cC f fs tb le ri wo fr od g_166 r_171 _ (by omega) htb hle hri hwo hfr hod hg_166 hp_172 hnt) (cwV 1 hG (gd_V k_774 k_776 k_16 k_109 k_777) rfl rfl rfl (by decide +kernel) ⟨Nat.le_of_ble_eq_true rfl, Nat.le_of_ble_eq_true rfl⟩) (tw_V (q0 := 0) hP hD hK hE hst hS rfl rfl [0, 1, 2, 3, 4, 5, 6] rfl (by decide)) rfl rfl hl.1 rfl (lv_room (Nat.le_of_ble_eq_true rfl)) d_TM_takeOutOf_130 ⟨Nat.le_of_ble_eq_true rfl, Nat.le_of_ble_eq_true rfl⟩) hP hD hS hA [0, 1, 2, 3, 4, 5, 6] [] rfl rfl (by decide) (by decide) (fun v u H locs hok hP hD hS => ?_) (fun x C u H locs hbad hxx hP hD hS => ?_)
                    · skip
                      obtain ⟨r_176, rfl, hp_177⟩ := hok
                      have hp_177 : (r_176 = 0 ∨ (r_176 = 1 ∧ ¬ wcell r_171 = 0)) := hp_177
                      have hP : va_P D classes [((f 4), .inr (2, [.ref (f 5), .ref (f 6), .ref (f 7), .int (nI fs), .ref (f 8), .ref (f 9), .ref (f 10), .int tb])), ((f 5), .inl (cL, 1024, .inr (.inl le))), ((f 6), .inl (cL, 1024, .inr (.inl ri))), ((f 7), .inl (cI, 1024, .inl fr)), ((f 8), .inl (cI, 1024, .inl od)), ((f 9), .inl (cZ, 1024, .inl g_166)), ((f 10), .inl (cL, 1024, .inr (.inl wo)))] H := hP
                      have hD : va_D A [((f 4), .inr (2, [.ref (f 5), .ref (f 6), .ref (f 7), .int (nI fs), .ref (f 8), .ref (f 9), .ref (f 10), .int tb])), ((f 5), .inl (cL, 1024, .inr (.inl le))), ((f 6), .inl (cL, 1024, .inr (.inl ri))), ((f 7), .inl (cI, 1024, .inl fr)), ((f 8), .inl (cI, 1024, .inl od)), ((f 9), .inl (cZ, 1024, .inl g_166)), ((f 10), .inl (cL, 1024, .inr (.inl wo)))] := hD
                      rcases hp_177 with rfl | ⟨rfl, hy_178⟩
                      · skip
                        refine W.eq (g2 := F0 m 133 ls [.int 0]) rfl ?_
                        refine lv_if_eq (tgt := 140) hx hb d_TM_takeOutOf_133 (by decide) (fun hbr => ?_) (fun hbr => absurd (by decide) hbr)
                        refine lv_iconst (v := 0) hx hb d_TM_takeOutOf_140 (by decide) ?_
                        refine lv_istore (lv' := [(15, .int 0), (14, .int 0), (12, .long r_171), (10, .long r_169), (9, .int 1), (8, .int 1), (6, .long w_2), (4, .long w_1), (0, .ref (f 4)), (1, .int (nI n)), (2, .long b)]) hx hb d_TM_takeOutOf_141 hl (Nat.le_of_ble_eq_true rfl) rfl (fun ls hl => ?_)
                        refine lv_iload hx hb d_TM_takeOutOf_143 (lv_at hl 5 rfl) ?_
                        refine lv_if_eq (tgt := 161) hx hb d_TM_takeOutOf_145 (by decide) (fun hbr => absurd hbr (by decide)) (fun hbr => ?_)
                        refine lv_iload hx hb d_TM_takeOutOf_148 (lv_at hl 1 rfl) ?_
                        refine lv_if_eq (tgt := 161) hx hb d_TM_takeOutOf_150 (by decide) (fun hbr => ?_) (fun hbr => absurd (by decide) hbr)
                        refine lv_iload hx hb d_TM_takeOutOf_161 (lv_at hl 4 rfl) ?_
                        refine lv_if_eq (tgt := 179) hx hb d_TM_takeOutOf_163 (by decide) (fun hbr => absurd hbr (by decide)) (fun hbr => ?_)
                        refine lv_iload hx hb d_TM_takeOutOf_166 (lv_at hl 0 rfl) ?_
                        refine lv_if_eq (tgt := 179) hx hb d_TM_takeOutOf_168 (by decide) (fun hbr => ?_) (fun hbr => absurd (by decide) hbr)
                        refine lv_aload_n hx hb d_TM_takeOutOf_179 rfl (lv_at hl 8 rfl) ?_
                        refine va_get (D := D) (ci := 2) (v := .ref (f 10)) (C := rn_TM) (T := fl_TM) (N := 8) hx hb hG in_TM hown hK hP 0 rfl rfl 6 (by decide) (hG _ k_168) (fun _ h9 => h9) rfl d_TM_takeOutOf_180 ?_
                        refine lv_iload_n hx hb d_TM_takeOutOf_183 rfl (lv_at hl 9 rfl) ?_
                        refine lv_iload hx hb d_TM_takeOutOf_184 (lv_at hl 1 rfl) ?_
                        refine lv_if_eq (tgt := 203) hx hb d_TM_takeOutOf_186 (by decide) (fun hbr => ?_) (fun hbr => absurd (by decide) hbr)
                        refine lv_aload_n hx hb d_TM_takeOutOf_203 rfl (lv_at hl 8 rfl) ?_
                        refine lv_iload_n hx hb d_TM_takeOutOf_204 rfl (lv_at hl 9 rfl) ?_
                        refine lv_lload hx hb d_TM_takeOutOf_205 (lv_at hl 3 rfl) ?_
                        refine lv_lload hx hb d_TM_takeOutOf_207 (lv_at hl 2 rfl) ?_
                        refine lv_iload hx hb d_TM_takeOutOf_209 (lv_at hl 0 rfl) ?_
                        refine em_call (wr := []) (em_runV (As := [.int (nI n), .long r_169, .long r_171, .int 0]) (rest := [.int (nI n), .ref (f 10)]) ⟨hx, hb, hml, hown, hG⟩ (tm_joinVarying l D cI cL cZ cC f fs tb le ri wo fr od g_166 n r_169 r_171 0 _ (by omega) htb hle hri hwo hfr hod hg_166 (by omega) hp_170 hp_172 hnt) (cwV 4 hG (gd_V k_794 k_796 k_21 k_109 k_797) rfl rfl rfl (by decide +kernel) ⟨Nat.le_of_ble_eq_true rfl, Nat.le_of_ble_eq_true rfl⟩) (tw_V (q0 := 0) hP hD hK hE hst hS rfl rfl [0, 1, 2, 3, 4, 5, 6] rfl (by decide)) rfl rfl hl.1 rfl (lv_room (Nat.le_of_ble_eq_true rfl)) d_TM_takeOutOf_211 ⟨Nat.le_of_ble_eq_true rfl, Nat.le_of_ble_eq_true rfl⟩) hP hD hS hA [0, 1, 2, 3, 4, 5, 6] [] rfl rfl (by decide) (by decide) (fun v u H locs hok hP hD hS => ?_) (fun x C u H locs hbad hxx hP hD hS => ?_)
                        · skip
                          obtain ⟨fs_179, tb_180, le_181, ri_182, wo_183, fr_184, od_185, ha_186⟩ := u
                          obtain ⟨r_187, rfl, hp_188⟩ := hok
                          obtain ⟨hfs_189, htb_190, hle_191, hri_192, hwo_193, hfr_194, hod_195, hha_196, hres_197⟩ : fs_179 ≤ 1024 ∧ (tb_180 = 0 ∨ tb_180 = 1) ∧ wfa 1024 le_181 ∧ wfa 1024 ri_182 ∧ wfa 1024 wo_183 ∧ rng 1024 fr_184 ∧ rng 1024 od_185 ∧ bln ha_186 ∧ wfw 1024 r_187 := hp_188
                          have hP : va_P D classes [((f 4), .inr (2, [.ref (f 5), .ref (f 6), .ref (f 7), .int (nI fs_179), .ref (f 8), .ref (f 9), .ref (f 10), .int tb_180])), ((f 5), .inl (cL, 1024, .inr (.inl le_181))), ((f 6), .inl (cL, 1024, .inr (.inl ri_182))), ((f 7), .inl (cI, 1024, .inl fr_184)), ((f 8), .inl (cI, 1024, .inl od_185)), ((f 9), .inl (cZ, 1024, .inl ha_186)), ((f 10), .inl (cL, 1024, .inr (.inl wo_183)))] H := hP
                          have hD : va_D A [((f 4), .inr (2, [.ref (f 5), .ref (f 6), .ref (f 7), .int (nI fs_179), .ref (f 8), .ref (f 9), .ref (f 10), .int tb_180])), ((f 5), .inl (cL, 1024, .inr (.inl le_181))), ((f 6), .inl (cL, 1024, .inr (.inl ri_182))), ((f 7), .inl (cI, 1024, .inl fr_184)), ((f 8), .inl (cI, 1024, .inl od_185)), ((f 9), .inl (cZ, 1024, .inl ha_186)), ((f 10), .inl (cL, 1024, .inr (.inl wo_183)))] := hD
                          refine W.eq (g2 := F0 m 214 ls [.long r_187, .int (nI n), .ref (f 10)]) rfl ?_
                          refine va_last hx hb hK hP hD hS 6 1 rfl rfl (vp_in_nI (n := n) (N := 1024) (by omega) (by omega)) d_TM_takeOutOf_214 (fun H locs hP hD hS => ?_)
                          have hP : va_P D classes [((f 4), .inr (2, [.ref (f 5), .ref (f 6), .ref (f 7), .int (nI fs_179), .ref (f 8), .ref (f 9), .ref (f 10), .int tb_180])), ((f 5), .inl (cL, 1024, .inr (.inl le_181))), ((f 6), .inl (cL, 1024, .inr (.inl ri_182))), ((f 7), .inl (cI, 1024, .inl fr_184)), ((f 8), .inl (cI, 1024, .inl od_185)), ((f 9), .inl (cZ, 1024, .inl ha_186)), ((f 10), .inl (cL, 1024, .inr (.inl (vp_updL wo_183 (nI n).toNatClampNeg r_187))))] H := hP
                          have hD : va_D A [((f 4), .inr (2, [.ref (f 5), .ref (f 6), .ref (f 7), .int (nI fs_179), .ref (f 8), .ref (f 9), .ref (f 10), .int tb_180])), ((f 5), .inl (cL, 1024, .inr (.inl le_181))), ((f 6), .inl (cL, 1024, .inr (.inl ri_182))), ((f 7), .inl (cI, 1024, .inl fr_184)), ((f 8), .inl (cI, 1024, .inl od_185)), ((f 9), .inl (cZ, 1024, .inl ha_186)), ((f 10), .inl (cL, 1024, .inr (.inl (vp_updL wo_183 (nI n).toNatClampNeg r_187))))] := hD
                          obtain ⟨g_198, eg_198⟩ : ∃ z, z = vp_updL wo_183 (nI n).toNatClampNeg r_187 := ⟨_, rfl⟩
                          rw [← eg_198] at hP hD
                          have hg_198 : wfa 1024 g_198 := by rw [eg_198]; exact wfa_up hwo_193 hres_197
                          exact em_vret hx hb hr hlocks hP hD hK hS (fs_179, tb_180, le_181, ri_182, g_198, fr_184, od_185, ha_186) [0, 1, 2, 3, 4, 5, 6] (by decide) rfl ⟨rfl, ⟨(by omega), htb_190, hle_191, hri_192, hg_198, hfr_194, hod_195, hha_196⟩⟩ d_TM_takeOutOf_215
                        · skip
                          exact hbad.elim
                      · skip
                        refine W.eq (g2 := F0 m 133 ls [.int 1]) rfl ?_
                        refine lv_if_eq (tgt := 140) hx hb d_TM_takeOutOf_133 (by decide) (fun hbr => absurd hbr (by decide)) (fun hbr => ?_)
                        refine lv_iconst (v := 1) hx hb d_TM_takeOutOf_136 (by decide) ?_
                        refine lv_goto (tgt := 141) hx hb d_TM_takeOutOf_137 (by decide) ?_
                        refine lv_istore (lv' := [(15, .int 1), (14, .int 0), (12, .long r_171), (10, .long r_169), (9, .int 1), (8, .int 1), (6, .long w_2), (4, .long w_1), (0, .ref (f 4)), (1, .int (nI n)), (2, .long b)]) hx hb d_TM_takeOutOf_141 hl (Nat.le_of_ble_eq_true rfl) rfl (fun ls hl => ?_)
                        refine lv_iload hx hb d_TM_takeOutOf_143 (lv_at hl 5 rfl) ?_
                        refine lv_if_eq (tgt := 161) hx hb d_TM_takeOutOf_145 (by decide) (fun hbr => absurd hbr (by decide)) (fun hbr => ?_)
                        refine lv_iload hx hb d_TM_takeOutOf_148 (lv_at hl 1 rfl) ?_
                        refine lv_if_eq (tgt := 161) hx hb d_TM_takeOutOf_150 (by decide) (fun hbr => ?_) (fun hbr => absurd (by decide) hbr)
                        refine lv_iload hx hb d_TM_takeOutOf_161 (lv_at hl 4 rfl) ?_
                        refine lv_if_eq (tgt := 179) hx hb d_TM_takeOutOf_163 (by decide) (fun hbr => absurd hbr (by decide)) (fun hbr => ?_)
                        refine lv_iload hx hb d_TM_takeOutOf_166 (lv_at hl 0 rfl) ?_
                        refine lv_if_eq (tgt := 179) hx hb d_TM_takeOutOf_168 (by decide) (fun hbr => absurd hbr (by decide)) (fun hbr => ?_)
                        refine lv_aload_n hx hb d_TM_takeOutOf_171 rfl (lv_at hl 8 rfl) ?_
                        refine lv_lload hx hb d_TM_takeOutOf_172 (lv_at hl 2 rfl) ?_
                        refine em_call (wr := []) (em_runV (As := [.long r_171]) (rest := []) ⟨hx, hb, hml, hown, hG⟩ (tm_unwrap l D cI cL cZ cC f fs tb le ri wo fr od g_166 r_171 _ (by omega) htb hle hri hwo hfr hod hg_166 hp_172 hy_178 hnt) (cwV 1 hG (gd_V k_778 k_780 k_17 k_109 k_781) rfl rfl rfl (by decide +kernel) ⟨Nat.le_of_ble_eq_true rfl, Nat.le_of_ble_eq_true rfl⟩) (tw_V (q0 := 0) hP hD hK hE hst hS rfl rfl [0, 1, 2, 3, 4, 5, 6] rfl (by decide)) rfl rfl hl.1 rfl (lv_room (Nat.le_of_ble_eq_true rfl)) d_TM_takeOutOf_174 ⟨Nat.le_of_ble_eq_true rfl, Nat.le_of_ble_eq_true rfl⟩) hP hD hS hA [0, 1, 2, 3, 4, 5, 6] [] rfl rfl (by decide) (by decide) (fun v u H locs hok hP hD hS => ?_) (fun x C u H locs hbad hxx hP hD hS => ?_)
                        · skip
                          obtain ⟨fs_199, tb_200, le_201, ri_202, wo_203, fr_204, od_205, ha_206⟩ := u
                          obtain ⟨r_207, rfl, hp_208⟩ := hok
                          obtain ⟨hfs_209, htb_210, hle_211, hri_212, hwo_213, hfr_214, hod_215, hha_216, hres_217⟩ : fs_199 ≤ 1024 ∧ (tb_200 = 0 ∨ tb_200 = 1) ∧ wfa 1024 le_201 ∧ wfa 1024 ri_202 ∧ wfa 1024 wo_203 ∧ rng 1024 fr_204 ∧ rng 1024 od_205 ∧ bln ha_206 ∧ wfw 1024 r_207 := hp_208
                          have hP : va_P D classes [((f 4), .inr (2, [.ref (f 5), .ref (f 6), .ref (f 7), .int (nI fs_199), .ref (f 8), .ref (f 9), .ref (f 10), .int tb_200])), ((f 5), .inl (cL, 1024, .inr (.inl le_201))), ((f 6), .inl (cL, 1024, .inr (.inl ri_202))), ((f 7), .inl (cI, 1024, .inl fr_204)), ((f 8), .inl (cI, 1024, .inl od_205)), ((f 9), .inl (cZ, 1024, .inl ha_206)), ((f 10), .inl (cL, 1024, .inr (.inl wo_203)))] H := hP
                          have hD : va_D A [((f 4), .inr (2, [.ref (f 5), .ref (f 6), .ref (f 7), .int (nI fs_199), .ref (f 8), .ref (f 9), .ref (f 10), .int tb_200])), ((f 5), .inl (cL, 1024, .inr (.inl le_201))), ((f 6), .inl (cL, 1024, .inr (.inl ri_202))), ((f 7), .inl (cI, 1024, .inl fr_204)), ((f 8), .inl (cI, 1024, .inl od_205)), ((f 9), .inl (cZ, 1024, .inl ha_206)), ((f 10), .inl (cL, 1024, .inr (.inl wo_203)))] := hD
                          refine W.eq (g2 := F0 m 177 ls [.long r_207]) rfl ?_
                          refine lv_lstore (lv' := [(12, .long r_207), (15, .int 1), (14, .int 0), (10, .long r_169), (9, .int 1), (8, .int 1), (6, .long w_2), (4, .long w_1), (0, .ref (f 4)), (1, .int (nI n)), (2, .long b)]) hx hb d_TM_takeOutOf_177 hl (Nat.le_of_ble_eq_true rfl) rfl (fun ls hl => ?_)
                          refine lv_aload_n hx hb d_TM_takeOutOf_179 rfl (lv_at hl 8 rfl) ?_
                          refine va_get (D := D) (ci := 2) (v := .ref (f 10)) (C := rn_TM) (T := fl_TM) (N := 8) hx hb hG in_TM hown hK hP 0 rfl rfl 6 (by decide) (hG _ k_168) (fun _ h9 => h9) rfl d_TM_takeOutOf_180 ?_
                          refine lv_iload_n hx hb d_TM_takeOutOf_183 rfl (lv_at hl 9 rfl) ?_
                          refine lv_iload hx hb d_TM_takeOutOf_184 (lv_at hl 2 rfl) ?_
                          refine lv_if_eq (tgt := 203) hx hb d_TM_takeOutOf_186 (by decide) (fun hbr => ?_) (fun hbr => absurd (by decide) hbr)
                          refine lv_aload_n hx hb d_TM_takeOutOf_203 rfl (lv_at hl 8 rfl) ?_
                          refine lv_iload_n hx hb d_TM_takeOutOf_204 rfl (lv_at hl 9 rfl) ?_
                          refine lv_lload hx hb d_TM_takeOutOf_205 (lv_at hl 3 rfl) ?_
                          refine lv_lload hx hb d_TM_takeOutOf_207 (lv_at hl 0 rfl) ?_
                          refine lv_iload hx hb d_TM_takeOutOf_209 (lv_at hl 1 rfl) ?_
                          refine em_call (wr := []) (em_runV (As := [.int (nI n), .long r_169, .long r_207, .int 1]) (rest := [.int (nI n), .ref (f 10)]) ⟨hx, hb, hml, hown, hG⟩ (tm_joinVarying l D cI cL cZ cC f fs_199 tb_200 le_201 ri_202 wo_203 fr_204 od_205 ha_206 n r_169 r_207 1 _ (by omega) htb_210 hle_211 hri_212 hwo_213 hfr_214 hod_215 hha_216 (by omega) hp_170 hres_217 hnt) (cwV 4 hG (gd_V k_794 k_796 k_21 k_109 k_797) rfl rfl rfl (by decide +kernel) ⟨Nat.le_of_ble_eq_true rfl, Nat.le_of_ble_eq_true rfl⟩) (tw_V (q0 := 0) hP hD hK hE hst hS rfl rfl [0, 1, 2, 3, 4, 5, 6] rfl (by decide)) rfl rfl hl.1 rfl (lv_room (Nat.le_of_ble_eq_true rfl)) d_TM_takeOutOf_211 ⟨Nat.le_of_ble_eq_true rfl, Nat.le_of_ble_eq_true rfl⟩) hP hD hS hA [0, 1, 2, 3, 4, 5, 6] [] rfl rfl (by decide) (by decide) (fun v u H locs hok hP hD hS => ?_) (fun x C u H locs hbad hxx hP hD hS => ?_)
                          · skip
                            obtain ⟨fs_218, tb_219, le_220, ri_221, wo_222, fr_223, od_224, ha_225⟩ := u
                            obtain ⟨r_226, rfl, hp_227⟩ := hok
                            obtain ⟨hfs_228, htb_229, hle_230, hri_231, hwo_232, hfr_233, hod_234, hha_235, hres_236⟩ : fs_218 ≤ 1024 ∧ (tb_219 = 0 ∨ tb_219 = 1) ∧ wfa 1024 le_220 ∧ wfa 1024 ri_221 ∧ wfa 1024 wo_222 ∧ rng 1024 fr_223 ∧ rng 1024 od_224 ∧ bln ha_225 ∧ wfw 1024 r_226 := hp_227
                            have hP : va_P D classes [((f 4), .inr (2, [.ref (f 5), .ref (f 6), .ref (f 7), .int (nI fs_218), .ref (f 8), .ref (f 9), .ref (f 10), .int tb_219])), ((f 5), .inl (cL, 1024, .inr (.inl le_220))), ((f 6), .inl (cL, 1024, .inr (.inl ri_221))), ((f 7), .inl (cI, 1024, .inl fr_223)), ((f 8), .inl (cI, 1024, .inl od_224)), ((f 9), .inl (cZ, 1024, .inl ha_225)), ((f 10), .inl (cL, 1024, .inr (.inl wo_222)))] H := hP
                            have hD : va_D A [((f 4), .inr (2, [.ref (f 5), .ref (f 6), .ref (f 7), .int (nI fs_218), .ref (f 8), .ref (f 9), .ref (f 10), .int tb_219])), ((f 5), .inl (cL, 1024, .inr (.inl le_220))), ((f 6), .inl (cL, 1024, .inr (.inl ri_221))), ((f 7), .inl (cI, 1024, .inl fr_223)), ((f 8), .inl (cI, 1024, .inl od_224)), ((f 9), .inl (cZ, 1024, .inl ha_225)), ((f 10), .inl (cL, 1024, .inr (.inl wo_222)))] := hD
                            refine W.eq (g2 := F0 m 214 ls [.long r_226, .int (nI n), .ref (f 10)]) rfl ?_
                            refine va_last hx hb hK hP hD hS 6 1 rfl rfl (vp_in_nI (n := n) (N := 1024) (by omega) (by omega)) d_TM_takeOutOf_214 (fun H locs hP hD hS => ?_)
                            have hP : va_P D classes [((f 4), .inr (2, [.ref (f 5), .ref (f 6), .ref (f 7), .int (nI fs_218), .ref (f 8), .ref (f 9), .ref (f 10), .int tb_219])), ((f 5), .inl (cL, 1024, .inr (.inl le_220))), ((f 6), .inl (cL, 1024, .inr (.inl ri_221))), ((f 7), .inl (cI, 1024, .inl fr_223)), ((f 8), .inl (cI, 1024, .inl od_224)), ((f 9), .inl (cZ, 1024, .inl ha_225)), ((f 10), .inl (cL, 1024, .inr (.inl (vp_updL wo_222 (nI n).toNatClampNeg r_226))))] H := hP
                            have hD : va_D A [((f 4), .inr (2, [.ref (f 5), .ref (f 6), .ref (f 7), .int (nI fs_218), .ref (f 8), .ref (f 9), .ref (f 10), .int tb_219])), ((f 5), .inl (cL, 1024, .inr (.inl le_220))), ((f 6), .inl (cL, 1024, .inr (.inl ri_221))), ((f 7), .inl (cI, 1024, .inl fr_223)), ((f 8), .inl (cI, 1024, .inl od_224)), ((f 9), .inl (cZ, 1024, .inl ha_225)), ((f 10), .inl (cL, 1024, .inr (.inl (vp_updL wo_222 (nI n).toNatClampNeg r_226))))] := hD
                            obtain ⟨g_237, eg_237⟩ : ∃ z, z = vp_updL wo_222 (nI n).toNatClampNeg r_226 := ⟨_, rfl⟩
                            rw [← eg_237] at hP hD
                            have hg_237 : wfa 1024 g_237 := by rw [eg_237]; exact wfa_up hwo_232 hres_236
                            exact em_vret hx hb hr hlocks hP hD hK hS (fs_218, tb_219, le_220, ri_221, g_237, fr_223, od_224, ha_225) [0, 1, 2, 3, 4, 5, 6] (by decide) rfl ⟨rfl, ⟨(by omega), htb_229, hle_230, hri_231, hg_237, hfr_233, hod_234, hha_235⟩⟩ d_TM_takeOutOf_215
                          · skip
                            exact hbad.elim
                        · skip
                          exact hbad.elim
                    · skip
                      exact hbad.elim
                  · skip
                    refine W.eq (g2 := F0 m 112 ls [.int 1]) rfl ?_
                    refine lv_if_eq (tgt := 119) hx hb d_TM_takeOutOf_112 (by decide) (fun hbr => absurd hbr (by decide)) (fun hbr => ?_)
                    refine lv_iconst (v := 1) hx hb d_TM_takeOutOf_115 (by decide) ?_
                    refine lv_goto (tgt := 120) hx hb d_TM_takeOutOf_116 (by decide) ?_
                    refine lv_istore (lv' := [(14, .int 1), (12, .long r_171), (10, .long r_169), (9, .int 1), (8, .int 1), (6, .long w_2), (4, .long w_1), (0, .ref (f 4)), (1, .int (nI n)), (2, .long b)]) hx hb d_TM_takeOutOf_120 hl (Nat.le_of_ble_eq_true rfl) rfl (fun ls hl => ?_)
                    refine lv_iload hx hb d_TM_takeOutOf_122 (lv_at hl 3 rfl) ?_
                    refine lv_if_eq (tgt := 136) hx hb d_TM_takeOutOf_124 (by decide) (fun hbr => absurd hbr (by decide)) (fun hbr => ?_)
                    refine lv_aload_n hx hb d_TM_takeOutOf_127 rfl (lv_at hl 7 rfl) ?_
                    refine lv_lload hx hb d_TM_takeOutOf_128 (lv_at hl 1 rfl) ?_
                    refine em_call (wr := []) (em_runV (As := [.long r_171]) (rest := []) ⟨hx, hb, hml, hown, hG⟩ (tm_isK l D cI cL cZ cC f fs tb le ri wo fr od g_166 r_171 _ (by omega) htb hle hri hwo hfr hod hg_166 hp_172 hnt) (cwV 1 hG (gd_V k_774 k_776 k_16 k_109 k_777) rfl rfl rfl (by decide +kernel) ⟨Nat.le_of_ble_eq_true rfl, Nat.le_of_ble_eq_true rfl⟩) (tw_V (q0 := 0) hP hD hK hE hst hS rfl rfl [0, 1, 2, 3, 4, 5, 6] rfl (by decide)) rfl rfl hl.1 rfl (lv_room (Nat.le_of_ble_eq_true rfl)) d_TM_takeOutOf_130 ⟨Nat.le_of_ble_eq_true rfl, Nat.le_of_ble_eq_true rfl⟩) hP hD hS hA [0, 1, 2, 3, 4, 5, 6] [] rfl rfl (by decide) (by decide) (fun v u H locs hok hP hD hS => ?_) (fun x C u H locs hbad hxx hP hD hS => ?_)
                    · skip
                      obtain ⟨r_238, rfl, hp_239⟩ := hok
                      have hp_239 : (r_238 = 0 ∨ (r_238 = 1 ∧ ¬ wcell r_171 = 0)) := hp_239
                      have hP : va_P D classes [((f 4), .inr (2, [.ref (f 5), .ref (f 6), .ref (f 7), .int (nI fs), .ref (f 8), .ref (f 9), .ref (f 10), .int tb])), ((f 5), .inl (cL, 1024, .inr (.inl le))), ((f 6), .inl (cL, 1024, .inr (.inl ri))), ((f 7), .inl (cI, 1024, .inl fr)), ((f 8), .inl (cI, 1024, .inl od)), ((f 9), .inl (cZ, 1024, .inl g_166)), ((f 10), .inl (cL, 1024, .inr (.inl wo)))] H := hP
                      have hD : va_D A [((f 4), .inr (2, [.ref (f 5), .ref (f 6), .ref (f 7), .int (nI fs), .ref (f 8), .ref (f 9), .ref (f 10), .int tb])), ((f 5), .inl (cL, 1024, .inr (.inl le))), ((f 6), .inl (cL, 1024, .inr (.inl ri))), ((f 7), .inl (cI, 1024, .inl fr)), ((f 8), .inl (cI, 1024, .inl od)), ((f 9), .inl (cZ, 1024, .inl g_166)), ((f 10), .inl (cL, 1024, .inr (.inl wo)))] := hD
                      rcases hp_239 with rfl | ⟨rfl, hy_240⟩
                      · skip
                        refine W.eq (g2 := F0 m 133 ls [.int 0]) rfl ?_
                        refine lv_if_eq (tgt := 140) hx hb d_TM_takeOutOf_133 (by decide) (fun hbr => ?_) (fun hbr => absurd (by decide) hbr)
                        refine lv_iconst (v := 0) hx hb d_TM_takeOutOf_140 (by decide) ?_
                        refine lv_istore (lv' := [(15, .int 0), (14, .int 1), (12, .long r_171), (10, .long r_169), (9, .int 1), (8, .int 1), (6, .long w_2), (4, .long w_1), (0, .ref (f 4)), (1, .int (nI n)), (2, .long b)]) hx hb d_TM_takeOutOf_141 hl (Nat.le_of_ble_eq_true rfl) rfl (fun ls hl => ?_)
                        refine lv_iload hx hb d_TM_takeOutOf_143 (lv_at hl 5 rfl) ?_
                        refine lv_if_eq (tgt := 161) hx hb d_TM_takeOutOf_145 (by decide) (fun hbr => absurd hbr (by decide)) (fun hbr => ?_)
                        refine lv_iload hx hb d_TM_takeOutOf_148 (lv_at hl 1 rfl) ?_
                        refine lv_if_eq (tgt := 161) hx hb d_TM_takeOutOf_150 (by decide) (fun hbr => absurd hbr (by decide)) (fun hbr => ?_)
                        refine lv_aload_n hx hb d_TM_takeOutOf_153 rfl (lv_at hl 8 rfl) ?_
                        refine lv_lload hx hb d_TM_takeOutOf_154 (lv_at hl 3 rfl) ?_
                        refine em_call (wr := []) (em_runV (As := [.long r_169]) (rest := []) ⟨hx, hb, hml, hown, hG⟩ (tm_unwrap l D cI cL cZ cC f fs tb le ri wo fr od g_166 r_169 _ (by omega) htb hle hri hwo hfr hod hg_166 hp_170 hy_175 hnt) (cwV 1 hG (gd_V k_778 k_780 k_17 k_109 k_781) rfl rfl rfl (by decide +kernel) ⟨Nat.le_of_ble_eq_true rfl, Nat.le_of_ble_eq_true rfl⟩) (tw_V (q0 := 0) hP hD hK hE hst hS rfl rfl [0, 1, 2, 3, 4, 5, 6] rfl (by decide)) rfl rfl hl.1 rfl (lv_room (Nat.le_of_ble_eq_true rfl)) d_TM_takeOutOf_156 ⟨Nat.le_of_ble_eq_true rfl, Nat.le_of_ble_eq_true rfl⟩) hP hD hS hA [0, 1, 2, 3, 4, 5, 6] [] rfl rfl (by decide) (by decide) (fun v u H locs hok hP hD hS => ?_) (fun x C u H locs hbad hxx hP hD hS => ?_)
                        · skip
                          obtain ⟨fs_241, tb_242, le_243, ri_244, wo_245, fr_246, od_247, ha_248⟩ := u
                          obtain ⟨r_249, rfl, hp_250⟩ := hok
                          obtain ⟨hfs_251, htb_252, hle_253, hri_254, hwo_255, hfr_256, hod_257, hha_258, hres_259⟩ : fs_241 ≤ 1024 ∧ (tb_242 = 0 ∨ tb_242 = 1) ∧ wfa 1024 le_243 ∧ wfa 1024 ri_244 ∧ wfa 1024 wo_245 ∧ rng 1024 fr_246 ∧ rng 1024 od_247 ∧ bln ha_248 ∧ wfw 1024 r_249 := hp_250
                          have hP : va_P D classes [((f 4), .inr (2, [.ref (f 5), .ref (f 6), .ref (f 7), .int (nI fs_241), .ref (f 8), .ref (f 9), .ref (f 10), .int tb_242])), ((f 5), .inl (cL, 1024, .inr (.inl le_243))), ((f 6), .inl (cL, 1024, .inr (.inl ri_244))), ((f 7), .inl (cI, 1024, .inl fr_246)), ((f 8), .inl (cI, 1024, .inl od_247)), ((f 9), .inl (cZ, 1024, .inl ha_248)), ((f 10), .inl (cL, 1024, .inr (.inl wo_245)))] H := hP
                          have hD : va_D A [((f 4), .inr (2, [.ref (f 5), .ref (f 6), .ref (f 7), .int (nI fs_241), .ref (f 8), .ref (f 9), .ref (f 10), .int tb_242])), ((f 5), .inl (cL, 1024, .inr (.inl le_243))), ((f 6), .inl (cL, 1024, .inr (.inl ri_244))), ((f 7), .inl (cI, 1024, .inl fr_246)), ((f 8), .inl (cI, 1024, .inl od_247)), ((f 9), .inl (cZ, 1024, .inl ha_248)), ((f 10), .inl (cL, 1024, .inr (.inl wo_245)))] := hD
                          refine W.eq (g2 := F0 m 159 ls [.long r_249]) rfl ?_
                          refine lv_lstore (lv' := [(10, .long r_249), (15, .int 0), (14, .int 1), (12, .long r_171), (9, .int 1), (8, .int 1), (6, .long w_2), (4, .long w_1), (0, .ref (f 4)), (1, .int (nI n)), (2, .long b)]) hx hb d_TM_takeOutOf_159 hl (Nat.le_of_ble_eq_true rfl) rfl (fun ls hl => ?_)
                          refine lv_iload hx hb d_TM_takeOutOf_161 (lv_at hl 4 rfl) ?_
                          refine lv_if_eq (tgt := 179) hx hb d_TM_takeOutOf_163 (by decide) (fun hbr => absurd hbr (by decide)) (fun hbr => ?_)
                          refine lv_iload hx hb d_TM_takeOutOf_166 (lv_at hl 1 rfl) ?_
                          refine lv_if_eq (tgt := 179) hx hb d_TM_takeOutOf_168 (by decide) (fun hbr => ?_) (fun hbr => absurd (by decide) hbr)
                          refine lv_aload_n hx hb d_TM_takeOutOf_179 rfl (lv_at hl 8 rfl) ?_
                          refine va_get (D := D) (ci := 2) (v := .ref (f 10)) (C := rn_TM) (T := fl_TM) (N := 8) hx hb hG in_TM hown hK hP 0 rfl rfl 6 (by decide) (hG _ k_168) (fun _ h9 => h9) rfl d_TM_takeOutOf_180 ?_
                          refine lv_iload_n hx hb d_TM_takeOutOf_183 rfl (lv_at hl 9 rfl) ?_
                          refine lv_iload hx hb d_TM_takeOutOf_184 (lv_at hl 2 rfl) ?_
                          refine lv_if_eq (tgt := 203) hx hb d_TM_takeOutOf_186 (by decide) (fun hbr => absurd hbr (by decide)) (fun hbr => ?_)
                          refine lv_aload_n hx hb d_TM_takeOutOf_189 rfl (lv_at hl 8 rfl) ?_
                          refine lv_iload_n hx hb d_TM_takeOutOf_190 rfl (lv_at hl 9 rfl) ?_
                          refine lv_lload hx hb d_TM_takeOutOf_191 (lv_at hl 0 rfl) ?_
                          refine lv_lload hx hb d_TM_takeOutOf_193 (lv_at hl 3 rfl) ?_
                          refine lv_iload hx hb d_TM_takeOutOf_195 (lv_at hl 1 rfl) ?_
                          refine em_call (wr := []) (em_runV (As := [.int (nI n), .long r_249, .long r_171, .int 0]) (rest := [.int (nI n), .ref (f 10)]) ⟨hx, hb, hml, hown, hG⟩ (tm_joinConstant l D cI cL cZ cC f fs_241 tb_242 le_243 ri_244 wo_245 fr_246 od_247 ha_248 n r_249 r_171 0 _ (by omega) htb_252 hle_253 hri_254 hwo_255 hfr_256 hod_257 hha_258 (by omega) hres_259 hp_172 hnt) (cwV 4 hG (gd_V k_786 k_788 k_19 k_109 k_789) rfl rfl rfl (by decide +kernel) ⟨Nat.le_of_ble_eq_true rfl, Nat.le_of_ble_eq_true rfl⟩) (tw_V (q0 := 0) hP hD hK hE hst hS rfl rfl [0, 1, 2, 3, 4, 5, 6] rfl (by decide)) rfl rfl hl.1 rfl (lv_room (Nat.le_of_ble_eq_true rfl)) d_TM_takeOutOf_197 ⟨Nat.le_of_ble_eq_true rfl, Nat.le_of_ble_eq_true rfl⟩) hP hD hS hA [0, 1, 2, 3, 4, 5, 6] [] rfl rfl (by decide) (by decide) (fun v u H locs hok hP hD hS => ?_) (fun x C u H locs hbad hxx hP hD hS => ?_)
                          · skip
                            obtain ⟨fs_260, tb_261, le_262, ri_263, wo_264, fr_265, od_266, ha_267⟩ := u
                            obtain ⟨r_268, rfl, hp_269⟩ := hok
                            obtain ⟨hfs_270, htb_271, hle_272, hri_273, hwo_274, hfr_275, hod_276, hha_277, hres_278⟩ : fs_260 ≤ 1024 ∧ (tb_261 = 0 ∨ tb_261 = 1) ∧ wfa 1024 le_262 ∧ wfa 1024 ri_263 ∧ wfa 1024 wo_264 ∧ rng 1024 fr_265 ∧ rng 1024 od_266 ∧ bln ha_267 ∧ wfw 1024 r_268 := hp_269
                            have hP : va_P D classes [((f 4), .inr (2, [.ref (f 5), .ref (f 6), .ref (f 7), .int (nI fs_260), .ref (f 8), .ref (f 9), .ref (f 10), .int tb_261])), ((f 5), .inl (cL, 1024, .inr (.inl le_262))), ((f 6), .inl (cL, 1024, .inr (.inl ri_263))), ((f 7), .inl (cI, 1024, .inl fr_265)), ((f 8), .inl (cI, 1024, .inl od_266)), ((f 9), .inl (cZ, 1024, .inl ha_267)), ((f 10), .inl (cL, 1024, .inr (.inl wo_264)))] H := hP
                            have hD : va_D A [((f 4), .inr (2, [.ref (f 5), .ref (f 6), .ref (f 7), .int (nI fs_260), .ref (f 8), .ref (f 9), .ref (f 10), .int tb_261])), ((f 5), .inl (cL, 1024, .inr (.inl le_262))), ((f 6), .inl (cL, 1024, .inr (.inl ri_263))), ((f 7), .inl (cI, 1024, .inl fr_265)), ((f 8), .inl (cI, 1024, .inl od_266)), ((f 9), .inl (cZ, 1024, .inl ha_267)), ((f 10), .inl (cL, 1024, .inr (.inl wo_264)))] := hD
                            refine W.eq (g2 := F0 m 200 ls [.long r_268, .int (nI n), .ref (f 10)]) rfl ?_
                            refine lv_goto (tgt := 214) hx hb d_TM_takeOutOf_200 (by decide) ?_
                            refine va_last hx hb hK hP hD hS 6 1 rfl rfl (vp_in_nI (n := n) (N := 1024) (by omega) (by omega)) d_TM_takeOutOf_214 (fun H locs hP hD hS => ?_)
                            have hP : va_P D classes [((f 4), .inr (2, [.ref (f 5), .ref (f 6), .ref (f 7), .int (nI fs_260), .ref (f 8), .ref (f 9), .ref (f 10), .int tb_261])), ((f 5), .inl (cL, 1024, .inr (.inl le_262))), ((f 6), .inl (cL, 1024, .inr (.inl ri_263))), ((f 7), .inl (cI, 1024, .inl fr_265)), ((f 8), .inl (cI, 1024, .inl od_266)), ((f 9), .inl (cZ, 1024, .inl ha_267)), ((f 10), .inl (cL, 1024, .inr (.inl (vp_updL wo_264 (nI n).toNatClampNeg r_268))))] H := hP
                            have hD : va_D A [((f 4), .inr (2, [.ref (f 5), .ref (f 6), .ref (f 7), .int (nI fs_260), .ref (f 8), .ref (f 9), .ref (f 10), .int tb_261])), ((f 5), .inl (cL, 1024, .inr (.inl le_262))), ((f 6), .inl (cL, 1024, .inr (.inl ri_263))), ((f 7), .inl (cI, 1024, .inl fr_265)), ((f 8), .inl (cI, 1024, .inl od_266)), ((f 9), .inl (cZ, 1024, .inl ha_267)), ((f 10), .inl (cL, 1024, .inr (.inl (vp_updL wo_264 (nI n).toNatClampNeg r_268))))] := hD
                            obtain ⟨g_279, eg_279⟩ : ∃ z, z = vp_updL wo_264 (nI n).toNatClampNeg r_268 := ⟨_, rfl⟩
                            rw [← eg_279] at hP hD
                            have hg_279 : wfa 1024 g_279 := by rw [eg_279]; exact wfa_up hwo_274 hres_278
                            exact em_vret hx hb hr hlocks hP hD hK hS (fs_260, tb_261, le_262, ri_263, g_279, fr_265, od_266, ha_267) [0, 1, 2, 3, 4, 5, 6] (by decide) rfl ⟨rfl, ⟨(by omega), htb_271, hle_272, hri_273, hg_279, hfr_275, hod_276, hha_277⟩⟩ d_TM_takeOutOf_215
                          · skip
                            exact hbad.elim
                        · skip
                          exact hbad.elim
                      · skip
                        refine W.eq (g2 := F0 m 133 ls [.int 1]) rfl ?_
                        refine lv_if_eq (tgt := 140) hx hb d_TM_takeOutOf_133 (by decide) (fun hbr => absurd hbr (by decide)) (fun hbr => ?_)
                        refine lv_iconst (v := 1) hx hb d_TM_takeOutOf_136 (by decide) ?_
                        refine lv_goto (tgt := 141) hx hb d_TM_takeOutOf_137 (by decide) ?_
                        refine lv_istore (lv' := [(15, .int 1), (14, .int 1), (12, .long r_171), (10, .long r_169), (9, .int 1), (8, .int 1), (6, .long w_2), (4, .long w_1), (0, .ref (f 4)), (1, .int (nI n)), (2, .long b)]) hx hb d_TM_takeOutOf_141 hl (Nat.le_of_ble_eq_true rfl) rfl (fun ls hl => ?_)
                        refine lv_iload hx hb d_TM_takeOutOf_143 (lv_at hl 5 rfl) ?_
                        refine lv_if_eq (tgt := 161) hx hb d_TM_takeOutOf_145 (by decide) (fun hbr => absurd hbr (by decide)) (fun hbr => ?_)
                        refine lv_iload hx hb d_TM_takeOutOf_148 (lv_at hl 1 rfl) ?_
                        refine lv_if_eq (tgt := 161) hx hb d_TM_takeOutOf_150 (by decide) (fun hbr => absurd hbr (by decide)) (fun hbr => ?_)
                        refine lv_aload_n hx hb d_TM_takeOutOf_153 rfl (lv_at hl 8 rfl) ?_
                        refine lv_lload hx hb d_TM_takeOutOf_154 (lv_at hl 3 rfl) ?_
                        refine em_call (wr := []) (em_runV (As := [.long r_169]) (rest := []) ⟨hx, hb, hml, hown, hG⟩ (tm_unwrap l D cI cL cZ cC f fs tb le ri wo fr od g_166 r_169 _ (by omega) htb hle hri hwo hfr hod hg_166 hp_170 hy_175 hnt) (cwV 1 hG (gd_V k_778 k_780 k_17 k_109 k_781) rfl rfl rfl (by decide +kernel) ⟨Nat.le_of_ble_eq_true rfl, Nat.le_of_ble_eq_true rfl⟩) (tw_V (q0 := 0) hP hD hK hE hst hS rfl rfl [0, 1, 2, 3, 4, 5, 6] rfl (by decide)) rfl rfl hl.1 rfl (lv_room (Nat.le_of_ble_eq_true rfl)) d_TM_takeOutOf_156 ⟨Nat.le_of_ble_eq_true rfl, Nat.le_of_ble_eq_true rfl⟩) hP hD hS hA [0, 1, 2, 3, 4, 5, 6] [] rfl rfl (by decide) (by decide) (fun v u H locs hok hP hD hS => ?_) (fun x C u H locs hbad hxx hP hD hS => ?_)
                        · skip
                          obtain ⟨fs_280, tb_281, le_282, ri_283, wo_284, fr_285, od_286, ha_287⟩ := u
                          obtain ⟨r_288, rfl, hp_289⟩ := hok
                          obtain ⟨hfs_290, htb_291, hle_292, hri_293, hwo_294, hfr_295, hod_296, hha_297, hres_298⟩ : fs_280 ≤ 1024 ∧ (tb_281 = 0 ∨ tb_281 = 1) ∧ wfa 1024 le_282 ∧ wfa 1024 ri_283 ∧ wfa 1024 wo_284 ∧ rng 1024 fr_285 ∧ rng 1024 od_286 ∧ bln ha_287 ∧ wfw 1024 r_288 := hp_289
                          have hP : va_P D classes [((f 4), .inr (2, [.ref (f 5), .ref (f 6), .ref (f 7), .int (nI fs_280), .ref (f 8), .ref (f 9), .ref (f 10), .int tb_281])), ((f 5), .inl (cL, 1024, .inr (.inl le_282))), ((f 6), .inl (cL, 1024, .inr (.inl ri_283))), ((f 7), .inl (cI, 1024, .inl fr_285)), ((f 8), .inl (cI, 1024, .inl od_286)), ((f 9), .inl (cZ, 1024, .inl ha_287)), ((f 10), .inl (cL, 1024, .inr (.inl wo_284)))] H := hP
                          have hD : va_D A [((f 4), .inr (2, [.ref (f 5), .ref (f 6), .ref (f 7), .int (nI fs_280), .ref (f 8), .ref (f 9), .ref (f 10), .int tb_281])), ((f 5), .inl (cL, 1024, .inr (.inl le_282))), ((f 6), .inl (cL, 1024, .inr (.inl ri_283))), ((f 7), .inl (cI, 1024, .inl fr_285)), ((f 8), .inl (cI, 1024, .inl od_286)), ((f 9), .inl (cZ, 1024, .inl ha_287)), ((f 10), .inl (cL, 1024, .inr (.inl wo_284)))] := hD
                          refine W.eq (g2 := F0 m 159 ls [.long r_288]) rfl ?_
                          refine lv_lstore (lv' := [(10, .long r_288), (15, .int 1), (14, .int 1), (12, .long r_171), (9, .int 1), (8, .int 1), (6, .long w_2), (4, .long w_1), (0, .ref (f 4)), (1, .int (nI n)), (2, .long b)]) hx hb d_TM_takeOutOf_159 hl (Nat.le_of_ble_eq_true rfl) rfl (fun ls hl => ?_)
                          refine lv_iload hx hb d_TM_takeOutOf_161 (lv_at hl 4 rfl) ?_
                          refine lv_if_eq (tgt := 179) hx hb d_TM_takeOutOf_163 (by decide) (fun hbr => absurd hbr (by decide)) (fun hbr => ?_)
                          refine lv_iload hx hb d_TM_takeOutOf_166 (lv_at hl 1 rfl) ?_
                          refine lv_if_eq (tgt := 179) hx hb d_TM_takeOutOf_168 (by decide) (fun hbr => absurd hbr (by decide)) (fun hbr => ?_)
                          refine lv_aload_n hx hb d_TM_takeOutOf_171 rfl (lv_at hl 8 rfl) ?_
                          refine lv_lload hx hb d_TM_takeOutOf_172 (lv_at hl 3 rfl) ?_
                          refine em_call (wr := []) (em_runV (As := [.long r_171]) (rest := []) ⟨hx, hb, hml, hown, hG⟩ (tm_unwrap l D cI cL cZ cC f fs_280 tb_281 le_282 ri_283 wo_284 fr_285 od_286 ha_287 r_171 _ (by omega) htb_291 hle_292 hri_293 hwo_294 hfr_295 hod_296 hha_297 hp_172 hy_240 hnt) (cwV 1 hG (gd_V k_778 k_780 k_17 k_109 k_781) rfl rfl rfl (by decide +kernel) ⟨Nat.le_of_ble_eq_true rfl, Nat.le_of_ble_eq_true rfl⟩) (tw_V (q0 := 0) hP hD hK hE hst hS rfl rfl [0, 1, 2, 3, 4, 5, 6] rfl (by decide)) rfl rfl hl.1 rfl (lv_room (Nat.le_of_ble_eq_true rfl)) d_TM_takeOutOf_174 ⟨Nat.le_of_ble_eq_true rfl, Nat.le_of_ble_eq_true rfl⟩) hP hD hS hA [0, 1, 2, 3, 4, 5, 6] [] rfl rfl (by decide) (by decide) (fun v u H locs hok hP hD hS => ?_) (fun x C u H locs hbad hxx hP hD hS => ?_)
                          · skip
                            obtain ⟨fs_299, tb_300, le_301, ri_302, wo_303, fr_304, od_305, ha_306⟩ := u
                            obtain ⟨r_307, rfl, hp_308⟩ := hok
                            obtain ⟨hfs_309, htb_310, hle_311, hri_312, hwo_313, hfr_314, hod_315, hha_316, hres_317⟩ : fs_299 ≤ 1024 ∧ (tb_300 = 0 ∨ tb_300 = 1) ∧ wfa 1024 le_301 ∧ wfa 1024 ri_302 ∧ wfa 1024 wo_303 ∧ rng 1024 fr_304 ∧ rng 1024 od_305 ∧ bln ha_306 ∧ wfw 1024 r_307 := hp_308
                            have hP : va_P D classes [((f 4), .inr (2, [.ref (f 5), .ref (f 6), .ref (f 7), .int (nI fs_299), .ref (f 8), .ref (f 9), .ref (f 10), .int tb_300])), ((f 5), .inl (cL, 1024, .inr (.inl le_301))), ((f 6), .inl (cL, 1024, .inr (.inl ri_302))), ((f 7), .inl (cI, 1024, .inl fr_304)), ((f 8), .inl (cI, 1024, .inl od_305)), ((f 9), .inl (cZ, 1024, .inl ha_306)), ((f 10), .inl (cL, 1024, .inr (.inl wo_303)))] H := hP
                            have hD : va_D A [((f 4), .inr (2, [.ref (f 5), .ref (f 6), .ref (f 7), .int (nI fs_299), .ref (f 8), .ref (f 9), .ref (f 10), .int tb_300])), ((f 5), .inl (cL, 1024, .inr (.inl le_301))), ((f 6), .inl (cL, 1024, .inr (.inl ri_302))), ((f 7), .inl (cI, 1024, .inl fr_304)), ((f 8), .inl (cI, 1024, .inl od_305)), ((f 9), .inl (cZ, 1024, .inl ha_306)), ((f 10), .inl (cL, 1024, .inr (.inl wo_303)))] := hD
                            refine W.eq (g2 := F0 m 177 ls [.long r_307]) rfl ?_
                            refine lv_lstore (lv' := [(12, .long r_307), (10, .long r_288), (15, .int 1), (14, .int 1), (9, .int 1), (8, .int 1), (6, .long w_2), (4, .long w_1), (0, .ref (f 4)), (1, .int (nI n)), (2, .long b)]) hx hb d_TM_takeOutOf_177 hl (Nat.le_of_ble_eq_true rfl) rfl (fun ls hl => ?_)
                            refine lv_aload_n hx hb d_TM_takeOutOf_179 rfl (lv_at hl 8 rfl) ?_
                            refine va_get (D := D) (ci := 2) (v := .ref (f 10)) (C := rn_TM) (T := fl_TM) (N := 8) hx hb hG in_TM hown hK hP 0 rfl rfl 6 (by decide) (hG _ k_168) (fun _ h9 => h9) rfl d_TM_takeOutOf_180 ?_
                            refine lv_iload_n hx hb d_TM_takeOutOf_183 rfl (lv_at hl 9 rfl) ?_
                            refine lv_iload hx hb d_TM_takeOutOf_184 (lv_at hl 3 rfl) ?_
                            refine lv_if_eq (tgt := 203) hx hb d_TM_takeOutOf_186 (by decide) (fun hbr => absurd hbr (by decide)) (fun hbr => ?_)
                            refine lv_aload_n hx hb d_TM_takeOutOf_189 rfl (lv_at hl 8 rfl) ?_
                            refine lv_iload_n hx hb d_TM_takeOutOf_190 rfl (lv_at hl 9 rfl) ?_
                            refine lv_lload hx hb d_TM_takeOutOf_191 (lv_at hl 1 rfl) ?_
                            refine lv_lload hx hb d_TM_takeOutOf_193 (lv_at hl 0 rfl) ?_
                            refine lv_iload hx hb d_TM_takeOutOf_195 (lv_at hl 2 rfl) ?_
                            refine em_call (wr := []) (em_runV (As := [.int (nI n), .long r_288, .long r_307, .int 1]) (rest := [.int (nI n), .ref (f 10)]) ⟨hx, hb, hml, hown, hG⟩ (tm_joinConstant l D cI cL cZ cC f fs_299 tb_300 le_301 ri_302 wo_303 fr_304 od_305 ha_306 n r_288 r_307 1 _ (by omega) htb_310 hle_311 hri_312 hwo_313 hfr_314 hod_315 hha_316 (by omega) hres_298 hres_317 hnt) (cwV 4 hG (gd_V k_786 k_788 k_19 k_109 k_789) rfl rfl rfl (by decide +kernel) ⟨Nat.le_of_ble_eq_true rfl, Nat.le_of_ble_eq_true rfl⟩) (tw_V (q0 := 0) hP hD hK hE hst hS rfl rfl [0, 1, 2, 3, 4, 5, 6] rfl (by decide)) rfl rfl hl.1 rfl (lv_room (Nat.le_of_ble_eq_true rfl)) d_TM_takeOutOf_197 ⟨Nat.le_of_ble_eq_true rfl, Nat.le_of_ble_eq_true rfl⟩) hP hD hS hA [0, 1, 2, 3, 4, 5, 6] [] rfl rfl (by decide) (by decide) (fun v u H locs hok hP hD hS => ?_) (fun x C u H locs hbad hxx hP hD hS => ?_)
                            · skip
                              obtain ⟨fs_318, tb_319, le_320, ri_321, wo_322, fr_323, od_324, ha_325⟩ := u
                              obtain ⟨r_326, rfl, hp_327⟩ := hok
                              obtain ⟨hfs_328, htb_329, hle_330, hri_331, hwo_332, hfr_333, hod_334, hha_335, hres_336⟩ : fs_318 ≤ 1024 ∧ (tb_319 = 0 ∨ tb_319 = 1) ∧ wfa 1024 le_320 ∧ wfa 1024 ri_321 ∧ wfa 1024 wo_322 ∧ rng 1024 fr_323 ∧ rng 1024 od_324 ∧ bln ha_325 ∧ wfw 1024 r_326 := hp_327
                              have hP : va_P D classes [((f 4), .inr (2, [.ref (f 5), .ref (f 6), .ref (f 7), .int (nI fs_318), .ref (f 8), .ref (f 9), .ref (f 10), .int tb_319])), ((f 5), .inl (cL, 1024, .inr (.inl le_320))), ((f 6), .inl (cL, 1024, .inr (.inl ri_321))), ((f 7), .inl (cI, 1024, .inl fr_323)), ((f 8), .inl (cI, 1024, .inl od_324)), ((f 9), .inl (cZ, 1024, .inl ha_325)), ((f 10), .inl (cL, 1024, .inr (.inl wo_322)))] H := hP
                              have hD : va_D A [((f 4), .inr (2, [.ref (f 5), .ref (f 6), .ref (f 7), .int (nI fs_318), .ref (f 8), .ref (f 9), .ref (f 10), .int tb_319])), ((f 5), .inl (cL, 1024, .inr (.inl le_320))), ((f 6), .inl (cL, 1024, .inr (.inl ri_321))), ((f 7), .inl (cI, 1024, .inl fr_323)), ((f 8), .inl (cI, 1024, .inl od_324)), ((f 9), .inl (cZ, 1024, .inl ha_325)), ((f 10), .inl (cL, 1024, .inr (.inl wo_322)))] := hD
                              refine W.eq (g2 := F0 m 200 ls [.long r_326, .int (nI n), .ref (f 10)]) rfl ?_
                              refine lv_goto (tgt := 214) hx hb d_TM_takeOutOf_200 (by decide) ?_
                              refine va_last hx hb hK hP hD hS 6 1 rfl rfl (vp_in_nI (n := n) (N := 1024) (by omega) (by omega)) d_TM_takeOutOf_214 (fun H locs hP hD hS => ?_)
                              have hP : va_P D classes [((f 4), .inr (2, [.ref (f 5), .ref (f 6), .ref (f 7), .int (nI fs_318), .ref (f 8), .ref (f 9), .ref (f 10), .int tb_319])), ((f 5), .inl (cL, 1024, .inr (.inl le_320))), ((f 6), .inl (cL, 1024, .inr (.inl ri_321))), ((f 7), .inl (cI, 1024, .inl fr_323)), ((f 8), .inl (cI, 1024, .inl od_324)), ((f 9), .inl (cZ, 1024, .inl ha_325)), ((f 10), .inl (cL, 1024, .inr (.inl (vp_updL wo_322 (nI n).toNatClampNeg r_326))))] H := hP
                              have hD : va_D A [((f 4), .inr (2, [.ref (f 5), .ref (f 6), .ref (f 7), .int (nI fs_318), .ref (f 8), .ref (f 9), .ref (f 10), .int tb_319])), ((f 5), .inl (cL, 1024, .inr (.inl le_320))), ((f 6), .inl (cL, 1024, .inr (.inl ri_321))), ((f 7), .inl (cI, 1024, .inl fr_323)), ((f 8), .inl (cI, 1024, .inl od_324)), ((f 9), .inl (cZ, 1024, .inl ha_325)), ((f 10), .inl (cL, 1024, .inr (.inl (vp_updL wo_322 (nI n).toNatClampNeg r_326))))] := hD
                              obtain ⟨g_337, eg_337⟩ : ∃ z, z = vp_updL wo_322 (nI n).toNatClampNeg r_326 := ⟨_, rfl⟩
                              rw [← eg_337] at hP hD
                              have hg_337 : wfa 1024 g_337 := by rw [eg_337]; exact wfa_up hwo_332 hres_336
                              exact em_vret hx hb hr hlocks hP hD hK hS (fs_318, tb_319, le_320, ri_321, g_337, fr_323, od_324, ha_325) [0, 1, 2, 3, 4, 5, 6] (by decide) rfl ⟨rfl, ⟨(by omega), htb_329, hle_330, hri_331, hg_337, hfr_333, hod_334, hha_335⟩⟩ d_TM_takeOutOf_215
                            · skip
                              exact hbad.elim
                          · skip
                            exact hbad.elim
                        · skip
                          exact hbad.elim
                    · skip
                      exact hbad.elim
                · skip
                  exact hbad.elim
              · skip
                exact hbad.elim
            · skip
              exact hbad.elim
          · skip
            exact em_vret hx hb hr hlocks hP hD hK hS (fs, tb, le, ri, wo, fr, od, g_166) [0, 1, 2, 3, 4, 5, 6] (by decide) rfl ⟨rfl, ⟨(by omega), htb, hle, hri, hwo, hfr, hod, hg_166⟩⟩ d_TM_takeOutOf_64
      · skip
        exact hbad.elim
  · skip
    exact hbad.elim
set_option maxHeartbeats 8000000 in
set_option maxRecDepth 100000 in
theorem tm_takeOut (l : Launch) (D : va_G) (cI cL cZ cC : ClassId) (f : Nat → Nat) (fs : Nat) (tb : Int32) (le : Nat → Int64) (ri : Nat → Int64) (wo : Nat → Int64) (fr : Nat → Int32) (od : Nat → Int32) (ha : Nat → Int32) (nm : Int32) (a : Int64) (sz : Nat) (hfs : fs ≤ 1024) (htb : (tb = 0 ∨ tb = 1)) (hle : wfa 1024 le) (hri : wfa 1024 ri) (hwo : wfa 1024 wo) (hfr : rng 1024 fr) (hod : rng 1024 od) (hha : bln ha) (hwa : wfw 1024 a) (hnt : l.stackTraces = false) : em_Met l y_TM_takeOut (wz y_TM_takeOut b_TM_takeOut 9 (some .long)) ({ frames := 4, cells := 0, slots := 0, locals := 110 }) (va_Pc [.ref (f 4), .int nm, .long a] (tw_pre D (tys4 cI cL cZ cC) [((f 4), .inr (2, [.ref (f 5), .ref (f 6), .ref (f 7), .int (nI fs), .ref (f 8), .ref (f 9), .ref (f 10), .int tb])), ((f 5), .inl (cL, 1024, .inr (.inl le))), ((f 6), .inl (cL, 1024, .inr (.inl ri))), ((f 7), .inl (cI, 1024, .inl fr)), ((f 8), .inl (cI, 1024, .inl od)), ((f 9), .inl (cZ, 1024, .inl ha)), ((f 10), .inl (cL, 1024, .inr (.inl wo)))] sz)) D (tys4 cI cL cZ cC) (va_A [((f 4), .inr (2, [.ref (f 5), .ref (f 6), .ref (f 7), .int (nI fs), .ref (f 8), .ref (f 9), .ref (f 10), .int tb])), ((f 5), .inl (cL, 1024, .inr (.inl le))), ((f 6), .inl (cL, 1024, .inr (.inl ri))), ((f 7), .inl (cI, 1024, .inl fr)), ((f 8), .inl (cI, 1024, .inl od)), ((f 9), .inl (cZ, 1024, .inl ha)), ((f 10), .inl (cL, 1024, .inr (.inl wo)))] sz) (fun (u : Nat × Int32 × (Nat → Int64) × (Nat → Int64) × (Nat → Int64) × (Nat → Int32) × (Nat → Int32) × (Nat → Int32)) => [((f 4), .inr (2, [.ref (f 5), .ref (f 6), .ref (f 7), .int (nI u.1), .ref (f 8), .ref (f 9), .ref (f 10), .int u.2.1])), ((f 5), .inl (cL, 1024, .inr (.inl u.2.2.1))), ((f 6), .inl (cL, 1024, .inr (.inl u.2.2.2.1))), ((f 7), .inl (cI, 1024, .inl u.2.2.2.2.2.1)), ((f 8), .inl (cI, 1024, .inl u.2.2.2.2.2.2.1)), ((f 9), .inl (cZ, 1024, .inl u.2.2.2.2.2.2.2)), ((f 10), .inl (cL, 1024, .inr (.inl u.2.2.2.2.1)))]) (fun v (u : Nat × Int32 × (Nat → Int64) × (Nat → Int64) × (Nat → Int64) × (Nat → Int32) × (Nat → Int32) × (Nat → Int32)) => ∃ r : Int64, v = some (.long r) ∧ (u.1 ≤ 1024 ∧ (u.2.1 = 0 ∨ u.2.1 = 1) ∧ wfa 1024 u.2.2.1 ∧ wfa 1024 u.2.2.2.1 ∧ wfa 1024 u.2.2.2.2.1 ∧ rng 1024 u.2.2.2.2.2.1 ∧ rng 1024 u.2.2.2.2.2.2.1 ∧ bln u.2.2.2.2.2.2.2 ∧ wfw 1024 r)) (fun C (u : Nat × Int32 × (Nat → Int64) × (Nat → Int64) × (Nat → Int64) × (Nat → Int32) × (Nat → Int32) × (Nat → Int32)) => False) 0 0 := by
  refine em_Met.ofW (cc := b_TM_takeOut) (maxL := 9) (ret := (some .long)) (by decide) rfl ?_
  intro p e s m args below meth c s₁ B hml hv hno
  obtain ⟨rfl, ⟨hsz, hP, hK, hD0⟩, hE⟩ := hv
  have hx := B.exec
  have hb := B.bytes
  have hr := B.returns
  have hts := atoms_spec (ws := wz y_TM_takeOut b_TM_takeOut 9 (some .long)) B.pre
  have hG := wz_G hts
  have hown : s.vm.findClass rn_TM = some m.cls := findClass_of_methodNamed B.named
  have hlocks := B.notSynchronized
  subst hsz
  have hD := hD0.self (sz := s.heap.size)
  have hst := tw_st hP
  generalize hAe : va_A [((f 4), .inr (2, [.ref (f 5), .ref (f 6), .ref (f 7), .int (nI fs), .ref (f 8), .ref (f 9), .ref (f 10), .int tb])), ((f 5), .inl (cL, 1024, .inr (.inl le))), ((f 6), .inl (cL, 1024, .inr (.inl ri))), ((f 7), .inl (cI, 1024, .inl fr)), ((f 8), .inl (cI, 1024, .inl od)), ((f 9), .inl (cZ, 1024, .inl ha)), ((f 10), .inl (cL, 1024, .inr (.inl wo)))] s.heap.size = A at hD hst ⊢
  have hA : ∀ q : Nat, s.heap.size ≤ q → A q := fun q h => by rw [← hAe]; exact Or.inr h
  have hS : va_S A s.heap s.heap [] := va_S.rf
  have hl := lv_entry ([.ref (f 4), .int nm, .long a]) (n := 9) (Nat.le_of_ble_eq_true rfl)
  rw [lg_entry_eq]
  generalize (lg_sl ([.ref (f 4), .int nm, .long a]) ++ List.replicate (9 - (lg_sl ([.ref (f 4), .int nm, .long a])).length) Slot.unset).toArray = ls at hl ⊢
  have hl : lv_has ls 9 [(0, .ref (f 4)), (1, .int nm), (2, .long a)] := hl
  have loop_2 : ∀ (k_1 : Nat) (k : Nat) (fs1 : Nat) (tb1 : Int32) (le1 : Nat → Int64) (ri1 : Nat → Int64) (wo1 : Nat → Int64) (fr1 : Nat → Int32) (od1 : Nat → Int32) (ha1 : Nat → Int32) (H : Heap) (locs : List Loc) (ls : Array Slot), k < k_1 → (k ≤ 1024) → (fs1 ≤ 1024) → ((tb1 = 0 ∨ tb1 = 1)) → (wfa 1024 le1) → (wfa 1024 ri1) → (wfa 1024 wo1) → (rng 1024 fr1) → (rng 1024 od1) → (bln ha1) → lv_has ls 9 [(0, .ref (f 4)), (2, .long a), (4, .long (wof 24 nm)), (7, .int (nI k - 1))] → va_P D classes [((f 4), .inr (2, [.ref (f 5), .ref (f 6), .ref (f 7), .int (nI fs1), .ref (f 8), .ref (f 9), .ref (f 10), .int tb1])), ((f 5), .inl (cL, 1024, .inr (.inl le1))), ((f 6), .inl (cL, 1024, .inr (.inl ri1))), ((f 7), .inl (cI, 1024, .inl fr1)), ((f 8), .inl (cI, 1024, .inl od1)), ((f 9), .inl (cZ, 1024, .inl ha1)), ((f 10), .inl (cL, 1024, .inr (.inl wo1)))] H → va_D A [((f 4), .inr (2, [.ref (f 5), .ref (f 6), .ref (f 7), .int (nI fs1), .ref (f 8), .ref (f 9), .ref (f 10), .int tb1])), ((f 5), .inl (cL, 1024, .inr (.inl le1))), ((f 6), .inl (cL, 1024, .inr (.inl ri1))), ((f 7), .inl (cI, 1024, .inl fr1)), ((f 8), .inl (cI, 1024, .inl od1)), ((f 9), .inl (cZ, 1024, .inl ha1)), ((f 10), .inl (cL, 1024, .inr (.inl wo1)))] → va_S A s.heap H locs → W p l e (headSpec (wz y_TM_takeOut b_TM_takeOut 9 (some .long)) ({ frames := 4, cells := 0, slots := 0, locals := 110 })).room s m ([.ref (f 4), .int nm, .long a] : List Value).toArray below meth c H locs 0 0 (em_MQ below D (tys4 cI cL cZ cC) A (fun (u : Nat × Int32 × (Nat → Int64) × (Nat → Int64) × (Nat → Int64) × (Nat → Int32) × (Nat → Int32) × (Nat → Int32)) => [((f 4), .inr (2, [.ref (f 5), .ref (f 6), .ref (f 7), .int (nI u.1), .ref (f 8), .ref (f 9), .ref (f 10), .int u.2.1])), ((f 5), .inl (cL, 1024, .inr (.inl u.2.2.1))), ((f 6), .inl (cL, 1024, .inr (.inl u.2.2.2.1))), ((f 7), .inl (cI, 1024, .inl u.2.2.2.2.2.1)), ((f 8), .inl (cI, 1024, .inl u.2.2.2.2.2.2.1)), ((f 9), .inl (cZ, 1024, .inl u.2.2.2.2.2.2.2)), ((f 10), .inl (cL, 1024, .inr (.inl u.2.2.2.2.1)))]) (fun v (u : Nat × Int32 × (Nat → Int64) × (Nat → Int64) × (Nat → Int64) × (Nat → Int32) × (Nat → Int32) × (Nat → Int32)) => ∃ r : Int64, v = some (.long r) ∧ (u.1 ≤ 1024 ∧ (u.2.1 = 0 ∨ u.2.1 = 1) ∧ wfa 1024 u.2.2.1 ∧ wfa 1024 u.2.2.2.1 ∧ wfa 1024 u.2.2.2.2.1 ∧ rng 1024 u.2.2.2.2.2.1 ∧ rng 1024 u.2.2.2.2.2.2.1 ∧ bln u.2.2.2.2.2.2.2 ∧ wfw 1024 r)) (fun C (u : Nat × Int32 × (Nat → Int64) × (Nat → Int64) × (Nat → Int64) × (Nat → Int32) × (Nat → Int32) × (Nat → Int32)) => False) s 0 0) (F0 m 30 ls []) := by
    intro k_1
    induction k_1 with
    | zero => intro k fs1 tb1 le1 ri1 wo1 fr1 od1 ha1 H locs ls hm; exact absurd hm (Nat.not_lt_zero _)
    | succ k_1 ih_3 =>
      intro k fs1 tb1 le1 ri1 wo1 fr1 od1 ha1 H locs ls hm hk hfs1 htb1 hle1 hri1 hwo1 hfr1 hod1 hha1 hl hP hD hS
      refine lv_iload hx hb d_TM_takeOut_30 (lv_at hl 3 rfl) ?_
      refine lv_if_lt (tgt := 61) hx hb d_TM_takeOut_32 (by decide) (fun hb_4 => ?_) (fun hb_4 => ?_)
      · skip
        refine lv_aload_n hx hb d_TM_takeOut_61 rfl (lv_at hl 0 rfl) ?_
        refine lv_lload_n hx hb d_TM_takeOut_62 rfl (lv_at hl 1 rfl) ?_
        refine lv_lload hx hb d_TM_takeOut_63 (lv_at hl 2 rfl) ?_
        refine em_call (wr := []) (em_runV (As := [.long a, .long (wof 24 nm)]) (rest := []) ⟨hx, hb, hml, hown, hG⟩ (tm_hasName l D cI cL cZ cC f fs1 tb1 le1 ri1 wo1 fr1 od1 ha1 a (wof 24 nm) _ (by omega) htb1 hle1 hri1 hwo1 hfr1 hod1 hha1 hwa hnt) (cwV 2 hG (gd_V k_766 k_768 k_14 k_109 k_769) rfl rfl rfl (by decide +kernel) ⟨Nat.le_of_ble_eq_true rfl, Nat.le_of_ble_eq_true rfl⟩) (tw_V (q0 := 0) hP hD hK hE hst hS rfl rfl [0, 1, 2, 3, 4, 5, 6] rfl (by decide)) rfl rfl hl.1 rfl (lv_room (Nat.le_of_ble_eq_true rfl)) d_TM_takeOut_65 ⟨Nat.le_of_ble_eq_true rfl, Nat.le_of_ble_eq_true rfl⟩) hP hD hS hA [0, 1, 2, 3, 4, 5, 6] [] rfl rfl (by decide) (by decide) (fun v u H locs hok hP hD hS => ?_) (fun x C u H locs hbad hxx hP hD hS => ?_)
        · skip
          obtain ⟨r_5, rfl, hp_6⟩ := hok
          have hp_6 : (r_5 = 0 ∨ r_5 = 1) := hp_6
          have hP : va_P D classes [((f 4), .inr (2, [.ref (f 5), .ref (f 6), .ref (f 7), .int (nI fs1), .ref (f 8), .ref (f 9), .ref (f 10), .int tb1])), ((f 5), .inl (cL, 1024, .inr (.inl le1))), ((f 6), .inl (cL, 1024, .inr (.inl ri1))), ((f 7), .inl (cI, 1024, .inl fr1)), ((f 8), .inl (cI, 1024, .inl od1)), ((f 9), .inl (cZ, 1024, .inl ha1)), ((f 10), .inl (cL, 1024, .inr (.inl wo1)))] H := hP
          have hD : va_D A [((f 4), .inr (2, [.ref (f 5), .ref (f 6), .ref (f 7), .int (nI fs1), .ref (f 8), .ref (f 9), .ref (f 10), .int tb1])), ((f 5), .inl (cL, 1024, .inr (.inl le1))), ((f 6), .inl (cL, 1024, .inr (.inl ri1))), ((f 7), .inl (cI, 1024, .inl fr1)), ((f 8), .inl (cI, 1024, .inl od1)), ((f 9), .inl (cZ, 1024, .inl ha1)), ((f 10), .inl (cL, 1024, .inr (.inl wo1)))] := hD
          rcases hp_6 with rfl | rfl
          · skip
            refine W.eq (g2 := F0 m 68 ls [.int 0]) rfl ?_
            refine lv_if_eq (tgt := 79) hx hb d_TM_takeOut_68 (by decide) (fun hbr => ?_) (fun hbr => absurd (by decide) hbr)
            refine lv_aload_n hx hb d_TM_takeOut_79 rfl (lv_at hl 0 rfl) ?_
            refine lv_iconst (v := 3) hx hb d_TM_takeOut_80 (by decide) ?_
            refine W.callRL (W.runS (As := [.int 3]) (rest := [.ref (f 4)]) ⟨hx, hb, hml, hown, hG⟩ (wd_constant l D cI cL cZ cC 3 ) (va_cwS 1 hG (gd_T k_728 k_729 k_127 k_730) rfl rfl rfl (by decide +kernel) ⟨Nat.le_of_ble_eq_true rfl, Nat.le_of_ble_eq_true rfl⟩) (wq_S hP hK [] rfl) rfl rfl hl.1 rfl (lv_room (Nat.le_of_ble_eq_true rfl)) d_TM_takeOut_81 ⟨Nat.le_of_ble_eq_true rfl, Nat.le_of_ble_eq_true rfl⟩) ?_
            refine W.eq (g2 := F0 m 84 ls [.long (wcon 3), .ref (f 4)]) rfl ?_
            refine lv_lload_n hx hb d_TM_takeOut_84 rfl (lv_at hl 1 rfl) ?_
            refine em_call (wr := []) (em_runV (As := [.long (wcon 3), .long a]) (rest := []) ⟨hx, hb, hml, hown, hG⟩ (tm_apply l D cI cL cZ cC f fs1 tb1 le1 ri1 wo1 fr1 od1 ha1 (wcon 3) a _ (by omega) htb1 hle1 hri1 hwo1 hfr1 hod1 hha1 (wfw_con (by decide)) hwa hnt) (cwV 2 hG (gd_V k_731 k_732 k_733 k_109 k_734) rfl rfl rfl (by decide +kernel) ⟨Nat.le_of_ble_eq_true rfl, Nat.le_of_ble_eq_true rfl⟩) (tw_V (q0 := 0) hP hD hK hE hst hS rfl rfl [0, 1, 2, 3, 4, 5, 6] rfl (by decide)) rfl rfl hl.1 rfl (lv_room (Nat.le_of_ble_eq_true rfl)) d_TM_takeOut_85 ⟨Nat.le_of_ble_eq_true rfl, Nat.le_of_ble_eq_true rfl⟩) hP hD hS hA [0, 1, 2, 3, 4, 5, 6] [] rfl rfl (by decide) (by decide) (fun v u H locs hok hP hD hS => ?_) (fun x C u H locs hbad hxx hP hD hS => ?_)
            · skip
              obtain ⟨fs_7, tb_8, le_9, ri_10, wo_11, fr_12, od_13, ha_14⟩ := u
              obtain ⟨r_15, rfl, hp_16⟩ := hok
              obtain ⟨hfs_17, htb_18, hle_19, hri_20, hwo_21, hfr_22, hod_23, hha_24, hres_25⟩ : fs_7 ≤ 1024 ∧ (tb_8 = 0 ∨ tb_8 = 1) ∧ wfa 1024 le_9 ∧ wfa 1024 ri_10 ∧ wfa 1024 wo_11 ∧ rng 1024 fr_12 ∧ rng 1024 od_13 ∧ bln ha_14 ∧ wfw 1024 r_15 := hp_16
              have hP : va_P D classes [((f 4), .inr (2, [.ref (f 5), .ref (f 6), .ref (f 7), .int (nI fs_7), .ref (f 8), .ref (f 9), .ref (f 10), .int tb_8])), ((f 5), .inl (cL, 1024, .inr (.inl le_9))), ((f 6), .inl (cL, 1024, .inr (.inl ri_10))), ((f 7), .inl (cI, 1024, .inl fr_12)), ((f 8), .inl (cI, 1024, .inl od_13)), ((f 9), .inl (cZ, 1024, .inl ha_14)), ((f 10), .inl (cL, 1024, .inr (.inl wo_11)))] H := hP
              have hD : va_D A [((f 4), .inr (2, [.ref (f 5), .ref (f 6), .ref (f 7), .int (nI fs_7), .ref (f 8), .ref (f 9), .ref (f 10), .int tb_8])), ((f 5), .inl (cL, 1024, .inr (.inl le_9))), ((f 6), .inl (cL, 1024, .inr (.inl ri_10))), ((f 7), .inl (cI, 1024, .inl fr_12)), ((f 8), .inl (cI, 1024, .inl od_13)), ((f 9), .inl (cZ, 1024, .inl ha_14)), ((f 10), .inl (cL, 1024, .inr (.inl wo_11)))] := hD
              refine W.eq (g2 := F0 m 88 ls [.long r_15]) rfl ?_
              refine lv_lstore (lv' := [(7, .long r_15), (0, .ref (f 4)), (2, .long a), (4, .long (wof 24 nm))]) hx hb d_TM_takeOut_88 hl (Nat.le_of_ble_eq_true rfl) rfl (fun ls hl => ?_)
              refine lv_aload_n hx hb d_TM_takeOut_90 rfl (lv_at hl 1 rfl) ?_
              refine va_get (D := D) (ci := 2) (v := .int tb_8) (C := rn_TM) (T := fl_TM) (N := 8) hx hb hG in_TM hown hK hP 0 rfl rfl 7 (by decide) (hG _ k_169) (fun _ h9 => h9) rfl d_TM_takeOut_91 ?_
              refine lv_if_ne (tgt := 114) hx hb d_TM_takeOut_94 (by decide) (fun hb_26 => ?_) (fun hb_26 => ?_)
              · skip
                refine lv_lload hx hb d_TM_takeOut_114 (lv_at hl 0 rfl) ?_
                exact em_lret hx hb hr hlocks hP hD hK hS (fs_7, tb_8, le_9, ri_10, wo_11, fr_12, od_13, ha_14) [0, 1, 2, 3, 4, 5, 6] (by decide) rfl ⟨_, rfl, ⟨(by omega), htb_18, hle_19, hri_20, hwo_21, hfr_22, hod_23, hha_24, hres_25⟩⟩ d_TM_takeOut_116
              · skip
                refine lv_aload_n hx hb d_TM_takeOut_97 rfl (lv_at hl 1 rfl) ?_
                refine lv_lload hx hb d_TM_takeOut_98 (lv_at hl 0 rfl) ?_
                refine em_call (wr := []) (em_runV (As := [.long r_15]) (rest := []) ⟨hx, hb, hml, hown, hG⟩ (tm_list l D cI cL cZ cC f fs_7 tb_8 le_9 ri_10 wo_11 fr_12 od_13 ha_14 r_15 _ (by omega) htb_18 hle_19 hri_20 hwo_21 hfr_22 hod_23 hha_24 hres_25 hnt) (cwV 1 hG (gd_V k_748 k_749 k_750 k_109 k_751) rfl rfl rfl (by decide +kernel) ⟨Nat.le_of_ble_eq_true rfl, Nat.le_of_ble_eq_true rfl⟩) (tw_V (q0 := 0) hP hD hK hE hst hS rfl rfl [0, 1, 2, 3, 4, 5, 6] rfl (by decide)) rfl rfl hl.1 rfl (lv_room (Nat.le_of_ble_eq_true rfl)) d_TM_takeOut_100 ⟨Nat.le_of_ble_eq_true rfl, Nat.le_of_ble_eq_true rfl⟩) hP hD hS hA [0, 1, 2, 3, 4, 5, 6] [] rfl rfl (by decide) (by decide) (fun v u H locs hok hP hD hS => ?_) (fun x C u H locs hbad hxx hP hD hS => ?_)
                · skip
                  obtain ⟨fs_27, tb_28, le_29, ri_30, wo_31, fr_32, od_33, ha_34⟩ := u
                  obtain ⟨r_35, rfl, hp_36⟩ := hok
                  obtain ⟨hfs_37, htb_38, hle_39, hri_40, hwo_41, hfr_42, hod_43, hha_44, hres_45⟩ : fs_27 ≤ 1024 ∧ (tb_28 = 0 ∨ tb_28 = 1) ∧ wfa 1024 le_29 ∧ wfa 1024 ri_30 ∧ wfa 1024 wo_31 ∧ rng 1024 fr_32 ∧ rng 1024 od_33 ∧ bln ha_34 ∧ (∃ j : Nat, j ≤ 1024 ∧ r_35 = nI j) := hp_36
                  obtain ⟨n_46, hn_46, rfl⟩ := hres_45
                  have hP : va_P D classes [((f 4), .inr (2, [.ref (f 5), .ref (f 6), .ref (f 7), .int (nI fs_27), .ref (f 8), .ref (f 9), .ref (f 10), .int tb_28])), ((f 5), .inl (cL, 1024, .inr (.inl le_29))), ((f 6), .inl (cL, 1024, .inr (.inl ri_30))), ((f 7), .inl (cI, 1024, .inl fr_32)), ((f 8), .inl (cI, 1024, .inl od_33)), ((f 9), .inl (cZ, 1024, .inl ha_34)), ((f 10), .inl (cL, 1024, .inr (.inl wo_31)))] H := hP
                  have hD : va_D A [((f 4), .inr (2, [.ref (f 5), .ref (f 6), .ref (f 7), .int (nI fs_27), .ref (f 8), .ref (f 9), .ref (f 10), .int tb_28])), ((f 5), .inl (cL, 1024, .inr (.inl le_29))), ((f 6), .inl (cL, 1024, .inr (.inl ri_30))), ((f 7), .inl (cI, 1024, .inl fr_32)), ((f 8), .inl (cI, 1024, .inl od_33)), ((f 9), .inl (cZ, 1024, .inl ha_34)), ((f 10), .inl (cL, 1024, .inr (.inl wo_31)))] := hD
                  refine W.eq (g2 := F0 m 103 ls [.int (nI n_46)]) rfl ?_
                  refine lv_sipush (v := 400) hx hb d_TM_takeOut_103 (by decide) ?_
                  refine lv_icmp_le (tgt := 114) hx hb d_TM_takeOut_106 (by decide) (fun hb_47 => ?_) (fun hb_47 => ?_)
                  · skip
                    have hn_48 : n_46 ≤ 400 := (nI_leI (a := n_46) (b := 400) (by omega) (by omega)).mp hb_47
                    refine lv_lload hx hb d_TM_takeOut_114 (lv_at hl 0 rfl) ?_
                    exact em_lret hx hb hr hlocks hP hD hK hS (fs_27, tb_28, le_29, ri_30, wo_31, fr_32, od_33, ha_34) [0, 1, 2, 3, 4, 5, 6] (by decide) rfl ⟨_, rfl, ⟨(by omega), htb_38, hle_39, hri_40, hwo_41, hfr_42, hod_43, hha_44, hres_25⟩⟩ d_TM_takeOut_116
                  · skip
                    have hn_49 : ¬ n_46 ≤ 400 := fun h => hb_47 ((nI_leI (a := n_46) (b := 400) (by omega) (by omega)).mpr h)
                    refine lv_aload_n hx hb d_TM_takeOut_109 rfl (lv_at hl 1 rfl) ?_
                    refine lv_iconst (v := 1) hx hb d_TM_takeOut_110 (by decide) ?_
                    refine va_put (D := D) (ci := 2) (v := .int 1) (ty := .boolean) (C := rn_TM) (T := fl_TM) (N := 8) hx hb hG in_TM tt_TM tk_TM nn_TM hown hK hP hD hS 0 rfl rfl 7 (by decide) (hG _ k_169) (fun _ h9 => h9) rfl (by decide +kernel) rfl rfl (Nat.le_of_ble_eq_true rfl) d_TM_takeOut_111 (fun H locs hP hD hS => ?_)
                    have hP : va_P D classes [((f 4), .inr (2, [.ref (f 5), .ref (f 6), .ref (f 7), .int (nI fs_27), .ref (f 8), .ref (f 9), .ref (f 10), .int 1])), ((f 5), .inl (cL, 1024, .inr (.inl le_29))), ((f 6), .inl (cL, 1024, .inr (.inl ri_30))), ((f 7), .inl (cI, 1024, .inl fr_32)), ((f 8), .inl (cI, 1024, .inl od_33)), ((f 9), .inl (cZ, 1024, .inl ha_34)), ((f 10), .inl (cL, 1024, .inr (.inl wo_31)))] H := hP
                    have hD : va_D A [((f 4), .inr (2, [.ref (f 5), .ref (f 6), .ref (f 7), .int (nI fs_27), .ref (f 8), .ref (f 9), .ref (f 10), .int 1])), ((f 5), .inl (cL, 1024, .inr (.inl le_29))), ((f 6), .inl (cL, 1024, .inr (.inl ri_30))), ((f 7), .inl (cI, 1024, .inl fr_32)), ((f 8), .inl (cI, 1024, .inl od_33)), ((f 9), .inl (cZ, 1024, .inl ha_34)), ((f 10), .inl (cL, 1024, .inr (.inl wo_31)))] := hD
                    refine lv_lload hx hb d_TM_takeOut_114 (lv_at hl 0 rfl) ?_
                    exact em_lret hx hb hr hlocks hP hD hK hS (fs_27, 1, le_29, ri_30, wo_31, fr_32, od_33, ha_34) [0, 1, 2, 3, 4, 5, 6] (by decide) rfl ⟨_, rfl, ⟨(by omega), (Or.inr rfl), hle_39, hri_40, hwo_41, hfr_42, hod_43, hha_44, hres_25⟩⟩ d_TM_takeOut_116
                · skip
                  exact hbad.elim
            · skip
              exact hbad.elim
          · skip
            refine W.eq (g2 := F0 m 68 ls [.int 1]) rfl ?_
            refine lv_if_eq (tgt := 79) hx hb d_TM_takeOut_68 (by decide) (fun hbr => absurd hbr (by decide)) (fun hbr => ?_)
            refine lv_aload_n hx hb d_TM_takeOut_71 rfl (lv_at hl 0 rfl) ?_
            refine lv_lload_n hx hb d_TM_takeOut_72 rfl (lv_at hl 1 rfl) ?_
            refine em_call (wr := []) (em_runV (As := [.long a]) (rest := []) ⟨hx, hb, hml, hown, hG⟩ (tm_withoutName l D cI cL cZ cC f fs1 tb1 le1 ri1 wo1 fr1 od1 ha1 a _ (by omega) htb1 hle1 hri1 hwo1 hfr1 hod1 hha1 hwa hnt) (cwV 1 hG (gd_V k_770 k_772 k_15 k_109 k_773) rfl rfl rfl (by decide +kernel) ⟨Nat.le_of_ble_eq_true rfl, Nat.le_of_ble_eq_true rfl⟩) (tw_V (q0 := 0) hP hD hK hE hst hS rfl rfl [0, 1, 2, 3, 4, 5, 6] rfl (by decide)) rfl rfl hl.1 rfl (lv_room (Nat.le_of_ble_eq_true rfl)) d_TM_takeOut_73 ⟨Nat.le_of_ble_eq_true rfl, Nat.le_of_ble_eq_true rfl⟩) hP hD hS hA [0, 1, 2, 3, 4, 5, 6] [] rfl rfl (by decide) (by decide) (fun v u H locs hok hP hD hS => ?_) (fun x C u H locs hbad hxx hP hD hS => ?_)
            · skip
              obtain ⟨r_50, rfl, hp_51⟩ := hok
              have hp_51 : wfw 1024 r_50 := hp_51
              have hP : va_P D classes [((f 4), .inr (2, [.ref (f 5), .ref (f 6), .ref (f 7), .int (nI fs1), .ref (f 8), .ref (f 9), .ref (f 10), .int tb1])), ((f 5), .inl (cL, 1024, .inr (.inl le1))), ((f 6), .inl (cL, 1024, .inr (.inl ri1))), ((f 7), .inl (cI, 1024, .inl fr1)), ((f 8), .inl (cI, 1024, .inl od1)), ((f 9), .inl (cZ, 1024, .inl ha1)), ((f 10), .inl (cL, 1024, .inr (.inl wo1)))] H := hP
              have hD : va_D A [((f 4), .inr (2, [.ref (f 5), .ref (f 6), .ref (f 7), .int (nI fs1), .ref (f 8), .ref (f 9), .ref (f 10), .int tb1])), ((f 5), .inl (cL, 1024, .inr (.inl le1))), ((f 6), .inl (cL, 1024, .inr (.inl ri1))), ((f 7), .inl (cI, 1024, .inl fr1)), ((f 8), .inl (cI, 1024, .inl od1)), ((f 9), .inl (cZ, 1024, .inl ha1)), ((f 10), .inl (cL, 1024, .inr (.inl wo1)))] := hD
              refine W.eq (g2 := F0 m 76 ls [.long r_50]) rfl ?_
              refine lv_goto (tgt := 88) hx hb d_TM_takeOut_76 (by decide) ?_
              refine lv_lstore (lv' := [(7, .long r_50), (0, .ref (f 4)), (2, .long a), (4, .long (wof 24 nm))]) hx hb d_TM_takeOut_88 hl (Nat.le_of_ble_eq_true rfl) rfl (fun ls hl => ?_)
              refine lv_aload_n hx hb d_TM_takeOut_90 rfl (lv_at hl 1 rfl) ?_
              refine va_get (D := D) (ci := 2) (v := .int tb1) (C := rn_TM) (T := fl_TM) (N := 8) hx hb hG in_TM hown hK hP 0 rfl rfl 7 (by decide) (hG _ k_169) (fun _ h9 => h9) rfl d_TM_takeOut_91 ?_
              refine lv_if_ne (tgt := 114) hx hb d_TM_takeOut_94 (by decide) (fun hb_52 => ?_) (fun hb_52 => ?_)
              · skip
                refine lv_lload hx hb d_TM_takeOut_114 (lv_at hl 0 rfl) ?_
                exact em_lret hx hb hr hlocks hP hD hK hS (fs1, tb1, le1, ri1, wo1, fr1, od1, ha1) [0, 1, 2, 3, 4, 5, 6] (by decide) rfl ⟨_, rfl, ⟨(by omega), htb1, hle1, hri1, hwo1, hfr1, hod1, hha1, hp_51⟩⟩ d_TM_takeOut_116
              · skip
                refine lv_aload_n hx hb d_TM_takeOut_97 rfl (lv_at hl 1 rfl) ?_
                refine lv_lload hx hb d_TM_takeOut_98 (lv_at hl 0 rfl) ?_
                refine em_call (wr := []) (em_runV (As := [.long r_50]) (rest := []) ⟨hx, hb, hml, hown, hG⟩ (tm_list l D cI cL cZ cC f fs1 tb1 le1 ri1 wo1 fr1 od1 ha1 r_50 _ (by omega) htb1 hle1 hri1 hwo1 hfr1 hod1 hha1 hp_51 hnt) (cwV 1 hG (gd_V k_748 k_749 k_750 k_109 k_751) rfl rfl rfl (by decide +kernel) ⟨Nat.le_of_ble_eq_true rfl, Nat.le_of_ble_eq_true rfl⟩) (tw_V (q0 := 0) hP hD hK hE hst hS rfl rfl [0, 1, 2, 3, 4, 5, 6] rfl (by decide)) rfl rfl hl.1 rfl (lv_room (Nat.le_of_ble_eq_true rfl)) d_TM_takeOut_100 ⟨Nat.le_of_ble_eq_true rfl, Nat.le_of_ble_eq_true rfl⟩) hP hD hS hA [0, 1, 2, 3, 4, 5, 6] [] rfl rfl (by decide) (by decide) (fun v u H locs hok hP hD hS => ?_) (fun x C u H locs hbad hxx hP hD hS => ?_)
                · skip
                  obtain ⟨fs_53, tb_54, le_55, ri_56, wo_57, fr_58, od_59, ha_60⟩ := u
                  obtain ⟨r_61, rfl, hp_62⟩ := hok
                  obtain ⟨hfs_63, htb_64, hle_65, hri_66, hwo_67, hfr_68, hod_69, hha_70, hres_71⟩ : fs_53 ≤ 1024 ∧ (tb_54 = 0 ∨ tb_54 = 1) ∧ wfa 1024 le_55 ∧ wfa 1024 ri_56 ∧ wfa 1024 wo_57 ∧ rng 1024 fr_58 ∧ rng 1024 od_59 ∧ bln ha_60 ∧ (∃ j : Nat, j ≤ 1024 ∧ r_61 = nI j) := hp_62
                  obtain ⟨n_72, hn_72, rfl⟩ := hres_71
                  have hP : va_P D classes [((f 4), .inr (2, [.ref (f 5), .ref (f 6), .ref (f 7), .int (nI fs_53), .ref (f 8), .ref (f 9), .ref (f 10), .int tb_54])), ((f 5), .inl (cL, 1024, .inr (.inl le_55))), ((f 6), .inl (cL, 1024, .inr (.inl ri_56))), ((f 7), .inl (cI, 1024, .inl fr_58)), ((f 8), .inl (cI, 1024, .inl od_59)), ((f 9), .inl (cZ, 1024, .inl ha_60)), ((f 10), .inl (cL, 1024, .inr (.inl wo_57)))] H := hP
                  have hD : va_D A [((f 4), .inr (2, [.ref (f 5), .ref (f 6), .ref (f 7), .int (nI fs_53), .ref (f 8), .ref (f 9), .ref (f 10), .int tb_54])), ((f 5), .inl (cL, 1024, .inr (.inl le_55))), ((f 6), .inl (cL, 1024, .inr (.inl ri_56))), ((f 7), .inl (cI, 1024, .inl fr_58)), ((f 8), .inl (cI, 1024, .inl od_59)), ((f 9), .inl (cZ, 1024, .inl ha_60)), ((f 10), .inl (cL, 1024, .inr (.inl wo_57)))] := hD
                  refine W.eq (g2 := F0 m 103 ls [.int (nI n_72)]) rfl ?_
                  refine lv_sipush (v := 400) hx hb d_TM_takeOut_103 (by decide) ?_
                  refine lv_icmp_le (tgt := 114) hx hb d_TM_takeOut_106 (by decide) (fun hb_73 => ?_) (fun hb_73 => ?_)
                  · skip
                    have hn_74 : n_72 ≤ 400 := (nI_leI (a := n_72) (b := 400) (by omega) (by omega)).mp hb_73
                    refine lv_lload hx hb d_TM_takeOut_114 (lv_at hl 0 rfl) ?_
                    exact em_lret hx hb hr hlocks hP hD hK hS (fs_53, tb_54, le_55, ri_56, wo_57, fr_58, od_59, ha_60) [0, 1, 2, 3, 4, 5, 6] (by decide) rfl ⟨_, rfl, ⟨(by omega), htb_64, hle_65, hri_66, hwo_67, hfr_68, hod_69, hha_70, hp_51⟩⟩ d_TM_takeOut_116
                  · skip
                    have hn_75 : ¬ n_72 ≤ 400 := fun h => hb_73 ((nI_leI (a := n_72) (b := 400) (by omega) (by omega)).mpr h)
                    refine lv_aload_n hx hb d_TM_takeOut_109 rfl (lv_at hl 1 rfl) ?_
                    refine lv_iconst (v := 1) hx hb d_TM_takeOut_110 (by decide) ?_
                    refine va_put (D := D) (ci := 2) (v := .int 1) (ty := .boolean) (C := rn_TM) (T := fl_TM) (N := 8) hx hb hG in_TM tt_TM tk_TM nn_TM hown hK hP hD hS 0 rfl rfl 7 (by decide) (hG _ k_169) (fun _ h9 => h9) rfl (by decide +kernel) rfl rfl (Nat.le_of_ble_eq_true rfl) d_TM_takeOut_111 (fun H locs hP hD hS => ?_)
                    have hP : va_P D classes [((f 4), .inr (2, [.ref (f 5), .ref (f 6), .ref (f 7), .int (nI fs_53), .ref (f 8), .ref (f 9), .ref (f 10), .int 1])), ((f 5), .inl (cL, 1024, .inr (.inl le_55))), ((f 6), .inl (cL, 1024, .inr (.inl ri_56))), ((f 7), .inl (cI, 1024, .inl fr_58)), ((f 8), .inl (cI, 1024, .inl od_59)), ((f 9), .inl (cZ, 1024, .inl ha_60)), ((f 10), .inl (cL, 1024, .inr (.inl wo_57)))] H := hP
                    have hD : va_D A [((f 4), .inr (2, [.ref (f 5), .ref (f 6), .ref (f 7), .int (nI fs_53), .ref (f 8), .ref (f 9), .ref (f 10), .int 1])), ((f 5), .inl (cL, 1024, .inr (.inl le_55))), ((f 6), .inl (cL, 1024, .inr (.inl ri_56))), ((f 7), .inl (cI, 1024, .inl fr_58)), ((f 8), .inl (cI, 1024, .inl od_59)), ((f 9), .inl (cZ, 1024, .inl ha_60)), ((f 10), .inl (cL, 1024, .inr (.inl wo_57)))] := hD
                    refine lv_lload hx hb d_TM_takeOut_114 (lv_at hl 0 rfl) ?_
                    exact em_lret hx hb hr hlocks hP hD hK hS (fs_53, 1, le_55, ri_56, wo_57, fr_58, od_59, ha_60) [0, 1, 2, 3, 4, 5, 6] (by decide) rfl ⟨_, rfl, ⟨(by omega), (Or.inr rfl), hle_65, hri_66, hwo_67, hfr_68, hod_69, hha_70, hp_51⟩⟩ d_TM_takeOut_116
                · skip
                  exact hbad.elim
            · skip
              exact hbad.elim
        · skip
          exact hbad.elim
      · skip
        have hk1 : 1 ≤ k := dn_ge (by omega) hb_4
        have hl : lv_has ls 9 [(0, .ref (f 4)), (2, .long a), (4, .long (wof 24 nm)), (7, .int (nI (k - 1)))] := by rw [← dn_eq hk1]; exact hl
        refine lv_aload_n hx hb d_TM_takeOut_35 rfl (lv_at hl 0 rfl) ?_
        refine va_get (D := D) (ci := 2) (v := .int tb1) (C := rn_TM) (T := fl_TM) (N := 8) hx hb hG in_TM hown hK hP 0 rfl rfl 7 (by decide) (hG _ k_169) (fun _ h9 => h9) rfl d_TM_takeOut_36 ?_
        refine lv_if_ne (tgt := 61) hx hb d_TM_takeOut_39 (by decide) (fun hb_76 => ?_) (fun hb_76 => ?_)
        · skip
          refine lv_aload_n hx hb d_TM_takeOut_61 rfl (lv_at hl 0 rfl) ?_
          refine lv_lload_n hx hb d_TM_takeOut_62 rfl (lv_at hl 1 rfl) ?_
          refine lv_lload hx hb d_TM_takeOut_63 (lv_at hl 2 rfl) ?_
          refine em_call (wr := []) (em_runV (As := [.long a, .long (wof 24 nm)]) (rest := []) ⟨hx, hb, hml, hown, hG⟩ (tm_hasName l D cI cL cZ cC f fs1 tb1 le1 ri1 wo1 fr1 od1 ha1 a (wof 24 nm) _ (by omega) htb1 hle1 hri1 hwo1 hfr1 hod1 hha1 hwa hnt) (cwV 2 hG (gd_V k_766 k_768 k_14 k_109 k_769) rfl rfl rfl (by decide +kernel) ⟨Nat.le_of_ble_eq_true rfl, Nat.le_of_ble_eq_true rfl⟩) (tw_V (q0 := 0) hP hD hK hE hst hS rfl rfl [0, 1, 2, 3, 4, 5, 6] rfl (by decide)) rfl rfl hl.1 rfl (lv_room (Nat.le_of_ble_eq_true rfl)) d_TM_takeOut_65 ⟨Nat.le_of_ble_eq_true rfl, Nat.le_of_ble_eq_true rfl⟩) hP hD hS hA [0, 1, 2, 3, 4, 5, 6] [] rfl rfl (by decide) (by decide) (fun v u H locs hok hP hD hS => ?_) (fun x C u H locs hbad hxx hP hD hS => ?_)
          · skip
            obtain ⟨r_77, rfl, hp_78⟩ := hok
            have hp_78 : (r_77 = 0 ∨ r_77 = 1) := hp_78
            have hP : va_P D classes [((f 4), .inr (2, [.ref (f 5), .ref (f 6), .ref (f 7), .int (nI fs1), .ref (f 8), .ref (f 9), .ref (f 10), .int tb1])), ((f 5), .inl (cL, 1024, .inr (.inl le1))), ((f 6), .inl (cL, 1024, .inr (.inl ri1))), ((f 7), .inl (cI, 1024, .inl fr1)), ((f 8), .inl (cI, 1024, .inl od1)), ((f 9), .inl (cZ, 1024, .inl ha1)), ((f 10), .inl (cL, 1024, .inr (.inl wo1)))] H := hP
            have hD : va_D A [((f 4), .inr (2, [.ref (f 5), .ref (f 6), .ref (f 7), .int (nI fs1), .ref (f 8), .ref (f 9), .ref (f 10), .int tb1])), ((f 5), .inl (cL, 1024, .inr (.inl le1))), ((f 6), .inl (cL, 1024, .inr (.inl ri1))), ((f 7), .inl (cI, 1024, .inl fr1)), ((f 8), .inl (cI, 1024, .inl od1)), ((f 9), .inl (cZ, 1024, .inl ha1)), ((f 10), .inl (cL, 1024, .inr (.inl wo1)))] := hD
            rcases hp_78 with rfl | rfl
            · skip
              refine W.eq (g2 := F0 m 68 ls [.int 0]) rfl ?_
              refine lv_if_eq (tgt := 79) hx hb d_TM_takeOut_68 (by decide) (fun hbr => ?_) (fun hbr => absurd (by decide) hbr)
              refine lv_aload_n hx hb d_TM_takeOut_79 rfl (lv_at hl 0 rfl) ?_
              refine lv_iconst (v := 3) hx hb d_TM_takeOut_80 (by decide) ?_
              refine W.callRL (W.runS (As := [.int 3]) (rest := [.ref (f 4)]) ⟨hx, hb, hml, hown, hG⟩ (wd_constant l D cI cL cZ cC 3 ) (va_cwS 1 hG (gd_T k_728 k_729 k_127 k_730) rfl rfl rfl (by decide +kernel) ⟨Nat.le_of_ble_eq_true rfl, Nat.le_of_ble_eq_true rfl⟩) (wq_S hP hK [] rfl) rfl rfl hl.1 rfl (lv_room (Nat.le_of_ble_eq_true rfl)) d_TM_takeOut_81 ⟨Nat.le_of_ble_eq_true rfl, Nat.le_of_ble_eq_true rfl⟩) ?_
              refine W.eq (g2 := F0 m 84 ls [.long (wcon 3), .ref (f 4)]) rfl ?_
              refine lv_lload_n hx hb d_TM_takeOut_84 rfl (lv_at hl 1 rfl) ?_
              refine em_call (wr := []) (em_runV (As := [.long (wcon 3), .long a]) (rest := []) ⟨hx, hb, hml, hown, hG⟩ (tm_apply l D cI cL cZ cC f fs1 tb1 le1 ri1 wo1 fr1 od1 ha1 (wcon 3) a _ (by omega) htb1 hle1 hri1 hwo1 hfr1 hod1 hha1 (wfw_con (by decide)) hwa hnt) (cwV 2 hG (gd_V k_731 k_732 k_733 k_109 k_734) rfl rfl rfl (by decide +kernel) ⟨Nat.le_of_ble_eq_true rfl, Nat.le_of_ble_eq_true rfl⟩) (tw_V (q0 := 0) hP hD hK hE hst hS rfl rfl [0, 1, 2, 3, 4, 5, 6] rfl (by decide)) rfl rfl hl.1 rfl (lv_room (Nat.le_of_ble_eq_true rfl)) d_TM_takeOut_85 ⟨Nat.le_of_ble_eq_true rfl, Nat.le_of_ble_eq_true rfl⟩) hP hD hS hA [0, 1, 2, 3, 4, 5, 6] [] rfl rfl (by decide) (by decide) (fun v u H locs hok hP hD hS => ?_) (fun x C u H locs hbad hxx hP hD hS => ?_)
              · skip
                obtain ⟨fs_79, tb_80, le_81, ri_82, wo_83, fr_84, od_85, ha_86⟩ := u
                obtain ⟨r_87, rfl, hp_88⟩ := hok
                obtain ⟨hfs_89, htb_90, hle_91, hri_92, hwo_93, hfr_94, hod_95, hha_96, hres_97⟩ : fs_79 ≤ 1024 ∧ (tb_80 = 0 ∨ tb_80 = 1) ∧ wfa 1024 le_81 ∧ wfa 1024 ri_82 ∧ wfa 1024 wo_83 ∧ rng 1024 fr_84 ∧ rng 1024 od_85 ∧ bln ha_86 ∧ wfw 1024 r_87 := hp_88
                have hP : va_P D classes [((f 4), .inr (2, [.ref (f 5), .ref (f 6), .ref (f 7), .int (nI fs_79), .ref (f 8), .ref (f 9), .ref (f 10), .int tb_80])), ((f 5), .inl (cL, 1024, .inr (.inl le_81))), ((f 6), .inl (cL, 1024, .inr (.inl ri_82))), ((f 7), .inl (cI, 1024, .inl fr_84)), ((f 8), .inl (cI, 1024, .inl od_85)), ((f 9), .inl (cZ, 1024, .inl ha_86)), ((f 10), .inl (cL, 1024, .inr (.inl wo_83)))] H := hP
                have hD : va_D A [((f 4), .inr (2, [.ref (f 5), .ref (f 6), .ref (f 7), .int (nI fs_79), .ref (f 8), .ref (f 9), .ref (f 10), .int tb_80])), ((f 5), .inl (cL, 1024, .inr (.inl le_81))), ((f 6), .inl (cL, 1024, .inr (.inl ri_82))), ((f 7), .inl (cI, 1024, .inl fr_84)), ((f 8), .inl (cI, 1024, .inl od_85)), ((f 9), .inl (cZ, 1024, .inl ha_86)), ((f 10), .inl (cL, 1024, .inr (.inl wo_83)))] := hD
                refine W.eq (g2 := F0 m 88 ls [.long r_87]) rfl ?_
                refine lv_lstore (lv' := [(7, .long r_87), (0, .ref (f 4)), (2, .long a), (4, .long (wof 24 nm))]) hx hb d_TM_takeOut_88 hl (Nat.le_of_ble_eq_true rfl) rfl (fun ls hl => ?_)
                refine lv_aload_n hx hb d_TM_takeOut_90 rfl (lv_at hl 1 rfl) ?_
                refine va_get (D := D) (ci := 2) (v := .int tb_80) (C := rn_TM) (T := fl_TM) (N := 8) hx hb hG in_TM hown hK hP 0 rfl rfl 7 (by decide) (hG _ k_169) (fun _ h9 => h9) rfl d_TM_takeOut_91 ?_
                refine lv_if_ne (tgt := 114) hx hb d_TM_takeOut_94 (by decide) (fun hb_98 => ?_) (fun hb_98 => ?_)
                · skip
                  refine lv_lload hx hb d_TM_takeOut_114 (lv_at hl 0 rfl) ?_
                  exact em_lret hx hb hr hlocks hP hD hK hS (fs_79, tb_80, le_81, ri_82, wo_83, fr_84, od_85, ha_86) [0, 1, 2, 3, 4, 5, 6] (by decide) rfl ⟨_, rfl, ⟨(by omega), htb_90, hle_91, hri_92, hwo_93, hfr_94, hod_95, hha_96, hres_97⟩⟩ d_TM_takeOut_116
                · skip
                  refine lv_aload_n hx hb d_TM_takeOut_97 rfl (lv_at hl 1 rfl) ?_
                  refine lv_lload hx hb d_TM_takeOut_98 (lv_at hl 0 rfl) ?_
                  refine em_call (wr := []) (em_runV (As := [.long r_87]) (rest := []) ⟨hx, hb, hml, hown, hG⟩ (tm_list l D cI cL cZ cC f fs_79 tb_80 le_81 ri_82 wo_83 fr_84 od_85 ha_86 r_87 _ (by omega) htb_90 hle_91 hri_92 hwo_93 hfr_94 hod_95 hha_96 hres_97 hnt) (cwV 1 hG (gd_V k_748 k_749 k_750 k_109 k_751) rfl rfl rfl (by decide +kernel) ⟨Nat.le_of_ble_eq_true rfl, Nat.le_of_ble_eq_true rfl⟩) (tw_V (q0 := 0) hP hD hK hE hst hS rfl rfl [0, 1, 2, 3, 4, 5, 6] rfl (by decide)) rfl rfl hl.1 rfl (lv_room (Nat.le_of_ble_eq_true rfl)) d_TM_takeOut_100 ⟨Nat.le_of_ble_eq_true rfl, Nat.le_of_ble_eq_true rfl⟩) hP hD hS hA [0, 1, 2, 3, 4, 5, 6] [] rfl rfl (by decide) (by decide) (fun v u H locs hok hP hD hS => ?_) (fun x C u H locs hbad hxx hP hD hS => ?_)
                  · skip
                    obtain ⟨fs_99, tb_100, le_101, ri_102, wo_103, fr_104, od_105, ha_106⟩ := u
                    obtain ⟨r_107, rfl, hp_108⟩ := hok
                    obtain ⟨hfs_109, htb_110, hle_111, hri_112, hwo_113, hfr_114, hod_115, hha_116, hres_117⟩ : fs_99 ≤ 1024 ∧ (tb_100 = 0 ∨ tb_100 = 1) ∧ wfa 1024 le_101 ∧ wfa 1024 ri_102 ∧ wfa 1024 wo_103 ∧ rng 1024 fr_104 ∧ rng 1024 od_105 ∧ bln ha_106 ∧ (∃ j : Nat, j ≤ 1024 ∧ r_107 = nI j) := hp_108
                    obtain ⟨n_118, hn_118, rfl⟩ := hres_117
                    have hP : va_P D classes [((f 4), .inr (2, [.ref (f 5), .ref (f 6), .ref (f 7), .int (nI fs_99), .ref (f 8), .ref (f 9), .ref (f 10), .int tb_100])), ((f 5), .inl (cL, 1024, .inr (.inl le_101))), ((f 6), .inl (cL, 1024, .inr (.inl ri_102))), ((f 7), .inl (cI, 1024, .inl fr_104)), ((f 8), .inl (cI, 1024, .inl od_105)), ((f 9), .inl (cZ, 1024, .inl ha_106)), ((f 10), .inl (cL, 1024, .inr (.inl wo_103)))] H := hP
                    have hD : va_D A [((f 4), .inr (2, [.ref (f 5), .ref (f 6), .ref (f 7), .int (nI fs_99), .ref (f 8), .ref (f 9), .ref (f 10), .int tb_100])), ((f 5), .inl (cL, 1024, .inr (.inl le_101))), ((f 6), .inl (cL, 1024, .inr (.inl ri_102))), ((f 7), .inl (cI, 1024, .inl fr_104)), ((f 8), .inl (cI, 1024, .inl od_105)), ((f 9), .inl (cZ, 1024, .inl ha_106)), ((f 10), .inl (cL, 1024, .inr (.inl wo_103)))] := hD
                    refine W.eq (g2 := F0 m 103 ls [.int (nI n_118)]) rfl ?_
                    refine lv_sipush (v := 400) hx hb d_TM_takeOut_103 (by decide) ?_
                    refine lv_icmp_le (tgt := 114) hx hb d_TM_takeOut_106 (by decide) (fun hb_119 => ?_) (fun hb_119 => ?_)
                    · skip
                      have hn_120 : n_118 ≤ 400 := (nI_leI (a := n_118) (b := 400) (by omega) (by omega)).mp hb_119
                      refine lv_lload hx hb d_TM_takeOut_114 (lv_at hl 0 rfl) ?_
                      exact em_lret hx hb hr hlocks hP hD hK hS (fs_99, tb_100, le_101, ri_102, wo_103, fr_104, od_105, ha_106) [0, 1, 2, 3, 4, 5, 6] (by decide) rfl ⟨_, rfl, ⟨(by omega), htb_110, hle_111, hri_112, hwo_113, hfr_114, hod_115, hha_116, hres_97⟩⟩ d_TM_takeOut_116
                    · skip
                      have hn_121 : ¬ n_118 ≤ 400 := fun h => hb_119 ((nI_leI (a := n_118) (b := 400) (by omega) (by omega)).mpr h)
                      refine lv_aload_n hx hb d_TM_takeOut_109 rfl (lv_at hl 1 rfl) ?_
                      refine lv_iconst (v := 1) hx hb d_TM_takeOut_110 (by decide) ?_
                      refine va_put (D := D) (ci := 2) (v := .int 1) (ty := .boolean) (C := rn_TM) (T := fl_TM) (N := 8) hx hb hG in_TM tt_TM tk_TM nn_TM hown hK hP hD hS 0 rfl rfl 7 (by decide) (hG _ k_169) (fun _ h9 => h9) rfl (by decide +kernel) rfl rfl (Nat.le_of_ble_eq_true rfl) d_TM_takeOut_111 (fun H locs hP hD hS => ?_)
                      have hP : va_P D classes [((f 4), .inr (2, [.ref (f 5), .ref (f 6), .ref (f 7), .int (nI fs_99), .ref (f 8), .ref (f 9), .ref (f 10), .int 1])), ((f 5), .inl (cL, 1024, .inr (.inl le_101))), ((f 6), .inl (cL, 1024, .inr (.inl ri_102))), ((f 7), .inl (cI, 1024, .inl fr_104)), ((f 8), .inl (cI, 1024, .inl od_105)), ((f 9), .inl (cZ, 1024, .inl ha_106)), ((f 10), .inl (cL, 1024, .inr (.inl wo_103)))] H := hP
                      have hD : va_D A [((f 4), .inr (2, [.ref (f 5), .ref (f 6), .ref (f 7), .int (nI fs_99), .ref (f 8), .ref (f 9), .ref (f 10), .int 1])), ((f 5), .inl (cL, 1024, .inr (.inl le_101))), ((f 6), .inl (cL, 1024, .inr (.inl ri_102))), ((f 7), .inl (cI, 1024, .inl fr_104)), ((f 8), .inl (cI, 1024, .inl od_105)), ((f 9), .inl (cZ, 1024, .inl ha_106)), ((f 10), .inl (cL, 1024, .inr (.inl wo_103)))] := hD
                      refine lv_lload hx hb d_TM_takeOut_114 (lv_at hl 0 rfl) ?_
                      exact em_lret hx hb hr hlocks hP hD hK hS (fs_99, 1, le_101, ri_102, wo_103, fr_104, od_105, ha_106) [0, 1, 2, 3, 4, 5, 6] (by decide) rfl ⟨_, rfl, ⟨(by omega), (Or.inr rfl), hle_111, hri_112, hwo_113, hfr_114, hod_115, hha_116, hres_97⟩⟩ d_TM_takeOut_116
                  · skip
                    exact hbad.elim
              · skip
                exact hbad.elim
            · skip
              refine W.eq (g2 := F0 m 68 ls [.int 1]) rfl ?_
              refine lv_if_eq (tgt := 79) hx hb d_TM_takeOut_68 (by decide) (fun hbr => absurd hbr (by decide)) (fun hbr => ?_)
              refine lv_aload_n hx hb d_TM_takeOut_71 rfl (lv_at hl 0 rfl) ?_
              refine lv_lload_n hx hb d_TM_takeOut_72 rfl (lv_at hl 1 rfl) ?_
              refine em_call (wr := []) (em_runV (As := [.long a]) (rest := []) ⟨hx, hb, hml, hown, hG⟩ (tm_withoutName l D cI cL cZ cC f fs1 tb1 le1 ri1 wo1 fr1 od1 ha1 a _ (by omega) htb1 hle1 hri1 hwo1 hfr1 hod1 hha1 hwa hnt) (cwV 1 hG (gd_V k_770 k_772 k_15 k_109 k_773) rfl rfl rfl (by decide +kernel) ⟨Nat.le_of_ble_eq_true rfl, Nat.le_of_ble_eq_true rfl⟩) (tw_V (q0 := 0) hP hD hK hE hst hS rfl rfl [0, 1, 2, 3, 4, 5, 6] rfl (by decide)) rfl rfl hl.1 rfl (lv_room (Nat.le_of_ble_eq_true rfl)) d_TM_takeOut_73 ⟨Nat.le_of_ble_eq_true rfl, Nat.le_of_ble_eq_true rfl⟩) hP hD hS hA [0, 1, 2, 3, 4, 5, 6] [] rfl rfl (by decide) (by decide) (fun v u H locs hok hP hD hS => ?_) (fun x C u H locs hbad hxx hP hD hS => ?_)
              · skip
                obtain ⟨r_122, rfl, hp_123⟩ := hok
                have hp_123 : wfw 1024 r_122 := hp_123
                have hP : va_P D classes [((f 4), .inr (2, [.ref (f 5), .ref (f 6), .ref (f 7), .int (nI fs1), .ref (f 8), .ref (f 9), .ref (f 10), .int tb1])), ((f 5), .inl (cL, 1024, .inr (.inl le1))), ((f 6), .inl (cL, 1024, .inr (.inl ri1))), ((f 7), .inl (cI, 1024, .inl fr1)), ((f 8), .inl (cI, 1024, .inl od1)), ((f 9), .inl (cZ, 1024, .inl ha1)), ((f 10), .inl (cL, 1024, .inr (.inl wo1)))] H := hP
                have hD : va_D A [((f 4), .inr (2, [.ref (f 5), .ref (f 6), .ref (f 7), .int (nI fs1), .ref (f 8), .ref (f 9), .ref (f 10), .int tb1])), ((f 5), .inl (cL, 1024, .inr (.inl le1))), ((f 6), .inl (cL, 1024, .inr (.inl ri1))), ((f 7), .inl (cI, 1024, .inl fr1)), ((f 8), .inl (cI, 1024, .inl od1)), ((f 9), .inl (cZ, 1024, .inl ha1)), ((f 10), .inl (cL, 1024, .inr (.inl wo1)))] := hD
                refine W.eq (g2 := F0 m 76 ls [.long r_122]) rfl ?_
                refine lv_goto (tgt := 88) hx hb d_TM_takeOut_76 (by decide) ?_
                refine lv_lstore (lv' := [(7, .long r_122), (0, .ref (f 4)), (2, .long a), (4, .long (wof 24 nm))]) hx hb d_TM_takeOut_88 hl (Nat.le_of_ble_eq_true rfl) rfl (fun ls hl => ?_)
                refine lv_aload_n hx hb d_TM_takeOut_90 rfl (lv_at hl 1 rfl) ?_
                refine va_get (D := D) (ci := 2) (v := .int tb1) (C := rn_TM) (T := fl_TM) (N := 8) hx hb hG in_TM hown hK hP 0 rfl rfl 7 (by decide) (hG _ k_169) (fun _ h9 => h9) rfl d_TM_takeOut_91 ?_
                refine lv_if_ne (tgt := 114) hx hb d_TM_takeOut_94 (by decide) (fun hb_124 => ?_) (fun hb_124 => ?_)
                · skip
                  refine lv_lload hx hb d_TM_takeOut_114 (lv_at hl 0 rfl) ?_
                  exact em_lret hx hb hr hlocks hP hD hK hS (fs1, tb1, le1, ri1, wo1, fr1, od1, ha1) [0, 1, 2, 3, 4, 5, 6] (by decide) rfl ⟨_, rfl, ⟨(by omega), htb1, hle1, hri1, hwo1, hfr1, hod1, hha1, hp_123⟩⟩ d_TM_takeOut_116
                · skip
                  refine lv_aload_n hx hb d_TM_takeOut_97 rfl (lv_at hl 1 rfl) ?_
                  refine lv_lload hx hb d_TM_takeOut_98 (lv_at hl 0 rfl) ?_
                  refine em_call (wr := []) (em_runV (As := [.long r_122]) (rest := []) ⟨hx, hb, hml, hown, hG⟩ (tm_list l D cI cL cZ cC f fs1 tb1 le1 ri1 wo1 fr1 od1 ha1 r_122 _ (by omega) htb1 hle1 hri1 hwo1 hfr1 hod1 hha1 hp_123 hnt) (cwV 1 hG (gd_V k_748 k_749 k_750 k_109 k_751) rfl rfl rfl (by decide +kernel) ⟨Nat.le_of_ble_eq_true rfl, Nat.le_of_ble_eq_true rfl⟩) (tw_V (q0 := 0) hP hD hK hE hst hS rfl rfl [0, 1, 2, 3, 4, 5, 6] rfl (by decide)) rfl rfl hl.1 rfl (lv_room (Nat.le_of_ble_eq_true rfl)) d_TM_takeOut_100 ⟨Nat.le_of_ble_eq_true rfl, Nat.le_of_ble_eq_true rfl⟩) hP hD hS hA [0, 1, 2, 3, 4, 5, 6] [] rfl rfl (by decide) (by decide) (fun v u H locs hok hP hD hS => ?_) (fun x C u H locs hbad hxx hP hD hS => ?_)
                  · skip
                    obtain ⟨fs_125, tb_126, le_127, ri_128, wo_129, fr_130, od_131, ha_132⟩ := u
                    obtain ⟨r_133, rfl, hp_134⟩ := hok
                    obtain ⟨hfs_135, htb_136, hle_137, hri_138, hwo_139, hfr_140, hod_141, hha_142, hres_143⟩ : fs_125 ≤ 1024 ∧ (tb_126 = 0 ∨ tb_126 = 1) ∧ wfa 1024 le_127 ∧ wfa 1024 ri_128 ∧ wfa 1024 wo_129 ∧ rng 1024 fr_130 ∧ rng 1024 od_131 ∧ bln ha_132 ∧ (∃ j : Nat, j ≤ 1024 ∧ r_133 = nI j) := hp_134
                    obtain ⟨n_144, hn_144, rfl⟩ := hres_143
                    have hP : va_P D classes [((f 4), .inr (2, [.ref (f 5), .ref (f 6), .ref (f 7), .int (nI fs_125), .ref (f 8), .ref (f 9), .ref (f 10), .int tb_126])), ((f 5), .inl (cL, 1024, .inr (.inl le_127))), ((f 6), .inl (cL, 1024, .inr (.inl ri_128))), ((f 7), .inl (cI, 1024, .inl fr_130)), ((f 8), .inl (cI, 1024, .inl od_131)), ((f 9), .inl (cZ, 1024, .inl ha_132)), ((f 10), .inl (cL, 1024, .inr (.inl wo_129)))] H := hP
                    have hD : va_D A [((f 4), .inr (2, [.ref (f 5), .ref (f 6), .ref (f 7), .int (nI fs_125), .ref (f 8), .ref (f 9), .ref (f 10), .int tb_126])), ((f 5), .inl (cL, 1024, .inr (.inl le_127))), ((f 6), .inl (cL, 1024, .inr (.inl ri_128))), ((f 7), .inl (cI, 1024, .inl fr_130)), ((f 8), .inl (cI, 1024, .inl od_131)), ((f 9), .inl (cZ, 1024, .inl ha_132)), ((f 10), .inl (cL, 1024, .inr (.inl wo_129)))] := hD
                    refine W.eq (g2 := F0 m 103 ls [.int (nI n_144)]) rfl ?_
                    refine lv_sipush (v := 400) hx hb d_TM_takeOut_103 (by decide) ?_
                    refine lv_icmp_le (tgt := 114) hx hb d_TM_takeOut_106 (by decide) (fun hb_145 => ?_) (fun hb_145 => ?_)
                    · skip
                      have hn_146 : n_144 ≤ 400 := (nI_leI (a := n_144) (b := 400) (by omega) (by omega)).mp hb_145
                      refine lv_lload hx hb d_TM_takeOut_114 (lv_at hl 0 rfl) ?_
                      exact em_lret hx hb hr hlocks hP hD hK hS (fs_125, tb_126, le_127, ri_128, wo_129, fr_130, od_131, ha_132) [0, 1, 2, 3, 4, 5, 6] (by decide) rfl ⟨_, rfl, ⟨(by omega), htb_136, hle_137, hri_138, hwo_139, hfr_140, hod_141, hha_142, hp_123⟩⟩ d_TM_takeOut_116
                    · skip
                      have hn_147 : ¬ n_144 ≤ 400 := fun h => hb_145 ((nI_leI (a := n_144) (b := 400) (by omega) (by omega)).mpr h)
                      refine lv_aload_n hx hb d_TM_takeOut_109 rfl (lv_at hl 1 rfl) ?_
                      refine lv_iconst (v := 1) hx hb d_TM_takeOut_110 (by decide) ?_
                      refine va_put (D := D) (ci := 2) (v := .int 1) (ty := .boolean) (C := rn_TM) (T := fl_TM) (N := 8) hx hb hG in_TM tt_TM tk_TM nn_TM hown hK hP hD hS 0 rfl rfl 7 (by decide) (hG _ k_169) (fun _ h9 => h9) rfl (by decide +kernel) rfl rfl (Nat.le_of_ble_eq_true rfl) d_TM_takeOut_111 (fun H locs hP hD hS => ?_)
                      have hP : va_P D classes [((f 4), .inr (2, [.ref (f 5), .ref (f 6), .ref (f 7), .int (nI fs_125), .ref (f 8), .ref (f 9), .ref (f 10), .int 1])), ((f 5), .inl (cL, 1024, .inr (.inl le_127))), ((f 6), .inl (cL, 1024, .inr (.inl ri_128))), ((f 7), .inl (cI, 1024, .inl fr_130)), ((f 8), .inl (cI, 1024, .inl od_131)), ((f 9), .inl (cZ, 1024, .inl ha_132)), ((f 10), .inl (cL, 1024, .inr (.inl wo_129)))] H := hP
                      have hD : va_D A [((f 4), .inr (2, [.ref (f 5), .ref (f 6), .ref (f 7), .int (nI fs_125), .ref (f 8), .ref (f 9), .ref (f 10), .int 1])), ((f 5), .inl (cL, 1024, .inr (.inl le_127))), ((f 6), .inl (cL, 1024, .inr (.inl ri_128))), ((f 7), .inl (cI, 1024, .inl fr_130)), ((f 8), .inl (cI, 1024, .inl od_131)), ((f 9), .inl (cZ, 1024, .inl ha_132)), ((f 10), .inl (cL, 1024, .inr (.inl wo_129)))] := hD
                      refine lv_lload hx hb d_TM_takeOut_114 (lv_at hl 0 rfl) ?_
                      exact em_lret hx hb hr hlocks hP hD hK hS (fs_125, 1, le_127, ri_128, wo_129, fr_130, od_131, ha_132) [0, 1, 2, 3, 4, 5, 6] (by decide) rfl ⟨_, rfl, ⟨(by omega), (Or.inr rfl), hle_137, hri_138, hwo_139, hfr_140, hod_141, hha_142, hp_123⟩⟩ d_TM_takeOut_116
                  · skip
                    exact hbad.elim
              · skip
                exact hbad.elim
          · skip
            exact hbad.elim
        · skip
          refine lv_aload_n hx hb d_TM_takeOut_42 rfl (lv_at hl 0 rfl) ?_
          refine lv_aload_n hx hb d_TM_takeOut_43 rfl (lv_at hl 0 rfl) ?_
          refine va_get (D := D) (ci := 2) (v := .ref (f 8)) (C := rn_TM) (T := fl_TM) (N := 8) hx hb hG in_TM hown hK hP 0 rfl rfl 4 (by decide) (hG _ k_166) (fun _ h9 => h9) rfl d_TM_takeOut_44 ?_
          refine lv_iload hx hb d_TM_takeOut_47 (lv_at hl 3 rfl) ?_
          refine va_iald hx hb hK hP 4 0 rfl rfl (vp_in_nI (n := k - 1) (N := 1024) (by omega) (by omega)) d_TM_takeOut_49 ?_
          obtain ⟨j_148, hj_148, ej_148⟩ := hod1 ((nI (k - 1)).toNatClampNeg)
          refine W.eq (g2 := F0 m 50 ls [.int (nI j_148), .ref (f 4)]) (by rw [ej_148]) ?_
          refine lv_lload hx hb d_TM_takeOut_50 (lv_at hl 2 rfl) ?_
          refine em_call (wr := []) (em_runV (As := [.int (nI j_148), .long (wof 24 nm)]) (rest := []) ⟨hx, hb, hml, hown, hG⟩ (tm_takeOutOf l D cI cL cZ cC f fs1 tb1 le1 ri1 wo1 fr1 od1 ha1 j_148 (wof 24 nm) _ (by omega) htb1 hle1 hri1 hwo1 hfr1 hod1 hha1 (by omega) hnt) (cwV 2 hG (gd_V k_762 k_764 k_13 k_109 k_765) rfl rfl rfl (by decide +kernel) ⟨Nat.le_of_ble_eq_true rfl, Nat.le_of_ble_eq_true rfl⟩) (tw_V (q0 := 0) hP hD hK hE hst hS rfl rfl [0, 1, 2, 3, 4, 5, 6] rfl (by decide)) rfl rfl hl.1 rfl (lv_room (Nat.le_of_ble_eq_true rfl)) d_TM_takeOut_52 ⟨Nat.le_of_ble_eq_true rfl, Nat.le_of_ble_eq_true rfl⟩) hP hD hS hA [0, 1, 2, 3, 4, 5, 6] [] rfl rfl (by decide) (by decide) (fun v u H locs hok hP hD hS => ?_) (fun x C u H locs hbad hxx hP hD hS => ?_)
          · skip
            obtain ⟨fs_149, tb_150, le_151, ri_152, wo_153, fr_154, od_155, ha_156⟩ := u
            obtain ⟨rfl, hp_158⟩ := hok
            obtain ⟨hfs_159, htb_160, hle_161, hri_162, hwo_163, hfr_164, hod_165, hha_166⟩ : fs_149 ≤ 1024 ∧ (tb_150 = 0 ∨ tb_150 = 1) ∧ wfa 1024 le_151 ∧ wfa 1024 ri_152 ∧ wfa 1024 wo_153 ∧ rng 1024 fr_154 ∧ rng 1024 od_155 ∧ bln ha_156 := hp_158
            have hP : va_P D classes [((f 4), .inr (2, [.ref (f 5), .ref (f 6), .ref (f 7), .int (nI fs_149), .ref (f 8), .ref (f 9), .ref (f 10), .int tb_150])), ((f 5), .inl (cL, 1024, .inr (.inl le_151))), ((f 6), .inl (cL, 1024, .inr (.inl ri_152))), ((f 7), .inl (cI, 1024, .inl fr_154)), ((f 8), .inl (cI, 1024, .inl od_155)), ((f 9), .inl (cZ, 1024, .inl ha_156)), ((f 10), .inl (cL, 1024, .inr (.inl wo_153)))] H := hP
            have hD : va_D A [((f 4), .inr (2, [.ref (f 5), .ref (f 6), .ref (f 7), .int (nI fs_149), .ref (f 8), .ref (f 9), .ref (f 10), .int tb_150])), ((f 5), .inl (cL, 1024, .inr (.inl le_151))), ((f 6), .inl (cL, 1024, .inr (.inl ri_152))), ((f 7), .inl (cI, 1024, .inl fr_154)), ((f 8), .inl (cI, 1024, .inl od_155)), ((f 9), .inl (cZ, 1024, .inl ha_156)), ((f 10), .inl (cL, 1024, .inr (.inl wo_153)))] := hD
            refine W.eq (g2 := F0 m 55 ls []) rfl ?_
            refine lv_iinc (k := 3) (v := nI (k - 1) - 1) (lv' := [(7, .int (nI (k - 1) - 1)), (0, .ref (f 4)), (2, .long a), (4, .long (wof 24 nm))]) hx hb d_TM_takeOut_55 hl rfl (dn_dec _) (Nat.le_of_ble_eq_true rfl) rfl (fun ls hl => ?_)
            refine lv_goto (tgt := 30) hx hb d_TM_takeOut_58 (by decide) ?_
            have hl := lv_sub (l' := [(0, .ref (f 4)), (2, .long a), (4, .long (wof 24 nm)), (7, .int (nI (k - 1) - 1))]) hl [1, 2, 3, 0] rfl
            exact ih_3 (k - 1) fs_149 tb_150 le_151 ri_152 wo_153 fr_154 od_155 ha_156 _ _ _ (by omega) (by omega) (by omega) htb_160 hle_161 hri_162 hwo_163 hfr_164 hod_165 hha_166 hl hP hD hS
          · skip
            exact hbad.elim
  refine lv_aload_n hx hb d_TM_takeOut_0 rfl (lv_at hl 0 rfl) ?_
  refine va_get (D := D) (ci := 2) (v := .int tb) (C := rn_TM) (T := fl_TM) (N := 8) hx hb hG in_TM hown hK hP 0 rfl rfl 7 (by decide) (hG _ k_169) (fun _ h9 => h9) rfl d_TM_takeOut_1 ?_
  refine lv_if_eq (tgt := 9) hx hb d_TM_takeOut_4 (by decide) (fun hb_168 => ?_) (fun hb_168 => ?_)
  · skip
    refine lv_bipush (v := 24) hx hb d_TM_takeOut_9 (by decide) ?_
    refine lv_iload_n hx hb d_TM_takeOut_11 rfl (lv_at hl 1 rfl) ?_
    refine W.callRL (W.runS (As := [.int 24, .int nm]) (rest := []) ⟨hx, hb, hml, hown, hG⟩ (wd_of l D cI cL cZ cC 24 nm ) (va_cwS 2 hG (gd_T k_735 k_736 k_127 k_737) rfl rfl rfl (by decide +kernel) ⟨Nat.le_of_ble_eq_true rfl, Nat.le_of_ble_eq_true rfl⟩) (wq_S hP hK [] rfl) rfl rfl hl.1 rfl (lv_room (Nat.le_of_ble_eq_true rfl)) d_TM_takeOut_12 ⟨Nat.le_of_ble_eq_true rfl, Nat.le_of_ble_eq_true rfl⟩) ?_
    refine W.eq (g2 := F0 m 15 ls [.long (wof 24 nm)]) rfl ?_
    refine lv_lstore (lv' := [(4, .long (wof 24 nm)), (0, .ref (f 4)), (1, .int nm), (2, .long a)]) hx hb d_TM_takeOut_15 hl (Nat.le_of_ble_eq_true rfl) rfl (fun ls hl => ?_)
    refine lv_aload_n hx hb d_TM_takeOut_17 rfl (lv_at hl 1 rfl) ?_
    refine lv_lload_n hx hb d_TM_takeOut_18 rfl (lv_at hl 3 rfl) ?_
    refine em_call (wr := []) (em_runV (As := [.long a]) (rest := []) ⟨hx, hb, hml, hown, hG⟩ (tm_list l D cI cL cZ cC f fs tb le ri wo fr od ha a _ (by omega) htb hle hri hwo hfr hod hha hwa hnt) (cwV 1 hG (gd_V k_748 k_749 k_750 k_109 k_751) rfl rfl rfl (by decide +kernel) ⟨Nat.le_of_ble_eq_true rfl, Nat.le_of_ble_eq_true rfl⟩) (tw_V (q0 := 0) hP hD hK hE hst hS rfl rfl [0, 1, 2, 3, 4, 5, 6] rfl (by decide)) rfl rfl hl.1 rfl (lv_room (Nat.le_of_ble_eq_true rfl)) d_TM_takeOut_19 ⟨Nat.le_of_ble_eq_true rfl, Nat.le_of_ble_eq_true rfl⟩) hP hD hS hA [0, 1, 2, 3, 4, 5, 6] [] rfl rfl (by decide) (by decide) (fun v u H locs hok hP hD hS => ?_) (fun x C u H locs hbad hxx hP hD hS => ?_)
    · skip
      obtain ⟨fs_169, tb_170, le_171, ri_172, wo_173, fr_174, od_175, ha_176⟩ := u
      obtain ⟨r_177, rfl, hp_178⟩ := hok
      obtain ⟨hfs_179, htb_180, hle_181, hri_182, hwo_183, hfr_184, hod_185, hha_186, hres_187⟩ : fs_169 ≤ 1024 ∧ (tb_170 = 0 ∨ tb_170 = 1) ∧ wfa 1024 le_171 ∧ wfa 1024 ri_172 ∧ wfa 1024 wo_173 ∧ rng 1024 fr_174 ∧ rng 1024 od_175 ∧ bln ha_176 ∧ (∃ j : Nat, j ≤ 1024 ∧ r_177 = nI j) := hp_178
      obtain ⟨n_188, hn_188, rfl⟩ := hres_187
      have hP : va_P D classes [((f 4), .inr (2, [.ref (f 5), .ref (f 6), .ref (f 7), .int (nI fs_169), .ref (f 8), .ref (f 9), .ref (f 10), .int tb_170])), ((f 5), .inl (cL, 1024, .inr (.inl le_171))), ((f 6), .inl (cL, 1024, .inr (.inl ri_172))), ((f 7), .inl (cI, 1024, .inl fr_174)), ((f 8), .inl (cI, 1024, .inl od_175)), ((f 9), .inl (cZ, 1024, .inl ha_176)), ((f 10), .inl (cL, 1024, .inr (.inl wo_173)))] H := hP
      have hD : va_D A [((f 4), .inr (2, [.ref (f 5), .ref (f 6), .ref (f 7), .int (nI fs_169), .ref (f 8), .ref (f 9), .ref (f 10), .int tb_170])), ((f 5), .inl (cL, 1024, .inr (.inl le_171))), ((f 6), .inl (cL, 1024, .inr (.inl ri_172))), ((f 7), .inl (cI, 1024, .inl fr_174)), ((f 8), .inl (cI, 1024, .inl od_175)), ((f 9), .inl (cZ, 1024, .inl ha_176)), ((f 10), .inl (cL, 1024, .inr (.inl wo_173)))] := hD
      refine W.eq (g2 := F0 m 22 ls [.int (nI n_188)]) rfl ?_
      refine lv_istore (lv' := [(6, .int (nI n_188)), (4, .long (wof 24 nm)), (0, .ref (f 4)), (1, .int nm), (2, .long a)]) hx hb d_TM_takeOut_22 hl (Nat.le_of_ble_eq_true rfl) rfl (fun ls hl => ?_)
      refine lv_iload hx hb d_TM_takeOut_24 (lv_at hl 0 rfl) ?_
      refine lv_iconst (v := 1) hx hb d_TM_takeOut_26 (by decide) ?_
      refine lv_isub hx hb d_TM_takeOut_27 ?_
      refine lv_istore (lv' := [(7, .int ((nI n_188) - 1)), (6, .int (nI n_188)), (4, .long (wof 24 nm)), (0, .ref (f 4)), (1, .int nm), (2, .long a)]) hx hb d_TM_takeOut_28 hl (Nat.le_of_ble_eq_true rfl) rfl (fun ls hl => ?_)
      have hl := lv_sub (l' := [(0, .ref (f 4)), (2, .long a), (4, .long (wof 24 nm)), (7, .int ((nI n_188) - 1))]) hl [3, 5, 2, 0] rfl
      exact loop_2 _ n_188 fs_169 tb_170 le_171 ri_172 wo_173 fr_174 od_175 ha_176 _ _ _ (Nat.lt_succ_self _) (by omega) (by omega) htb_180 hle_181 hri_182 hwo_183 hfr_184 hod_185 hha_186 hl hP hD hS
    · skip
      exact hbad.elim
  · skip
    refine lv_lload_n hx hb d_TM_takeOut_7 rfl (lv_at hl 2 rfl) ?_
    exact em_lret hx hb hr hlocks hP hD hK hS (fs, tb, le, ri, wo, fr, od, ha) [0, 1, 2, 3, 4, 5, 6] (by decide) rfl ⟨_, rfl, ⟨(by omega), htb, hle, hri, hwo, hfr, hod, hha, hwa⟩⟩ d_TM_takeOut_8
