set_option maxHeartbeats 8000000 in
set_option maxRecDepth 100000 in
theorem mo_cells (l : Launch) (D : va_G) (cI cL cZ cC : ClassId) (f : Nat → Nat) (h0 : Nat) (tn : Int32) (rm : Nat) (ln : Nat) (lx : Nat) (at_ : Nat) (bd : Int32) (fs : Nat) (dp : Nat) (on : Nat) (os : Nat) (bn : Nat) (df : Nat) (th : Int32) (tp : Nat) (mo_ : Int32) (ev : Nat) (ss : Int32) (so : Int32) (lk : Int64) (rs : Int64) (pt : Int32) (ot : Nat) (cl : Int32) (od : Nat → Int32) (le : Nat → Int64) (ri : Nat → Int64) (T : Tr) (t : Int64) (sz : Nat) (h1 : rep le ri t T) (ho : ∀ d, toc T d ≤ 1) (hnt : l.stackTraces = false) : em_Met l y_MO_cells (wz y_MO_cells b_MO_cells 6 (some .int)) ({ frames := 1, cells := 0, slots := 0, locals := 21 }) (va_Pc [.ref h0, .long t] (tw_pre D (tys4 cI cL cZ cC) [(h0, .inr (8, mS f tn rm ln lx at_ bd fs dp on os bn df th tp mo_ ev ss so lk rs pt ot cl)), ((f 6), .inl (cI, 2000, .inl od)), ((f 3), .inl (cL, 2000, .inr (.inl le))), ((f 4), .inl (cL, 2000, .inr (.inl ri)))] sz)) D (tys4 cI cL cZ cC) (va_A [(h0, .inr (8, mS f tn rm ln lx at_ bd fs dp on os bn df th tp mo_ ev ss so lk rs pt ot cl)), ((f 6), .inl (cI, 2000, .inl od)), ((f 3), .inl (cL, 2000, .inr (.inl le))), ((f 4), .inl (cL, 2000, .inr (.inl ri)))] sz) (fun (u : (Nat → Int32)) => [(h0, .inr (8, mS f tn rm ln lx at_ bd fs dp on os bn df th tp mo_ ev ss so lk rs pt ot cl)), ((f 6), .inl (cI, 2000, .inl u)), ((f 3), .inl (cL, 2000, .inr (.inl le))), ((f 4), .inl (cL, 2000, .inr (.inl ri)))]) (fun v (u : (Nat → Int32)) => ∃ r : Int32, v = some (.int r) ∧ (((r = nI (tsz T) ∧ tsz T ≤ 2000 ∧ ∃ S, BI le ri u S T (tsz T) (tsz T))))) (fun C (u : (Nat → Int32)) => False) 0 0 := by
  refine em_Met.ofW (cc := b_MO_cells) (maxL := 6) (ret := (some .int)) (by decide) rfl ?_
  intro p e s m args below meth c s₁ B hml hv hno
  obtain ⟨rfl, ⟨hsz, hP, hK, hD0⟩, hE⟩ := hv
  have hx := B.exec
  have hb := B.bytes
  have hr := B.returns
  have hts := atoms_spec (ws := wz y_MO_cells b_MO_cells 6 (some .int)) B.pre
  have hG := wz_G hts
  have hown : s.vm.findClass rn_MO = some m.cls := findClass_of_methodNamed B.named
  have hlocks := B.notSynchronized
  subst hsz
  have hD := hD0.self (sz := s.heap.size)
  have hst := tw_st hP
  generalize hAe : va_A [(h0, .inr (8, mS f tn rm ln lx at_ bd fs dp on os bn df th tp mo_ ev ss so lk rs pt ot cl)), ((f 6), .inl (cI, 2000, .inl od)), ((f 3), .inl (cL, 2000, .inr (.inl le))), ((f 4), .inl (cL, 2000, .inr (.inl ri)))] s.heap.size = A at hD hst ⊢
  have hA : ∀ q : Nat, s.heap.size ≤ q → A q := fun q h => by rw [← hAe]; exact Or.inr h
  have hS : va_S A s.heap s.heap [] := va_S.rf
  have hl := lv_entry ([.ref h0, .long t]) (n := 6) (Nat.le_of_ble_eq_true rfl)
  rw [lg_entry_eq]
  generalize (lg_sl ([.ref h0, .long t]) ++ List.replicate (6 - (lg_sl ([.ref h0, .long t])).length) Slot.unset).toArray = ls at hl ⊢
  have hl : lv_has ls 6 [(0, .ref h0), (1, .long t)] := hl
  have loop_2 : ∀ (k_1 : Nat) (k : Nat) (n1 : Nat) (od1 : Nat → Int32) (H : Heap) (locs : List Loc) (ls : Array Slot), 2000 - k < k_1 → (n1 ≤ 2000) → (k ≤ n1) → (∃ S, BI le ri od1 S T k n1) → lv_has ls 6 [(0, .ref h0), (3, .int (nI n1)), (4, .int (nI k))] → va_P D classes [(h0, .inr (8, mS f tn rm ln lx at_ bd fs dp on os bn df th tp mo_ ev ss so lk rs pt ot cl)), ((f 6), .inl (cI, 2000, .inl od1)), ((f 3), .inl (cL, 2000, .inr (.inl le))), ((f 4), .inl (cL, 2000, .inr (.inl ri)))] H → va_D A [(h0, .inr (8, mS f tn rm ln lx at_ bd fs dp on os bn df th tp mo_ ev ss so lk rs pt ot cl)), ((f 6), .inl (cI, 2000, .inl od1)), ((f 3), .inl (cL, 2000, .inr (.inl le))), ((f 4), .inl (cL, 2000, .inr (.inl ri)))] → va_S A s.heap H locs → W p l e (headSpec (wz y_MO_cells b_MO_cells 6 (some .int)) ({ frames := 1, cells := 0, slots := 0, locals := 21 })).room s m ([.ref h0, .long t] : List Value).toArray below meth c H locs 0 0 (em_MQ below D (tys4 cI cL cZ cC) A (fun (u : (Nat → Int32)) => [(h0, .inr (8, mS f tn rm ln lx at_ bd fs dp on os bn df th tp mo_ ev ss so lk rs pt ot cl)), ((f 6), .inl (cI, 2000, .inl u)), ((f 3), .inl (cL, 2000, .inr (.inl le))), ((f 4), .inl (cL, 2000, .inr (.inl ri)))]) (fun v (u : (Nat → Int32)) => ∃ r : Int32, v = some (.int r) ∧ (((r = nI (tsz T) ∧ tsz T ≤ 2000 ∧ ∃ S, BI le ri u S T (tsz T) (tsz T))))) (fun C (u : (Nat → Int32)) => False) s 0 0) (F0 m 25 ls []) := by
    intro k_1
    induction k_1 with
    | zero => intro k n1 od1 H locs ls hm; exact absurd hm (Nat.not_lt_zero _)
    | succ k_1 ih_3 =>
      intro k n1 od1 H locs ls hm hn1 hkn hB hl hP hD hS
      obtain ⟨S, hB⟩ := hB
      refine lv_iload hx hb d_MO_cells_25 (lv_at hl 2 rfl) ?_
      refine lv_iload_n hx hb d_MO_cells_27 rfl (lv_at hl 1 rfl) ?_
      refine lv_icmp_ge (tgt := 112) hx hb d_MO_cells_28 (by decide) (fun hb_4 => ?_) (fun hb_4 => ?_)
      · skip
        have hn_5 : n1 ≤ k := (nI_leI (a := n1) (b := k) (by omega) (by omega)).mp hb_4
        refine lv_iload_n hx hb d_MO_cells_112 rfl (lv_at hl 1 rfl) ?_
        exact em_iret hx hb hr hlocks hP hD hK hS (od1) [0, 1, 2, 3] (by decide) rfl ⟨_, rfl, (show ((nI n1 : Int32) = nI (tsz T) ∧ tsz T ≤ 2000 ∧ ∃ S, BI le ri od1 S T (tsz T) (tsz T)) from (by obtain rfl : k = n1 := (by omega); have hz := BI.end h1 hB; exact ⟨congrArg nI hz, rep_sz h1 ho, S, by rw [← hz]; exact hB⟩))⟩ d_MO_cells_113
      · skip
        have hn_6 : ¬ n1 ≤ k := fun h => hb_4 ((nI_leI (a := n1) (b := k) (by omega) (by omega)).mpr h)
        obtain ⟨cc, ta, tb, eS, eod, hcc, hra, hrb⟩ := hB.2.2.2.1 k (by omega)
        obtain ⟨hr1, hr2⟩ := BI.room h1 ho hB (by omega) eS
        refine lv_aload_n hx hb d_MO_cells_31 rfl (lv_at hl 0 rfl) ?_
        refine va_get (D := D) (ci := 8) (v := .ref (f 6)) (C := rn_MO) (T := fl_MO) (N := 55) hx hb hG in_MO hown hK hP 0 rfl rfl 13 (by decide) (hG _ k_1204) (fun _ h9 => h9) rfl d_MO_cells_32 ?_
        refine lv_iload hx hb d_MO_cells_35 (lv_at hl 2 rfl) ?_
        refine va_iald hx hb hK hP 1 0 rfl rfl (vp_in_nI (n := k) (N := 2000) (by omega) (by omega)) d_MO_cells_37 ?_
        refine W.eq (g2 := F0 m 38 ls [.int (nI cc)]) (by rw [nI_clamp (n := k) (by omega)]; rw [eod]) ?_
        refine lv_istore (lv' := [(5, .int (nI cc)), (0, .ref h0), (3, .int (nI n1)), (4, .int (nI k))]) hx hb d_MO_cells_38 hl (Nat.le_of_ble_eq_true rfl) rfl (fun ls hl => ?_)
        refine lv_aload_n hx hb d_MO_cells_40 rfl (lv_at hl 1 rfl) ?_
        refine va_get (D := D) (ci := 8) (v := .ref (f 3)) (C := rn_MO) (T := fl_MO) (N := 55) hx hb hG in_MO hown hK hP 0 rfl rfl 9 (by decide) (hG _ k_1200) (fun _ h9 => h9) rfl d_MO_cells_41 ?_
        refine lv_iload hx hb d_MO_cells_44 (lv_at hl 0 rfl) ?_
        refine va_lald hx hb hK hP 2 1 rfl rfl (vp_in_nI (n := cc) (N := 2000) (by omega) (by omega)) d_MO_cells_46 ?_
        refine W.eq (g2 := F0 m 47 ls [.long (le cc)]) (by rw [nI_clamp (n := cc) (by omega)]) ?_
        refine W.callR (W.runS (As := [.long (le cc)]) (rest := []) ⟨hx, hb, hml, hown, hG⟩ (mo_kindOf l D cI cL cZ cC (le cc) ) (cwS 1 hG (gd_S k_1519 k_1520 k_116 k_1521) rfl rfl rfl (by decide +kernel) ⟨Nat.le_of_ble_eq_true rfl, Nat.le_of_ble_eq_true rfl⟩) (wq_S hP hK [] rfl) rfl rfl hl.1 rfl (lv_room (Nat.le_of_ble_eq_true rfl)) d_MO_cells_47 ⟨Nat.le_of_ble_eq_true rfl, Nat.le_of_ble_eq_true rfl⟩) ?_
        refine W.eq (g2 := F0 m 50 ls [.int (wkind (le cc))]) rfl ?_
        refine lv_iconst (v := 3) hx hb d_MO_cells_50 (by decide) ?_
        refine lv_icmp_ne (tgt := 73) hx hb d_MO_cells_51 (by decide) (fun hb_7 => ?_) (fun hb_7 => ?_)
        · skip
          have ia := isn_0 hra hb_7
          refine lv_aload_n hx hb d_MO_cells_73 rfl (lv_at hl 1 rfl) ?_
          refine va_get (D := D) (ci := 8) (v := .ref (f 4)) (C := rn_MO) (T := fl_MO) (N := 55) hx hb hG in_MO hown hK hP 0 rfl rfl 10 (by decide) (hG _ k_1201) (fun _ h9 => h9) rfl d_MO_cells_74 ?_
          refine lv_iload hx hb d_MO_cells_77 (lv_at hl 0 rfl) ?_
          refine va_lald hx hb hK hP 3 1 rfl rfl (vp_in_nI (n := cc) (N := 2000) (by omega) (by omega)) d_MO_cells_79 ?_
          refine W.eq (g2 := F0 m 80 ls [.long (ri cc)]) (by rw [nI_clamp (n := cc) (by omega)]) ?_
          refine W.callR (W.runS (As := [.long (ri cc)]) (rest := []) ⟨hx, hb, hml, hown, hG⟩ (mo_kindOf l D cI cL cZ cC (ri cc) ) (cwS 1 hG (gd_S k_1519 k_1520 k_116 k_1521) rfl rfl rfl (by decide +kernel) ⟨Nat.le_of_ble_eq_true rfl, Nat.le_of_ble_eq_true rfl⟩) (wq_S hP hK [] rfl) rfl rfl hl.1 rfl (lv_room (Nat.le_of_ble_eq_true rfl)) d_MO_cells_80 ⟨Nat.le_of_ble_eq_true rfl, Nat.le_of_ble_eq_true rfl⟩) ?_
          refine W.eq (g2 := F0 m 83 ls [.int (wkind (ri cc))]) rfl ?_
          refine lv_iconst (v := 3) hx hb d_MO_cells_83 (by decide) ?_
          refine lv_icmp_ne (tgt := 106) hx hb d_MO_cells_84 (by decide) (fun hb_8 => ?_) (fun hb_8 => ?_)
          · skip
            have ib := isn_0 hrb hb_8
            refine lv_iinc (k := 3) (v := nI (k + 1)) (lv' := [(4, .int (nI (k + 1))), (5, .int (nI cc)), (0, .ref h0), (3, .int (nI n1))]) hx hb d_MO_cells_106 hl rfl (lw_inc k 1) (Nat.le_of_ble_eq_true rfl) rfl (fun ls hl => ?_)
            refine lv_goto (tgt := 25) hx hb d_MO_cells_109 (by decide) ?_
            have hl := lv_sub (l' := [(0, .ref h0), (3, .int (nI n1)), (4, .int (nI (k + 1)))]) hl [2, 3, 0] rfl
            exact ih_3 (k + 1) n1 od1 _ _ _ (by omega) (by omega) (by omega) (BI.step hB (by omega) eS (by omega) (fun j hj => rfl) (fun q => absurd q (by omega)) (fun q => absurd q (by omega))) hl hP hD hS
          · skip
            have ib := isn_1 hrb hb_8
            obtain ⟨cb, x1, x2, x3, ecb, hcb, -, -⟩ := rep_cell hrb hb_8
            refine lv_aload_n hx hb d_MO_cells_87 rfl (lv_at hl 1 rfl) ?_
            refine va_get (D := D) (ci := 8) (v := .ref (f 6)) (C := rn_MO) (T := fl_MO) (N := 55) hx hb hG in_MO hown hK hP 0 rfl rfl 13 (by decide) (hG _ k_1204) (fun _ h9 => h9) rfl d_MO_cells_88 ?_
            refine lv_iload_n hx hb d_MO_cells_91 rfl (lv_at hl 2 rfl) ?_
            refine lv_aload_n hx hb d_MO_cells_92 rfl (lv_at hl 1 rfl) ?_
            refine va_get (D := D) (ci := 8) (v := .ref (f 4)) (C := rn_MO) (T := fl_MO) (N := 55) hx hb hG in_MO hown hK hP 0 rfl rfl 10 (by decide) (hG _ k_1201) (fun _ h9 => h9) rfl d_MO_cells_93 ?_
            refine lv_iload hx hb d_MO_cells_96 (lv_at hl 0 rfl) ?_
            refine va_lald hx hb hK hP 3 1 rfl rfl (vp_in_nI (n := cc) (N := 2000) (by omega) (by omega)) d_MO_cells_98 ?_
            refine W.eq (g2 := F0 m 99 ls [.long (ri cc), .int (nI n1), .ref (f 6)]) (by rw [nI_clamp (n := cc) (by omega)]) ?_
            refine W.callR (W.runS (As := [.long (ri cc)]) (rest := [.int (nI n1), .ref (f 6)]) ⟨hx, hb, hml, hown, hG⟩ (mo_valueOf l D cI cL cZ cC (ri cc) ) (cwS 1 hG (gd_S k_1522 k_1523 k_116 k_1524) rfl rfl rfl (by decide +kernel) ⟨Nat.le_of_ble_eq_true rfl, Nat.le_of_ble_eq_true rfl⟩) (wq_S hP hK [] rfl) rfl rfl hl.1 rfl (lv_room (Nat.le_of_ble_eq_true rfl)) d_MO_cells_99 ⟨Nat.le_of_ble_eq_true rfl, Nat.le_of_ble_eq_true rfl⟩) ?_
            refine W.eq (g2 := F0 m 102 ls [.int ((ri cc).toInt32), .int (nI n1), .ref (f 6)]) rfl ?_
            refine W.eq (g2 := F0 m 102 ls [.int (nI cb), .int (nI n1), .ref (f 6)]) (by rw [ecb]) ?_
            refine va_iast hx hb hK hP hD hS 1 0 rfl rfl (vp_in_nI (n := n1) (N := 2000) (by omega) (by omega)) d_MO_cells_102 (fun H locs hP hD hS => ?_)
            have hP : va_P D classes [(h0, .inr (8, mS f tn rm ln lx at_ bd fs dp on os bn df th tp mo_ ev ss so lk rs pt ot cl)), ((f 6), .inl (cI, 2000, .inl (upd od1 (nI n1).toNatClampNeg (nI cb)))), ((f 3), .inl (cL, 2000, .inr (.inl le))), ((f 4), .inl (cL, 2000, .inr (.inl ri)))] H := hP
            have hD : va_D A [(h0, .inr (8, mS f tn rm ln lx at_ bd fs dp on os bn df th tp mo_ ev ss so lk rs pt ot cl)), ((f 6), .inl (cI, 2000, .inl (upd od1 (nI n1).toNatClampNeg (nI cb)))), ((f 3), .inl (cL, 2000, .inr (.inl le))), ((f 4), .inl (cL, 2000, .inr (.inl ri)))] := hD
            obtain ⟨g_9, eg_9⟩ : ∃ z, z = upd od1 n1 (nI cb) := ⟨_, rfl⟩
            rw [nI_clamp (n := n1) (by omega), ← eg_9] at hP hD
            refine lv_iinc (k := 2) (v := nI (n1 + 1)) (lv' := [(3, .int (nI (n1 + 1))), (5, .int (nI cc)), (0, .ref h0), (4, .int (nI k))]) hx hb d_MO_cells_103 hl rfl (lw_inc n1 1) (Nat.le_of_ble_eq_true rfl) rfl (fun ls hl => ?_)
            refine lv_iinc (k := 3) (v := nI (k + 1)) (lv' := [(4, .int (nI (k + 1))), (3, .int (nI (n1 + 1))), (5, .int (nI cc)), (0, .ref h0)]) hx hb d_MO_cells_106 hl rfl (lw_inc k 1) (Nat.le_of_ble_eq_true rfl) rfl (fun ls hl => ?_)
            refine lv_goto (tgt := 25) hx hb d_MO_cells_109 (by decide) ?_
            have hl := lv_sub (l' := [(0, .ref h0), (3, .int (nI (n1 + 1))), (4, .int (nI (k + 1)))]) hl [3, 1, 0] rfl
            exact ih_3 (k + 1) (n1 + 1) g_9 _ _ _ (by omega) (by omega) (by omega) (BI.step hB (by omega) eS (by omega) (fun j hj => (by rw [eg_9, upd_ne (by omega)])) (fun q => absurd q (by omega)) (fun _ => by rw [ia, eg_9, upd_at (by omega), ecb])) hl hP hD hS
        · skip
          have ia := isn_1 hra hb_7
          obtain ⟨ca, x1, x2, x3, eca, hca, -, -⟩ := rep_cell hra hb_7
          refine lv_aload_n hx hb d_MO_cells_54 rfl (lv_at hl 1 rfl) ?_
          refine va_get (D := D) (ci := 8) (v := .ref (f 6)) (C := rn_MO) (T := fl_MO) (N := 55) hx hb hG in_MO hown hK hP 0 rfl rfl 13 (by decide) (hG _ k_1204) (fun _ h9 => h9) rfl d_MO_cells_55 ?_
          refine lv_iload_n hx hb d_MO_cells_58 rfl (lv_at hl 2 rfl) ?_
          refine lv_aload_n hx hb d_MO_cells_59 rfl (lv_at hl 1 rfl) ?_
          refine va_get (D := D) (ci := 8) (v := .ref (f 3)) (C := rn_MO) (T := fl_MO) (N := 55) hx hb hG in_MO hown hK hP 0 rfl rfl 9 (by decide) (hG _ k_1200) (fun _ h9 => h9) rfl d_MO_cells_60 ?_
          refine lv_iload hx hb d_MO_cells_63 (lv_at hl 0 rfl) ?_
          refine va_lald hx hb hK hP 2 1 rfl rfl (vp_in_nI (n := cc) (N := 2000) (by omega) (by omega)) d_MO_cells_65 ?_
          refine W.eq (g2 := F0 m 66 ls [.long (le cc), .int (nI n1), .ref (f 6)]) (by rw [nI_clamp (n := cc) (by omega)]) ?_
          refine W.callR (W.runS (As := [.long (le cc)]) (rest := [.int (nI n1), .ref (f 6)]) ⟨hx, hb, hml, hown, hG⟩ (mo_valueOf l D cI cL cZ cC (le cc) ) (cwS 1 hG (gd_S k_1522 k_1523 k_116 k_1524) rfl rfl rfl (by decide +kernel) ⟨Nat.le_of_ble_eq_true rfl, Nat.le_of_ble_eq_true rfl⟩) (wq_S hP hK [] rfl) rfl rfl hl.1 rfl (lv_room (Nat.le_of_ble_eq_true rfl)) d_MO_cells_66 ⟨Nat.le_of_ble_eq_true rfl, Nat.le_of_ble_eq_true rfl⟩) ?_
          refine W.eq (g2 := F0 m 69 ls [.int ((le cc).toInt32), .int (nI n1), .ref (f 6)]) rfl ?_
          refine W.eq (g2 := F0 m 69 ls [.int (nI ca), .int (nI n1), .ref (f 6)]) (by rw [eca]) ?_
          refine va_iast hx hb hK hP hD hS 1 0 rfl rfl (vp_in_nI (n := n1) (N := 2000) (by omega) (by omega)) d_MO_cells_69 (fun H locs hP hD hS => ?_)
          have hP : va_P D classes [(h0, .inr (8, mS f tn rm ln lx at_ bd fs dp on os bn df th tp mo_ ev ss so lk rs pt ot cl)), ((f 6), .inl (cI, 2000, .inl (upd od1 (nI n1).toNatClampNeg (nI ca)))), ((f 3), .inl (cL, 2000, .inr (.inl le))), ((f 4), .inl (cL, 2000, .inr (.inl ri)))] H := hP
          have hD : va_D A [(h0, .inr (8, mS f tn rm ln lx at_ bd fs dp on os bn df th tp mo_ ev ss so lk rs pt ot cl)), ((f 6), .inl (cI, 2000, .inl (upd od1 (nI n1).toNatClampNeg (nI ca)))), ((f 3), .inl (cL, 2000, .inr (.inl le))), ((f 4), .inl (cL, 2000, .inr (.inl ri)))] := hD
          obtain ⟨g_10, eg_10⟩ : ∃ z, z = upd od1 n1 (nI ca) := ⟨_, rfl⟩
          rw [nI_clamp (n := n1) (by omega), ← eg_10] at hP hD
          refine lv_iinc (k := 2) (v := nI (n1 + 1)) (lv' := [(3, .int (nI (n1 + 1))), (5, .int (nI cc)), (0, .ref h0), (4, .int (nI k))]) hx hb d_MO_cells_70 hl rfl (lw_inc n1 1) (Nat.le_of_ble_eq_true rfl) rfl (fun ls hl => ?_)
          refine lv_aload_n hx hb d_MO_cells_73 rfl (lv_at hl 2 rfl) ?_
          refine va_get (D := D) (ci := 8) (v := .ref (f 4)) (C := rn_MO) (T := fl_MO) (N := 55) hx hb hG in_MO hown hK hP 0 rfl rfl 10 (by decide) (hG _ k_1201) (fun _ h9 => h9) rfl d_MO_cells_74 ?_
          refine lv_iload hx hb d_MO_cells_77 (lv_at hl 1 rfl) ?_
          refine va_lald hx hb hK hP 3 1 rfl rfl (vp_in_nI (n := cc) (N := 2000) (by omega) (by omega)) d_MO_cells_79 ?_
          refine W.eq (g2 := F0 m 80 ls [.long (ri cc)]) (by rw [nI_clamp (n := cc) (by omega)]) ?_
          refine W.callR (W.runS (As := [.long (ri cc)]) (rest := []) ⟨hx, hb, hml, hown, hG⟩ (mo_kindOf l D cI cL cZ cC (ri cc) ) (cwS 1 hG (gd_S k_1519 k_1520 k_116 k_1521) rfl rfl rfl (by decide +kernel) ⟨Nat.le_of_ble_eq_true rfl, Nat.le_of_ble_eq_true rfl⟩) (wq_S hP hK [] rfl) rfl rfl hl.1 rfl (lv_room (Nat.le_of_ble_eq_true rfl)) d_MO_cells_80 ⟨Nat.le_of_ble_eq_true rfl, Nat.le_of_ble_eq_true rfl⟩) ?_
          refine W.eq (g2 := F0 m 83 ls [.int (wkind (ri cc))]) rfl ?_
          refine lv_iconst (v := 3) hx hb d_MO_cells_83 (by decide) ?_
          refine lv_icmp_ne (tgt := 106) hx hb d_MO_cells_84 (by decide) (fun hb_11 => ?_) (fun hb_11 => ?_)
          · skip
            have ib := isn_0 hrb hb_11
            refine lv_iinc (k := 3) (v := nI (k + 1)) (lv' := [(4, .int (nI (k + 1))), (3, .int (nI (n1 + 1))), (5, .int (nI cc)), (0, .ref h0)]) hx hb d_MO_cells_106 hl rfl (lw_inc k 1) (Nat.le_of_ble_eq_true rfl) rfl (fun ls hl => ?_)
            refine lv_goto (tgt := 25) hx hb d_MO_cells_109 (by decide) ?_
            have hl := lv_sub (l' := [(0, .ref h0), (3, .int (nI (n1 + 1))), (4, .int (nI (k + 1)))]) hl [3, 1, 0] rfl
            exact ih_3 (k + 1) (n1 + 1) g_10 _ _ _ (by omega) (by omega) (by omega) (BI.step hB (by omega) eS (by omega) (fun j hj => (by rw [eg_10, upd_ne (by omega)])) (fun _ => by rw [eg_10, upd_at rfl, eca]) (fun q => absurd q (by omega))) hl hP hD hS
          · skip
            have ib := isn_1 hrb hb_11
            obtain ⟨cb, x1, x2, x3, ecb, hcb, -, -⟩ := rep_cell hrb hb_11
            refine lv_aload_n hx hb d_MO_cells_87 rfl (lv_at hl 2 rfl) ?_
            refine va_get (D := D) (ci := 8) (v := .ref (f 6)) (C := rn_MO) (T := fl_MO) (N := 55) hx hb hG in_MO hown hK hP 0 rfl rfl 13 (by decide) (hG _ k_1204) (fun _ h9 => h9) rfl d_MO_cells_88 ?_
            refine lv_iload_n hx hb d_MO_cells_91 rfl (lv_at hl 0 rfl) ?_
            refine lv_aload_n hx hb d_MO_cells_92 rfl (lv_at hl 2 rfl) ?_
            refine va_get (D := D) (ci := 8) (v := .ref (f 4)) (C := rn_MO) (T := fl_MO) (N := 55) hx hb hG in_MO hown hK hP 0 rfl rfl 10 (by decide) (hG _ k_1201) (fun _ h9 => h9) rfl d_MO_cells_93 ?_
            refine lv_iload hx hb d_MO_cells_96 (lv_at hl 1 rfl) ?_
            refine va_lald hx hb hK hP 3 1 rfl rfl (vp_in_nI (n := cc) (N := 2000) (by omega) (by omega)) d_MO_cells_98 ?_
            refine W.eq (g2 := F0 m 99 ls [.long (ri cc), .int (nI (n1 + 1)), .ref (f 6)]) (by rw [nI_clamp (n := cc) (by omega)]) ?_
            refine W.callR (W.runS (As := [.long (ri cc)]) (rest := [.int (nI (n1 + 1)), .ref (f 6)]) ⟨hx, hb, hml, hown, hG⟩ (mo_valueOf l D cI cL cZ cC (ri cc) ) (cwS 1 hG (gd_S k_1522 k_1523 k_116 k_1524) rfl rfl rfl (by decide +kernel) ⟨Nat.le_of_ble_eq_true rfl, Nat.le_of_ble_eq_true rfl⟩) (wq_S hP hK [] rfl) rfl rfl hl.1 rfl (lv_room (Nat.le_of_ble_eq_true rfl)) d_MO_cells_99 ⟨Nat.le_of_ble_eq_true rfl, Nat.le_of_ble_eq_true rfl⟩) ?_
            refine W.eq (g2 := F0 m 102 ls [.int ((ri cc).toInt32), .int (nI (n1 + 1)), .ref (f 6)]) rfl ?_
            refine W.eq (g2 := F0 m 102 ls [.int (nI cb), .int (nI (n1 + 1)), .ref (f 6)]) (by rw [ecb]) ?_
            refine va_iast hx hb hK hP hD hS 1 0 rfl rfl (vp_in_nI (n := n1 + 1) (N := 2000) (by omega) (by omega)) d_MO_cells_102 (fun H locs hP hD hS => ?_)
            have hP : va_P D classes [(h0, .inr (8, mS f tn rm ln lx at_ bd fs dp on os bn df th tp mo_ ev ss so lk rs pt ot cl)), ((f 6), .inl (cI, 2000, .inl (upd g_10 (nI (n1 + 1)).toNatClampNeg (nI cb)))), ((f 3), .inl (cL, 2000, .inr (.inl le))), ((f 4), .inl (cL, 2000, .inr (.inl ri)))] H := hP
            have hD : va_D A [(h0, .inr (8, mS f tn rm ln lx at_ bd fs dp on os bn df th tp mo_ ev ss so lk rs pt ot cl)), ((f 6), .inl (cI, 2000, .inl (upd g_10 (nI (n1 + 1)).toNatClampNeg (nI cb)))), ((f 3), .inl (cL, 2000, .inr (.inl le))), ((f 4), .inl (cL, 2000, .inr (.inl ri)))] := hD
            obtain ⟨g_12, eg_12⟩ : ∃ z, z = upd g_10 (n1 + 1) (nI cb) := ⟨_, rfl⟩
            rw [nI_clamp (n := n1 + 1) (by omega), ← eg_12] at hP hD
            refine lv_iinc (k := 0) (v := nI ((n1 + 1) + 1)) (lv' := [(3, .int (nI ((n1 + 1) + 1))), (5, .int (nI cc)), (0, .ref h0), (4, .int (nI k))]) hx hb d_MO_cells_103 hl rfl (lw_inc (n1 + 1) 1) (Nat.le_of_ble_eq_true rfl) rfl (fun ls hl => ?_)
            refine lv_iinc (k := 3) (v := nI (k + 1)) (lv' := [(4, .int (nI (k + 1))), (3, .int (nI ((n1 + 1) + 1))), (5, .int (nI cc)), (0, .ref h0)]) hx hb d_MO_cells_106 hl rfl (lw_inc k 1) (Nat.le_of_ble_eq_true rfl) rfl (fun ls hl => ?_)
            refine lv_goto (tgt := 25) hx hb d_MO_cells_109 (by decide) ?_
            have hl := lv_sub (l' := [(0, .ref h0), (3, .int (nI ((n1 + 1) + 1))), (4, .int (nI (k + 1)))]) hl [3, 1, 0] rfl
            exact ih_3 (k + 1) ((n1 + 1) + 1) g_12 _ _ _ (by omega) (by omega) (by omega) (BI.step hB (by omega) eS (by omega) (fun j hj => (by rw [eg_12, upd_ne (by omega), eg_10, upd_ne (by omega)])) (fun _ => by rw [eg_12, upd_ne (by omega), eg_10, upd_at rfl, eca]) (fun _ => by rw [ia, eg_12, upd_at (by omega), ecb])) hl hP hD hS
  refine lv_iconst (v := 0) hx hb d_MO_cells_0 (by decide) ?_
  refine lv_istore_n (lv' := [(3, .int 0), (0, .ref h0), (1, .long t)]) hx hb d_MO_cells_1 rfl hl (Nat.le_of_ble_eq_true rfl) rfl (fun ls hl => ?_)
  refine lv_lload_n hx hb d_MO_cells_2 rfl (lv_at hl 2 rfl) ?_
  refine W.callR (W.runS (As := [.long t]) (rest := []) ⟨hx, hb, hml, hown, hG⟩ (mo_kindOf l D cI cL cZ cC t ) (cwS 1 hG (gd_S k_1519 k_1520 k_116 k_1521) rfl rfl rfl (by decide +kernel) ⟨Nat.le_of_ble_eq_true rfl, Nat.le_of_ble_eq_true rfl⟩) (wq_S hP hK [] rfl) rfl rfl hl.1 rfl (lv_room (Nat.le_of_ble_eq_true rfl)) d_MO_cells_3 ⟨Nat.le_of_ble_eq_true rfl, Nat.le_of_ble_eq_true rfl⟩) ?_
  refine W.eq (g2 := F0 m 6 ls [.int (wkind t)]) rfl ?_
  refine lv_iconst (v := 3) hx hb d_MO_cells_6 (by decide) ?_
  refine lv_icmp_ne (tgt := 22) hx hb d_MO_cells_7 (by decide) (fun hb_13 => ?_) (fun hb_13 => ?_)
  · skip
    have hi := isn_0 h1 hb_13
    refine lv_iconst (v := 0) hx hb d_MO_cells_22 (by decide) ?_
    refine lv_istore (lv' := [(4, .int 0), (3, .int 0), (0, .ref h0), (1, .long t)]) hx hb d_MO_cells_23 hl (Nat.le_of_ble_eq_true rfl) rfl (fun ls hl => ?_)
    have hl := lv_sub (l' := [(0, .ref h0), (3, .int 0), (4, .int 0)]) hl [2, 1, 0] rfl
    exact loop_2 _ 0 0 od _ _ _ (Nat.lt_succ_self _) (by omega) (by omega) (by have q := BI.init (od := od) h1 (fun _ => by omega); rwa [hi] at q) hl hP hD hS
  · skip
    obtain ⟨cc, ta, tb, eT, ecc, hcc, -, -⟩ := rep_cell h1 hb_13
    have hi := isn_1 h1 hb_13
    refine lv_aload_n hx hb d_MO_cells_10 rfl (lv_at hl 1 rfl) ?_
    refine va_get (D := D) (ci := 8) (v := .ref (f 6)) (C := rn_MO) (T := fl_MO) (N := 55) hx hb hG in_MO hown hK hP 0 rfl rfl 13 (by decide) (hG _ k_1204) (fun _ h9 => h9) rfl d_MO_cells_11 ?_
    refine lv_iconst (v := 0) hx hb d_MO_cells_14 (by decide) ?_
    refine lv_lload_n hx hb d_MO_cells_15 rfl (lv_at hl 2 rfl) ?_
    refine W.callR (W.runS (As := [.long t]) (rest := [.int 0, .ref (f 6)]) ⟨hx, hb, hml, hown, hG⟩ (mo_valueOf l D cI cL cZ cC t ) (cwS 1 hG (gd_S k_1522 k_1523 k_116 k_1524) rfl rfl rfl (by decide +kernel) ⟨Nat.le_of_ble_eq_true rfl, Nat.le_of_ble_eq_true rfl⟩) (wq_S hP hK [] rfl) rfl rfl hl.1 rfl (lv_room (Nat.le_of_ble_eq_true rfl)) d_MO_cells_16 ⟨Nat.le_of_ble_eq_true rfl, Nat.le_of_ble_eq_true rfl⟩) ?_
    refine W.eq (g2 := F0 m 19 ls [.int t.toInt32, .int 0, .ref (f 6)]) rfl ?_
    refine W.eq (g2 := F0 m 19 ls [.int (nI cc), .int 0, .ref (f 6)]) (by rw [ecc]) ?_
    refine va_iast hx hb hK hP hD hS 1 0 rfl rfl (vp_in_nI (n := 0) (N := 2000) (by omega) (by omega)) d_MO_cells_19 (fun H locs hP hD hS => ?_)
    have hP : va_P D classes [(h0, .inr (8, mS f tn rm ln lx at_ bd fs dp on os bn df th tp mo_ ev ss so lk rs pt ot cl)), ((f 6), .inl (cI, 2000, .inl (upd od (0 : Int32).toNatClampNeg (nI cc)))), ((f 3), .inl (cL, 2000, .inr (.inl le))), ((f 4), .inl (cL, 2000, .inr (.inl ri)))] H := hP
    have hD : va_D A [(h0, .inr (8, mS f tn rm ln lx at_ bd fs dp on os bn df th tp mo_ ev ss so lk rs pt ot cl)), ((f 6), .inl (cI, 2000, .inl (upd od (0 : Int32).toNatClampNeg (nI cc)))), ((f 3), .inl (cL, 2000, .inr (.inl le))), ((f 4), .inl (cL, 2000, .inr (.inl ri)))] := hD
    obtain ⟨g_14, eg_14⟩ : ∃ z, z = upd od 0 (nI cc) := ⟨_, rfl⟩
    rw [show (0 : Int32).toNatClampNeg = 0 by decide, ← eg_14] at hP hD
    refine lv_iconst (v := 1) hx hb d_MO_cells_20 (by decide) ?_
    refine lv_istore_n (lv' := [(3, .int 1), (0, .ref h0), (1, .long t)]) hx hb d_MO_cells_21 rfl hl (Nat.le_of_ble_eq_true rfl) rfl (fun ls hl => ?_)
    refine lv_iconst (v := 0) hx hb d_MO_cells_22 (by decide) ?_
    refine lv_istore (lv' := [(4, .int 0), (3, .int 1), (0, .ref h0), (1, .long t)]) hx hb d_MO_cells_23 hl (Nat.le_of_ble_eq_true rfl) rfl (fun ls hl => ?_)
    have hl := lv_sub (l' := [(0, .ref h0), (3, .int 1), (4, .int 0)]) hl [2, 1, 0] rfl
    exact loop_2 _ 0 1 g_14 _ _ _ (Nat.lt_succ_self _) (by omega) (by omega) (by have q := BI.init (od := g_14) h1 (fun _ => by rw [eg_14, ecc]; exact upd_at rfl); rwa [hi] at q) hl hP hD hS
set_option maxHeartbeats 8000000 in
set_option maxRecDepth 100000 in
theorem mo_having (l : Launch) (D : va_G) (cI cL cZ cC : ClassId) (f : Nat → Nat) (h0 : Nat) (tn : Int32) (rm : Nat) (ln : Nat) (lx : Nat) (at_ : Nat) (bd : Int32) (fs : Nat) (dp : Nat) (on : Nat) (os : Nat) (bn : Nat) (df : Nat) (th : Int32) (tp : Nat) (mo_ : Int32) (ev : Nat) (ss : Int32) (so : Int32) (lk : Int64) (rs : Int64) (pt : Int32) (ot : Nat) (cl : Int32) (ha : Nat → Int32) (t : Int64) (x : Int64) (sz : Nat) (hha : bln ha) (hw : wkind t = 3 → ∃ c : Nat, c < 2000 ∧ t.toInt32 = nI c) (hnt : l.stackTraces = false) : em_Met l y_MO_having (wz y_MO_having b_MO_having 5 (some .boolean)) ({ frames := 1, cells := 0, slots := 0, locals := 21 }) (va_Pc [.ref h0, .long t, .long x] (tw_pre D (tys4 cI cL cZ cC) [(h0, .inr (8, mS f tn rm ln lx at_ bd fs dp on os bn df th tp mo_ ev ss so lk rs pt ot cl)), ((f 7), .inl (cZ, 2000, .inl ha))] sz)) D (tys4 cI cL cZ cC) (va_A [(h0, .inr (8, mS f tn rm ln lx at_ bd fs dp on os bn df th tp mo_ ev ss so lk rs pt ot cl)), ((f 7), .inl (cZ, 2000, .inl ha))] sz) (fun (_ : Unit) => [(h0, .inr (8, mS f tn rm ln lx at_ bd fs dp on os bn df th tp mo_ ev ss so lk rs pt ot cl)), ((f 7), .inl (cZ, 2000, .inl ha))]) (fun v (_ : Unit) => ∃ r : Int32, v = some (.int r) ∧ ((((r = 1 ∧ hvT ha x t) ∨ (r = 0 ∧ hvF ha x t))))) (fun C (_ : Unit) => False) 0 0 := by
  refine em_Met.ofW (cc := b_MO_having) (maxL := 5) (ret := (some .boolean)) (by decide) rfl ?_
  intro p e s m args below meth c s₁ B hml hv hno
  obtain ⟨rfl, ⟨hsz, hP, hK, hD0⟩, hE⟩ := hv
  have hx := B.exec
  have hb := B.bytes
  have hr := B.returns
  have hts := atoms_spec (ws := wz y_MO_having b_MO_having 5 (some .boolean)) B.pre
  have hG := wz_G hts
  have hown : s.vm.findClass rn_MO = some m.cls := findClass_of_methodNamed B.named
  have hlocks := B.notSynchronized
  subst hsz
  have hD := hD0.self (sz := s.heap.size)
  have hst := tw_st hP
  generalize hAe : va_A [(h0, .inr (8, mS f tn rm ln lx at_ bd fs dp on os bn df th tp mo_ ev ss so lk rs pt ot cl)), ((f 7), .inl (cZ, 2000, .inl ha))] s.heap.size = A at hD hst ⊢
  have hA : ∀ q : Nat, s.heap.size ≤ q → A q := fun q h => by rw [← hAe]; exact Or.inr h
  have hS : va_S A s.heap s.heap [] := va_S.rf
  have hl := lv_entry ([.ref h0, .long t, .long x]) (n := 5) (Nat.le_of_ble_eq_true rfl)
  rw [lg_entry_eq]
  generalize (lg_sl ([.ref h0, .long t, .long x]) ++ List.replicate (5 - (lg_sl ([.ref h0, .long t, .long x])).length) Slot.unset).toArray = ls at hl ⊢
  have hl : lv_has ls 5 [(0, .ref h0), (1, .long t), (3, .long x)] := hl
  refine lv_lload_n hx hb d_MO_having_0 rfl (lv_at hl 1 rfl) ?_
  refine lv_lload_n hx hb d_MO_having_1 rfl (lv_at hl 2 rfl) ?_
  refine W.lcmp hx hb d_MO_having_2 ?_
  refine lv_if_eq (tgt := 26) hx hb d_MO_having_3 (by decide) (fun hb_1 => ?_) (fun hb_1 => ?_)
  · skip
    have hq_2 := (lg_cmp_eq _ _).mp hb_1
    refine lv_iconst (v := 1) hx hb d_MO_having_26 (by decide) ?_
    refine lv_goto (tgt := 31) hx hb d_MO_having_27 (by decide) ?_
    exact em_zret hx hb hr hlocks rfl hP hD hK hS () [0, 1] (by decide) rfl ⟨_, rfl, (show (((1 : Int32) = 1 ∧ hvT ha x t) ∨ ((1 : Int32) = 0 ∧ hvF ha x t)) from (Or.inl ⟨rfl, Or.inl hq_2⟩))⟩ d_MO_having_31
  · skip
    have hq_3 : ¬ _ := fun h => hb_1 ((lg_cmp_eq _ _).mpr h)
    refine lv_lload_n hx hb d_MO_having_6 rfl (lv_at hl 1 rfl) ?_
    refine W.callR (W.runS (As := [.long t]) (rest := []) ⟨hx, hb, hml, hown, hG⟩ (mo_kindOf l D cI cL cZ cC t ) (cwS 1 hG (gd_S k_1519 k_1520 k_116 k_1521) rfl rfl rfl (by decide +kernel) ⟨Nat.le_of_ble_eq_true rfl, Nat.le_of_ble_eq_true rfl⟩) (wq_S hP hK [] rfl) rfl rfl hl.1 rfl (lv_room (Nat.le_of_ble_eq_true rfl)) d_MO_having_7 ⟨Nat.le_of_ble_eq_true rfl, Nat.le_of_ble_eq_true rfl⟩) ?_
    refine W.eq (g2 := F0 m 10 ls [.int (wkind t)]) rfl ?_
    refine lv_iconst (v := 3) hx hb d_MO_having_10 (by decide) ?_
    refine lv_icmp_ne (tgt := 30) hx hb d_MO_having_11 (by decide) (fun hb_4 => ?_) (fun hb_4 => ?_)
    · skip
      refine lv_iconst (v := 0) hx hb d_MO_having_30 (by decide) ?_
      exact em_zret hx hb hr hlocks rfl hP hD hK hS () [0, 1] (by decide) rfl ⟨_, rfl, (show (((0 : Int32) = 1 ∧ hvT ha x t) ∨ ((0 : Int32) = 0 ∧ hvF ha x t)) from (Or.inr ⟨rfl, hq_3, fun h => absurd h hb_4⟩))⟩ d_MO_having_31
    · skip
      obtain ⟨cc, hcc, ecc⟩ := hw hb_4
      refine lv_aload_n hx hb d_MO_having_14 rfl (lv_at hl 0 rfl) ?_
      refine va_get (D := D) (ci := 8) (v := .ref (f 7)) (C := rn_MO) (T := fl_MO) (N := 55) hx hb hG in_MO hown hK hP 0 rfl rfl 14 (by decide) (hG _ k_1205) (fun _ h9 => h9) rfl d_MO_having_15 ?_
      refine lv_lload_n hx hb d_MO_having_18 rfl (lv_at hl 1 rfl) ?_
      refine W.callR (W.runS (As := [.long t]) (rest := [.ref (f 7)]) ⟨hx, hb, hml, hown, hG⟩ (mo_valueOf l D cI cL cZ cC t ) (cwS 1 hG (gd_S k_1522 k_1523 k_116 k_1524) rfl rfl rfl (by decide +kernel) ⟨Nat.le_of_ble_eq_true rfl, Nat.le_of_ble_eq_true rfl⟩) (wq_S hP hK [] rfl) rfl rfl hl.1 rfl (lv_room (Nat.le_of_ble_eq_true rfl)) d_MO_having_19 ⟨Nat.le_of_ble_eq_true rfl, Nat.le_of_ble_eq_true rfl⟩) ?_
      refine W.eq (g2 := F0 m 22 ls [.int t.toInt32, .ref (f 7)]) rfl ?_
      refine W.eq (g2 := F0 m 22 ls [.int (nI cc), .ref (f 7)]) (by rw [ecc]) ?_
      refine va_zald hx hb hK hP 1 2 rfl rfl (vp_in_nI (n := cc) (N := 2000) (by omega) (by omega)) d_MO_having_22 ?_
      refine W.eq (g2 := F0 m 23 ls [.int (ha cc)]) (by rw [nI_clamp (n := cc) (by omega)]) ?_
      refine lv_if_eq (tgt := 30) hx hb d_MO_having_23 (by decide) (fun hb_5 => ?_) (fun hb_5 => ?_)
      · skip
        refine lv_iconst (v := 0) hx hb d_MO_having_30 (by decide) ?_
        exact em_zret hx hb hr hlocks rfl hP hD hK hS () [0, 1] (by decide) rfl ⟨_, rfl, (show (((0 : Int32) = 1 ∧ hvT ha x t) ∨ ((0 : Int32) = 0 ∧ hvF ha x t)) from (Or.inr ⟨rfl, hq_3, fun _ => ⟨cc, hcc, ecc, hb_5⟩⟩))⟩ d_MO_having_31
      · skip
        refine lv_iconst (v := 1) hx hb d_MO_having_26 (by decide) ?_
        refine lv_goto (tgt := 31) hx hb d_MO_having_27 (by decide) ?_
        exact em_zret hx hb hr hlocks rfl hP hD hK hS () [0, 1] (by decide) rfl ⟨_, rfl, (show (((1 : Int32) = 1 ∧ hvT ha x t) ∨ ((1 : Int32) = 0 ∧ hvF ha x t)) from (Or.inl ⟨rfl, Or.inr ⟨hb_4, cc, hcc, ecc, (hha cc).resolve_left hb_5⟩⟩))⟩ d_MO_having_31
set_option maxHeartbeats 8000000 in
set_option maxRecDepth 100000 in
theorem mo_side (l : Launch) (D : va_G) (cI cL cZ cC : ClassId) (f : Nat → Nat) (h0 : Nat) (tn : Int32) (rm : Nat) (ln : Nat) (lx : Nat) (at_ : Nat) (bd : Int32) (fs : Nat) (dp : Nat) (on : Nat) (os : Nat) (bn : Nat) (df : Nat) (th : Int32) (tp : Nat) (mo_ : Int32) (ev : Nat) (ss : Int32) (so : Int32) (lk : Int64) (rs : Int64) (pt : Int32) (ot : Nat) (cl : Int32) (le : Nat → Int64) (ri : Nat → Int64) (fr : Nat → Int32) (ha : Nat → Int32) (be : Nat → Int64) (V : Tr) (Pk : Int64 → Prop) (t : Int64) (x : Int64) (sz : Nat) (hfr : rng 2000 fr) (hha : bln ha) (hs : sd le ri be ha Pk x t V) (ho : ∀ d, fo fr fs d + (toc V) d ≤ 1) (hcon : ∀ c : Nat, 2 ≤ c → c ≤ 22 → Pk (wof 2 (nI c))) (hbo : bdo bd) (hnt : l.stackTraces = false) : em_Met l y_MO_side (wz y_MO_side b_MO_side 5 (some .long)) ({ frames := 3, cells := 0, slots := 0, locals := 66 }) (va_Pc [.ref h0, .long t, .long x] (tw_pre D (tys4 cI cL cZ cC) [(h0, .inr (8, mS f tn rm ln lx at_ bd fs dp on os bn df th tp mo_ ev ss so lk rs pt ot cl)), ((f 3), .inl (cL, 2000, .inr (.inl le))), ((f 4), .inl (cL, 2000, .inr (.inl ri))), ((f 5), .inl (cI, 2000, .inl fr)), ((f 7), .inl (cZ, 2000, .inl ha)), ((f 8), .inl (cL, 2000, .inr (.inl be)))] sz)) D (tys4 cI cL cZ cC) (va_A [(h0, .inr (8, mS f tn rm ln lx at_ bd fs dp on os bn df th tp mo_ ev ss so lk rs pt ot cl)), ((f 3), .inl (cL, 2000, .inr (.inl le))), ((f 4), .inl (cL, 2000, .inr (.inl ri))), ((f 5), .inl (cI, 2000, .inl fr)), ((f 7), .inl (cZ, 2000, .inl ha)), ((f 8), .inl (cL, 2000, .inr (.inl be)))] sz) (fun (u : Int32 × Nat × (Nat → Int64) × (Nat → Int64)) => [(h0, .inr (8, mS f tn rm ln lx at_ u.1 u.2.1 dp on os bn df th tp mo_ ev ss so lk rs pt ot cl)), ((f 3), .inl (cL, 2000, .inr (.inl u.2.2.1))), ((f 4), .inl (cL, 2000, .inr (.inl u.2.2.2))), ((f 5), .inl (cI, 2000, .inl fr)), ((f 7), .inl (cZ, 2000, .inl ha)), ((f 8), .inl (cL, 2000, .inr (.inl be)))]) (fun v (u : Int32 × Nat × (Nat → Int64) × (Nat → Int64)) => ∃ r : Int64, v = some (.long r) ∧ ((u.1 = 0 → bd = 0) ∧ (bdo u.1) ∧ (∃ T' : Tr, rep u.2.2.1 u.2.2.2 r T' ∧ okT Pk T' ∧ (∀ d, fo fr u.2.1 d + (toc T') d ≤ fo fr fs d + toc V d) ∧ (∀ d, fo fr fs d + toc V d = 0 → u.2.2.1 d = le d ∧ u.2.2.2 d = ri d)))) (fun C (u : Int32 × Nat × (Nat → Int64) × (Nat → Int64)) => False) 0 0 := by
  refine em_Met.ofW (cc := b_MO_side) (maxL := 5) (ret := (some .long)) (by decide) rfl ?_
  intro p e s m args below meth c s₁ B hml hv hno
  obtain ⟨rfl, ⟨hsz, hP, hK, hD0⟩, hE⟩ := hv
  have hx := B.exec
  have hb := B.bytes
  have hr := B.returns
  have hts := atoms_spec (ws := wz y_MO_side b_MO_side 5 (some .long)) B.pre
  have hG := wz_G hts
  have hown : s.vm.findClass rn_MO = some m.cls := findClass_of_methodNamed B.named
  have hlocks := B.notSynchronized
  subst hsz
  have hD := hD0.self (sz := s.heap.size)
  have hst := tw_st hP
  generalize hAe : va_A [(h0, .inr (8, mS f tn rm ln lx at_ bd fs dp on os bn df th tp mo_ ev ss so lk rs pt ot cl)), ((f 3), .inl (cL, 2000, .inr (.inl le))), ((f 4), .inl (cL, 2000, .inr (.inl ri))), ((f 5), .inl (cI, 2000, .inl fr)), ((f 7), .inl (cZ, 2000, .inl ha)), ((f 8), .inl (cL, 2000, .inr (.inl be)))] s.heap.size = A at hD hst ⊢
  have hA : ∀ q : Nat, s.heap.size ≤ q → A q := fun q h => by rw [← hAe]; exact Or.inr h
  have hS : va_S A s.heap s.heap [] := va_S.rf
  have hl := lv_entry ([.ref h0, .long t, .long x]) (n := 5) (Nat.le_of_ble_eq_true rfl)
  rw [lg_entry_eq]
  generalize (lg_sl ([.ref h0, .long t, .long x]) ++ List.replicate (5 - (lg_sl ([.ref h0, .long t, .long x])).length) Slot.unset).toArray = ls at hl ⊢
  have hl : lv_has ls 5 [(0, .ref h0), (1, .long t), (3, .long x)] := hl
  refine lv_lload_n hx hb d_MO_side_0 rfl (lv_at hl 1 rfl) ?_
  refine lv_lload_n hx hb d_MO_side_1 rfl (lv_at hl 2 rfl) ?_
  refine W.lcmp hx hb d_MO_side_2 ?_
  refine lv_if_ne (tgt := 11) hx hb d_MO_side_3 (by decide) (fun hb_1 => ?_) (fun hb_1 => ?_)
  · skip
    have hq_2 : ¬ _ := fun h => hb_1 ((lg_cmp_eq _ _).mpr h)
    refine lv_aload_n hx hb d_MO_side_11 rfl (lv_at hl 0 rfl) ?_
    refine lv_lload_n hx hb d_MO_side_12 rfl (lv_at hl 1 rfl) ?_
    refine lv_lload_n hx hb d_MO_side_13 rfl (lv_at hl 2 rfl) ?_
    refine em_call (wr := [((f 3), .inl (cL, 2000, .inr (.inl le))), ((f 4), .inl (cL, 2000, .inr (.inl ri))), ((f 5), .inl (cI, 2000, .inl fr)), ((f 8), .inl (cL, 2000, .inr (.inl be)))]) (em_runV (As := [.long t, .long x]) (rest := []) ⟨hx, hb, hml, hown, hG⟩ (mo_having l D cI cL cZ cC f h0 tn rm ln lx at_ bd fs dp on os bn df th tp mo_ ev ss so lk rs pt ot cl ha t x _ hha (sd_w hs hq_2) hnt) (cwV 2 hG (gd_V k_1525 k_1527 k_79 k_116 k_1528) rfl rfl rfl (by decide +kernel) ⟨Nat.le_of_ble_eq_true rfl, Nat.le_of_ble_eq_true rfl⟩) (tw_V (q0 := 0) hP hD hK hE hst hS rfl rfl [0, 4] rfl (by decide)) rfl rfl hl.1 rfl (lv_room (Nat.le_of_ble_eq_true rfl)) d_MO_side_14 ⟨Nat.le_of_ble_eq_true rfl, Nat.le_of_ble_eq_true rfl⟩) hP hD hS hA [0, 4] [1, 2, 3, 5] rfl rfl (by decide) (by decide) (fun v u H locs hok hP hD hS => ?_) (fun x C u H locs hbad hxx hP hD hS => ?_)
    · skip
      obtain ⟨r_3, rfl, hp_4⟩ := hok
      have hres_5 : (((r_3 = 1 ∧ hvT ha x t) ∨ (r_3 = 0 ∧ hvF ha x t))) := hp_4
      have hP : va_P D classes [((f 3), .inl (cL, 2000, .inr (.inl le))), ((f 4), .inl (cL, 2000, .inr (.inl ri))), ((f 5), .inl (cI, 2000, .inl fr)), ((f 8), .inl (cL, 2000, .inr (.inl be))), (h0, .inr (8, mS f tn rm ln lx at_ bd fs dp on os bn df th tp mo_ ev ss so lk rs pt ot cl)), ((f 7), .inl (cZ, 2000, .inl ha))] H := hP
      have hD : va_D A [((f 3), .inl (cL, 2000, .inr (.inl le))), ((f 4), .inl (cL, 2000, .inr (.inl ri))), ((f 5), .inl (cI, 2000, .inl fr)), ((f 8), .inl (cL, 2000, .inr (.inl be))), (h0, .inr (8, mS f tn rm ln lx at_ bd fs dp on os bn df th tp mo_ ev ss so lk rs pt ot cl)), ((f 7), .inl (cZ, 2000, .inl ha))] := hD
      rcases hres_5 with ⟨rfl, hy_6⟩ | ⟨rfl, hy_6⟩
      · skip
        obtain ⟨cc, hcc, ecc, hR0, hK0⟩ := sd_T hs hq_2 hy_6
        refine W.eq (g2 := F0 m 17 ls [.int 1]) rfl ?_
        refine lv_if_eq (tgt := 32) hx hb d_MO_side_17 (by decide) (fun hbr => absurd hbr (by decide)) (fun hbr => ?_)
        refine lv_aload_n hx hb d_MO_side_20 rfl (lv_at hl 0 rfl) ?_
        refine va_get (D := D) (ci := 8) (v := .ref (f 8)) (C := rn_MO) (T := fl_MO) (N := 55) hx hb hG in_MO hown hK hP 4 rfl rfl 15 (by decide) (hG _ k_1206) (fun _ h9 => h9) rfl d_MO_side_21 ?_
        refine lv_lload_n hx hb d_MO_side_24 rfl (lv_at hl 1 rfl) ?_
        refine W.callR (W.runS (As := [.long t]) (rest := [.ref (f 8)]) ⟨hx, hb, hml, hown, hG⟩ (mo_valueOf l D cI cL cZ cC t ) (cwS 1 hG (gd_S k_1522 k_1523 k_116 k_1524) rfl rfl rfl (by decide +kernel) ⟨Nat.le_of_ble_eq_true rfl, Nat.le_of_ble_eq_true rfl⟩) (wq_S hP hK [] rfl) rfl rfl hl.1 rfl (lv_room (Nat.le_of_ble_eq_true rfl)) d_MO_side_25 ⟨Nat.le_of_ble_eq_true rfl, Nat.le_of_ble_eq_true rfl⟩) ?_
        refine W.eq (g2 := F0 m 28 ls [.int t.toInt32, .ref (f 8)]) rfl ?_
        refine W.eq (g2 := F0 m 28 ls [.int (nI cc), .ref (f 8)]) (by rw [ecc]) ?_
        refine va_lald hx hb hK hP 3 1 rfl rfl (vp_in_nI (n := cc) (N := 2000) (by omega) (by omega)) d_MO_side_28 ?_
        refine W.eq (g2 := F0 m 29 ls [.long (be cc)]) (by rw [nI_clamp (n := cc) (by omega)]) ?_
        refine lv_goto (tgt := 41) hx hb d_MO_side_29 (by decide) ?_
        exact em_lret hx hb hr hlocks hP hD hK hS (bd, fs, le, ri) [4, 0, 1, 2, 5, 3] (by decide) rfl ⟨_, rfl, ⟨(show bd = 0 → bd = 0 from (by first | exact id | exact (fun q => absurd q (by assumption)) | exact (id))), (show bdo bd from (by first | assumption | omega | exact Or.inl rfl)), (show ∃ T' : Tr, rep le ri (be cc : Int64) T' ∧ okT Pk T' ∧ (∀ d, fo fr fs d + (toc T') d ≤ fo fr fs d + toc V d) ∧ (∀ d, fo fr fs d + toc V d = 0 → le d = le d ∧ ri d = ri d) from ⟨V, hR0, hK0, (fun d => Nat.le_refl _), fun d _ => ⟨rfl, rfl⟩⟩)⟩⟩ d_MO_side_41
      · skip
        obtain ⟨hR0, hK0⟩ := sd_F hs hy_6
        refine W.eq (g2 := F0 m 17 ls [.int 0]) rfl ?_
        refine lv_if_eq (tgt := 32) hx hb d_MO_side_17 (by decide) (fun hbr => ?_) (fun hbr => absurd (by decide) hbr)
        refine lv_aload_n hx hb d_MO_side_32 rfl (lv_at hl 0 rfl) ?_
        refine lv_iconst (v := 3) hx hb d_MO_side_33 (by decide) ?_
        refine W.callRL (W.runS (As := [.int 3]) (rest := [.ref h0]) ⟨hx, hb, hml, hown, hG⟩ (mo_constant l D cI cL cZ cC 3 ) (cwS 1 hG (gd_S k_1461 k_1462 k_116 k_1463) rfl rfl rfl (by decide +kernel) ⟨Nat.le_of_ble_eq_true rfl, Nat.le_of_ble_eq_true rfl⟩) (wq_S hP hK [] rfl) rfl rfl hl.1 rfl (lv_room (Nat.le_of_ble_eq_true rfl)) d_MO_side_34 ⟨Nat.le_of_ble_eq_true rfl, Nat.le_of_ble_eq_true rfl⟩) ?_
        refine W.eq (g2 := F0 m 37 ls [.long (wof 2 3), .ref h0]) rfl ?_
        refine lv_lload_n hx hb d_MO_side_37 rfl (lv_at hl 1 rfl) ?_
        refine em_call (wr := [((f 8), .inl (cL, 2000, .inr (.inl be))), ((f 7), .inl (cZ, 2000, .inl ha))]) (em_runV (As := [.long (wof 2 3), .long t]) (rest := []) ⟨hx, hb, hml, hown, hG⟩ (mo_apply l D cI cL cZ cC f h0 tn rm ln lx at_ bd fs dp on os bn df th tp mo_ ev ss so lk rs pt ot cl le ri fr (Lean.RArray.leaf (wof 2 3)) V Pk (wof 2 3) t _ hfr (rep_lf (by rw [wkind_of]; decide)) hR0 (by intro d; have a0 := ho d; have a1 := (Tr.occ_lf (wof 2 3)) d; omega) (hcon 3 (by decide) (by decide)) hK0 (hcon 2 (by decide) (by decide)) (by first | assumption | omega | exact Or.inl rfl) hnt) (cwV 2 hG (gd_V k_1457 k_1459 k_67 k_116 k_1460) rfl rfl rfl (by decide +kernel) ⟨Nat.le_of_ble_eq_true rfl, Nat.le_of_ble_eq_true rfl⟩) (tw_V (q0 := 4) hP hD hK hE hst hS rfl rfl [4, 0, 1, 2] rfl (by decide)) rfl rfl hl.1 rfl (lv_room (Nat.le_of_ble_eq_true rfl)) d_MO_side_38 ⟨Nat.le_of_ble_eq_true rfl, Nat.le_of_ble_eq_true rfl⟩) hP hD hS hA [4, 0, 1, 2] [3, 5] rfl rfl (by decide) (by decide) (fun v u H locs hok hP hD hS => ?_) (fun x C u H locs hbad hxx hP hD hS => ?_)
        · skip
          obtain ⟨bd_7, fs_8, le_9, ri_10⟩ := u
          obtain ⟨r_11, rfl, hp_12⟩ := hok
          obtain ⟨hbz_13, hbo_14, hres_15⟩ : (bd_7 = 0 → bd = 0) ∧ (bdo bd_7) ∧ (∃ T' : Tr, rep le_9 ri_10 r_11 T' ∧ okT Pk T' ∧ (∀ d, fo fr fs_8 d + (toc T') d ≤ fo fr fs d + (toc (Lean.RArray.leaf (wof 2 3)) d + toc V d)) ∧ (∀ d, fo fr fs d + (toc (Lean.RArray.leaf (wof 2 3)) d + toc V d) = 0 → le_9 d = le d ∧ ri_10 d = ri d)) := hp_12
          obtain ⟨T_16, hR_17, hK_18, hF_19, hA_20⟩ := hres_15
          have hP : va_P D classes [((f 8), .inl (cL, 2000, .inr (.inl be))), ((f 7), .inl (cZ, 2000, .inl ha)), (h0, .inr (8, mS f tn rm ln lx at_ bd_7 fs_8 dp on os bn df th tp mo_ ev ss so lk rs pt ot cl)), ((f 3), .inl (cL, 2000, .inr (.inl le_9))), ((f 4), .inl (cL, 2000, .inr (.inl ri_10))), ((f 5), .inl (cI, 2000, .inl fr))] H := hP
          have hD : va_D A [((f 8), .inl (cL, 2000, .inr (.inl be))), ((f 7), .inl (cZ, 2000, .inl ha)), (h0, .inr (8, mS f tn rm ln lx at_ bd_7 fs_8 dp on os bn df th tp mo_ ev ss so lk rs pt ot cl)), ((f 3), .inl (cL, 2000, .inr (.inl le_9))), ((f 4), .inl (cL, 2000, .inr (.inl ri_10))), ((f 5), .inl (cI, 2000, .inl fr))] := hD
          refine W.eq (g2 := F0 m 41 ls [.long r_11]) rfl ?_
          exact em_lret hx hb hr hlocks hP hD hK hS (bd_7, fs_8, le_9, ri_10) [2, 3, 4, 5, 1, 0] (by decide) rfl ⟨_, rfl, ⟨(show bd_7 = 0 → bd = 0 from (by first | exact id | exact (fun q => absurd q (by assumption)) | exact (fun q => hbz_13 q))), (show bdo bd_7 from (by first | assumption | omega | exact Or.inl rfl)), (show ∃ T' : Tr, rep le_9 ri_10 (r_11 : Int64) T' ∧ okT Pk T' ∧ (∀ d, fo fr fs_8 d + (toc T') d ≤ fo fr fs d + toc V d) ∧ (∀ d, fo fr fs d + toc V d = 0 → le_9 d = le d ∧ ri_10 d = ri d) from ⟨T_16, hR_17, hK_18, (by intro d; have a0 := ho d; have a1 := (Tr.occ_lf (wof 2 3)) d; have a2 := hF_19 d; omega), (fun d hd => by have a0 := ho d; have a1 := (Tr.occ_lf (wof 2 3)) d; have a2 := hF_19 d; have g0 := hA_20 d (by omega); exact ⟨by rw [g0.1], by rw [g0.2]⟩)⟩)⟩⟩ d_MO_side_41
        · skip
          exact hbad.elim
    · skip
      exact hbad.elim
  · skip
    have hq_21 := (lg_cmp_eq _ _).mp hb_1
    refine lv_iconst (v := 2) hx hb d_MO_side_6 (by decide) ?_
    refine W.callRL (W.runS (As := [.int 2]) (rest := []) ⟨hx, hb, hml, hown, hG⟩ (mo_constant l D cI cL cZ cC 2 ) (cwS 1 hG (gd_S k_1461 k_1462 k_116 k_1463) rfl rfl rfl (by decide +kernel) ⟨Nat.le_of_ble_eq_true rfl, Nat.le_of_ble_eq_true rfl⟩) (wq_S hP hK [] rfl) rfl rfl hl.1 rfl (lv_room (Nat.le_of_ble_eq_true rfl)) d_MO_side_7 ⟨Nat.le_of_ble_eq_true rfl, Nat.le_of_ble_eq_true rfl⟩) ?_
    refine W.eq (g2 := F0 m 10 ls [.long (wof 2 2)]) rfl ?_
    exact em_lret hx hb hr hlocks hP hD hK hS (bd, fs, le, ri) [0, 1, 2, 3, 4, 5] (by decide) rfl ⟨_, rfl, ⟨(show bd = 0 → bd = 0 from (by first | exact id | exact (fun q => absurd q (by assumption)) | exact (id))), (show bdo bd from (by first | assumption | omega | exact Or.inl rfl)), (show ∃ T' : Tr, rep le ri (wof 2 2 : Int64) T' ∧ okT Pk T' ∧ (∀ d, fo fr fs d + (toc T') d ≤ fo fr fs d + toc V d) ∧ (∀ d, fo fr fs d + toc V d = 0 → le d = le d ∧ ri d = ri d) from ⟨Lean.RArray.leaf (wof 2 2), (rep_lf (by rw [wkind_of]; decide)), (hcon 2 (by decide) (by decide)), (by intro d; have a0 := ho d; have a1 := (Tr.occ_lf (wof 2 2)) d; omega), (fun d _ => ⟨rfl, rfl⟩)⟩)⟩⟩ d_MO_side_10
set_option maxHeartbeats 8000000 in
set_option maxRecDepth 100000 in
theorem mo_within400 (l : Launch) (D : va_G) (cI cL cZ cC : ClassId) (f : Nat → Nat) (h0 : Nat) (tn : Int32) (rm : Nat) (ln : Nat) (lx : Nat) (at_ : Nat) (bd : Int32) (fs : Nat) (dp : Nat) (on : Nat) (os : Nat) (bn : Nat) (df : Nat) (th : Int32) (tp : Nat) (mo_ : Int32) (ev : Nat) (ss : Int32) (so : Int32) (lk : Int64) (rs : Int64) (pt : Int32) (ot : Nat) (cl : Int32) (od : Nat → Int32) (le : Nat → Int64) (ri : Nat → Int64) (T : Tr) (t : Int64) (sz : Nat) (h1 : bd = 0 → rep le ri t T) (ho : ∀ d, toc T d ≤ 1) (hbo : bdo bd) (hnt : l.stackTraces = false) : em_Met l y_MO_within400 (wz y_MO_within400 b_MO_within400 3 (some .long)) ({ frames := 2, cells := 0, slots := 0, locals := 46 }) (va_Pc [.ref h0, .long t] (tw_pre D (tys4 cI cL cZ cC) [(h0, .inr (8, mS f tn rm ln lx at_ bd fs dp on os bn df th tp mo_ ev ss so lk rs pt ot cl)), ((f 6), .inl (cI, 2000, .inl od)), ((f 3), .inl (cL, 2000, .inr (.inl le))), ((f 4), .inl (cL, 2000, .inr (.inl ri)))] sz)) D (tys4 cI cL cZ cC) (va_A [(h0, .inr (8, mS f tn rm ln lx at_ bd fs dp on os bn df th tp mo_ ev ss so lk rs pt ot cl)), ((f 6), .inl (cI, 2000, .inl od)), ((f 3), .inl (cL, 2000, .inr (.inl le))), ((f 4), .inl (cL, 2000, .inr (.inl ri)))] sz) (fun (u : Int32 × (Nat → Int32)) => [(h0, .inr (8, mS f tn rm ln lx at_ u.1 fs dp on os bn df th tp mo_ ev ss so lk rs pt ot cl)), ((f 6), .inl (cI, 2000, .inl u.2)), ((f 3), .inl (cL, 2000, .inr (.inl le))), ((f 4), .inl (cL, 2000, .inr (.inl ri)))]) (fun v (u : Int32 × (Nat → Int32)) => ∃ r : Int64, v = some (.long r) ∧ ((u.1 = 0 → bd = 0) ∧ (bdo u.1) ∧ (t = r))) (fun C (u : Int32 × (Nat → Int32)) => False) 0 0 := by
  refine em_Met.ofW (cc := b_MO_within400) (maxL := 3) (ret := (some .long)) (by decide) rfl ?_
  intro p e s m args below meth c s₁ B hml hv hno
  obtain ⟨rfl, ⟨hsz, hP, hK, hD0⟩, hE⟩ := hv
  have hx := B.exec
  have hb := B.bytes
  have hr := B.returns
  have hts := atoms_spec (ws := wz y_MO_within400 b_MO_within400 3 (some .long)) B.pre
  have hG := wz_G hts
  have hown : s.vm.findClass rn_MO = some m.cls := findClass_of_methodNamed B.named
  have hlocks := B.notSynchronized
  subst hsz
  have hD := hD0.self (sz := s.heap.size)
  have hst := tw_st hP
  generalize hAe : va_A [(h0, .inr (8, mS f tn rm ln lx at_ bd fs dp on os bn df th tp mo_ ev ss so lk rs pt ot cl)), ((f 6), .inl (cI, 2000, .inl od)), ((f 3), .inl (cL, 2000, .inr (.inl le))), ((f 4), .inl (cL, 2000, .inr (.inl ri)))] s.heap.size = A at hD hst ⊢
  have hA : ∀ q : Nat, s.heap.size ≤ q → A q := fun q h => by rw [← hAe]; exact Or.inr h
  have hS : va_S A s.heap s.heap [] := va_S.rf
  have hl := lv_entry ([.ref h0, .long t]) (n := 3) (Nat.le_of_ble_eq_true rfl)
  rw [lg_entry_eq]
  generalize (lg_sl ([.ref h0, .long t]) ++ List.replicate (3 - (lg_sl ([.ref h0, .long t])).length) Slot.unset).toArray = ls at hl ⊢
  have hl : lv_has ls 3 [(0, .ref h0), (1, .long t)] := hl
  refine lv_aload_n hx hb d_MO_within400_0 rfl (lv_at hl 0 rfl) ?_
  refine va_get (D := D) (ci := 8) (v := .int bd) (C := rn_MO) (T := fl_MO) (N := 55) hx hb hG in_MO hown hK hP 0 rfl rfl 6 (by decide) (hG _ k_1197) (fun _ h9 => h9) rfl d_MO_within400_1 ?_
  refine lv_if_ne (tgt := 23) hx hb d_MO_within400_4 (by decide) (fun hb_1 => ?_) (fun hb_1 => ?_)
  · skip
    refine lv_lload_n hx hb d_MO_within400_23 rfl (lv_at hl 1 rfl) ?_
    exact em_lret hx hb hr hlocks hP hD hK hS (bd, od) [0, 1, 2, 3] (by decide) rfl ⟨_, rfl, ⟨(show bd = 0 → bd = 0 from (by first | exact id | exact (fun q => absurd q (by assumption)) | exact (id))), (show bdo bd from (by first | assumption | omega | exact Or.inl rfl)), (show t = (t : Int64) from rfl)⟩⟩ d_MO_within400_24
  · skip
    refine lv_aload_n hx hb d_MO_within400_7 rfl (lv_at hl 0 rfl) ?_
    refine lv_lload_n hx hb d_MO_within400_8 rfl (lv_at hl 1 rfl) ?_
    refine em_call (wr := []) (em_runV (As := [.long t]) (rest := []) ⟨hx, hb, hml, hown, hG⟩ (mo_cells l D cI cL cZ cC f h0 tn rm ln lx at_ bd fs dp on os bn df th tp mo_ ev ss so lk rs pt ot cl od le ri T t _ (h1 hb_1) ho hnt) (cwV 1 hG (gd_V k_1515 k_1517 k_78 k_116 k_1518) rfl rfl rfl (by decide +kernel) ⟨Nat.le_of_ble_eq_true rfl, Nat.le_of_ble_eq_true rfl⟩) (tw_V (q0 := 0) hP hD hK hE hst hS rfl rfl [0, 1, 2, 3] rfl (by decide)) rfl rfl hl.1 rfl (lv_room (Nat.le_of_ble_eq_true rfl)) d_MO_within400_9 ⟨Nat.le_of_ble_eq_true rfl, Nat.le_of_ble_eq_true rfl⟩) hP hD hS hA [0, 1, 2, 3] [] rfl rfl (by decide) (by decide) (fun v u H locs hok hP hD hS => ?_) (fun x C u H locs hbad hxx hP hD hS => ?_)
    · skip
      obtain ⟨od_2, rfl⟩ : ∃ z, z = u := ⟨_, rfl⟩
      obtain ⟨r_3, rfl, hp_4⟩ := hok
      have hres_5 : ((r_3 = nI (tsz T) ∧ tsz T ≤ 2000 ∧ ∃ S, BI le ri od_2 S T (tsz T) (tsz T))) := hp_4
      obtain ⟨rfl, hszT, S, hBI⟩ := hres_5
      have hP : va_P D classes [(h0, .inr (8, mS f tn rm ln lx at_ bd fs dp on os bn df th tp mo_ ev ss so lk rs pt ot cl)), ((f 6), .inl (cI, 2000, .inl od_2)), ((f 3), .inl (cL, 2000, .inr (.inl le))), ((f 4), .inl (cL, 2000, .inr (.inl ri)))] H := hP
      have hD : va_D A [(h0, .inr (8, mS f tn rm ln lx at_ bd fs dp on os bn df th tp mo_ ev ss so lk rs pt ot cl)), ((f 6), .inl (cI, 2000, .inl od_2)), ((f 3), .inl (cL, 2000, .inr (.inl le))), ((f 4), .inl (cL, 2000, .inr (.inl ri)))] := hD
      refine W.eq (g2 := F0 m 12 ls [.int (nI (tsz T))]) rfl ?_
      refine lv_sipush (v := 400) hx hb d_MO_within400_12 (by decide) ?_
      refine lv_icmp_le (tgt := 23) hx hb d_MO_within400_15 (by decide) (fun hb_6 => ?_) (fun hb_6 => ?_)
      · skip
        have hn_7 : (tsz T) ≤ 400 := (nI_leI (a := tsz T) (b := 400) (by omega) (by omega)).mp hb_6
        refine lv_lload_n hx hb d_MO_within400_23 rfl (lv_at hl 1 rfl) ?_
        exact em_lret hx hb hr hlocks hP hD hK hS (bd, od_2) [0, 1, 2, 3] (by decide) rfl ⟨_, rfl, ⟨(show bd = 0 → bd = 0 from (by first | exact id | exact (fun q => absurd q (by assumption)) | exact (id))), (show bdo bd from (by first | assumption | omega | exact Or.inl rfl)), (show t = (t : Int64) from rfl)⟩⟩ d_MO_within400_24
      · skip
        have hn_8 : ¬ (tsz T) ≤ 400 := fun h => hb_6 ((nI_leI (a := tsz T) (b := 400) (by omega) (by omega)).mpr h)
        refine lv_aload_n hx hb d_MO_within400_18 rfl (lv_at hl 0 rfl) ?_
        refine lv_iconst (v := 3) hx hb d_MO_within400_19 (by decide) ?_
        refine em_call (wr := [((f 6), .inl (cI, 2000, .inl od_2)), ((f 3), .inl (cL, 2000, .inr (.inl le))), ((f 4), .inl (cL, 2000, .inr (.inl ri)))]) (em_runV (As := [.int 3]) (rest := []) ⟨hx, hb, hml, hown, hG⟩ (mo_wrong l D cI cL cZ cC f h0 tn rm ln lx at_ bd fs dp on os bn df th tp mo_ ev ss so lk rs pt ot cl 3 _ (by decide) (by first | assumption | omega | exact Or.inl rfl) hnt) (cwV 1 hG (gd_V k_1388 k_1390 k_54 k_116 k_1391) rfl rfl rfl (by decide +kernel) ⟨Nat.le_of_ble_eq_true rfl, Nat.le_of_ble_eq_true rfl⟩) (tw_V (q0 := 0) hP hD hK hE hst hS rfl rfl [0] rfl (by decide)) rfl rfl hl.1 rfl (lv_room (Nat.le_of_ble_eq_true rfl)) d_MO_within400_20 ⟨Nat.le_of_ble_eq_true rfl, Nat.le_of_ble_eq_true rfl⟩) hP hD hS hA [0] [1, 2, 3] rfl rfl (by decide) (by decide) (fun v u H locs hok hP hD hS => ?_) (fun x C u H locs hbad hxx hP hD hS => ?_)
        · skip
          obtain ⟨bd_9, rfl⟩ : ∃ z, z = u := ⟨_, rfl⟩
          obtain ⟨rfl, hp_11⟩ := hok
          obtain ⟨hbn_12, hbo_13, hbx_14⟩ : (¬ bd_9 = 0) ∧ (bdo bd_9) ∧ (bd = 0 → bd_9 = (3 : Int32)) := hp_11
          have hP : va_P D classes [((f 6), .inl (cI, 2000, .inl od_2)), ((f 3), .inl (cL, 2000, .inr (.inl le))), ((f 4), .inl (cL, 2000, .inr (.inl ri))), (h0, .inr (8, mS f tn rm ln lx at_ bd_9 fs dp on os bn df th tp mo_ ev ss so lk rs pt ot cl))] H := hP
          have hD : va_D A [((f 6), .inl (cI, 2000, .inl od_2)), ((f 3), .inl (cL, 2000, .inr (.inl le))), ((f 4), .inl (cL, 2000, .inr (.inl ri))), (h0, .inr (8, mS f tn rm ln lx at_ bd_9 fs dp on os bn df th tp mo_ ev ss so lk rs pt ot cl))] := hD
          refine W.eq (g2 := F0 m 23 ls []) rfl ?_
          refine lv_lload_n hx hb d_MO_within400_23 rfl (lv_at hl 1 rfl) ?_
          exact em_lret hx hb hr hlocks hP hD hK hS (bd_9, od_2) [3, 0, 1, 2] (by decide) rfl ⟨_, rfl, ⟨(show bd_9 = 0 → bd = 0 from (by first | exact id | exact (fun q => absurd q (by assumption)) | exact (id))), (show bdo bd_9 from (by first | assumption | omega | exact Or.inl rfl)), (show t = (t : Int64) from rfl)⟩⟩ d_MO_within400_24
        · skip
          exact hbad.elim
    · skip
      exact hbad.elim
