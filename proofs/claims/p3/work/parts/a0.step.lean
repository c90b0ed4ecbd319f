theorem ss_ne (x : Int32) : ¬ x + 1 = x := by
  intro h
  have := congrArg Int32.toBitVec h
  have e : (x + 1).toBitVec = x.toBitVec + 1#32 := rfl
  rw [e] at this
  have h2 := congrArg BitVec.toNat this
  rw [BitVec.toNat_add] at h2
  have h3 := x.toBitVec.isLt
  have h4 : (1#32).toNat = 1 := rfl
  rw [h4] at h2
  omega
theorem MI.left {nd tp c : Nat} {Gc : Nat → Prop} {trm one two : Nat → Int64} {spn : Nat → Int32} {lk rs : Int64} {pt : Int32} (h : MI nd Gc trm one two spn tp lk rs pt) (hc : Gc c) (ht : tp < 150) : MI nd Gc trm one two (upd spn tp (nI c)) (tp + 1) (one c) rs pt := by
  obtain ⟨h1, h2, h3, h4, h5⟩ := h
  refine ⟨h1, (h1.2.2.2 c hc).1, h3, by omega, fun k hk => ?_⟩
  by_cases e : k = tp
  · exact ⟨c, hc, upd_at e⟩
  · rw [upd_ne e]; exact h5 k (by omega)

set_option maxHeartbeats 8000000 in
set_option maxRecDepth 100000 in
theorem mo_act (l : Launch) (D : va_G) (cI cL cZ cC : ClassId) (f : Nat → Nat) (h0 : Nat) (tn : Int32) (rm : Nat) (ln : Nat) (lx : Nat) (at_ : Nat) (bd : Int32) (fs : Nat) (dp : Nat) (on : Nat) (os : Nat) (bn : Nat) (df : Nat) (th : Int32) (tp : Nat) (mo_ : Int32) (ev : Nat) (ss : Int32) (so : Int32) (lk : Int64) (rs : Int64) (pt : Int32) (ot : Nat) (cl : Int32) (one : Nat → Int64) (two : Nat → Int64) (bss : Nat → Int32) (wts : Nat → Int32) (snd : Nat → Int32) (nbr : Nat → Int32) (lts : Nat → Int32) (mrk : Nat → Int32) (wlk : Nat → Int32) (spn : Nat → Int32) (trm : Nat → Int64) (Gc : Nat → Prop) (sz : Nat) (hsnd : bln snd) (hmrk : bln mrk) (hMI : MI df Gc trm one two spn tp lk rs pt) (hrm : rm ≤ 400) (hev : ev ≤ 40) (hme : me bss wts ev tp 0) (hot : ot + 12 < 2147483647) (hk3 : ¬ wkind lk = 3) (hnt : l.stackTraces = false) : em_Met l y_MO_act (wz y_MO_act b_MO_act 4 none) ({ frames := 5, cells := 0, slots := 0, locals := 125 }) (va_Pc [.ref h0] (tw_pre D (tys4 cI cL cZ cC) [(h0, .inr (8, mS f tn rm ln lx at_ bd fs dp on os bn df th tp mo_ ev ss so lk rs pt ot cl)), ((f 20), .inl (cL, 400, .inr (.inl one))), ((f 21), .inl (cL, 400, .inr (.inl two))), ((f 25), .inl (cI, 41, .inl bss)), ((f 26), .inl (cI, 41, .inl wts)), ((f 27), .inl (cZ, 41, .inl snd)), ((f 28), .inl (cI, 41, .inl nbr)), ((f 29), .inl (cI, 200, .inl lts)), ((f 22), .inl (cZ, 400, .inl mrk)), ((f 23), .inl (cI, 810, .inl wlk)), ((f 24), .inl (cI, 150, .inl spn)), ((f 18), .inl (cL, 9, .inr (.inl trm)))] sz)) D (tys4 cI cL cZ cC) (va_A [(h0, .inr (8, mS f tn rm ln lx at_ bd fs dp on os bn df th tp mo_ ev ss so lk rs pt ot cl)), ((f 20), .inl (cL, 400, .inr (.inl one))), ((f 21), .inl (cL, 400, .inr (.inl two))), ((f 25), .inl (cI, 41, .inl bss)), ((f 26), .inl (cI, 41, .inl wts)), ((f 27), .inl (cZ, 41, .inl snd)), ((f 28), .inl (cI, 41, .inl nbr)), ((f 29), .inl (cI, 200, .inl lts)), ((f 22), .inl (cZ, 400, .inl mrk)), ((f 23), .inl (cI, 810, .inl wlk)), ((f 24), .inl (cI, 150, .inl spn)), ((f 18), .inl (cL, 9, .inr (.inl trm)))] sz) (fun (u : Nat × Nat × Int64 × Int32 × Int32 × Int64 × Int32 × Nat × (Nat → Int64) × (Nat → Int64) × (Nat → Int32) × (Nat → Int32) × (Nat → Int32) × (Nat → Int32) × (Nat → Int32) × (Nat → Int32) × (Nat → Int32)) => [(h0, .inr (8, mS f tn rm ln lx at_ bd fs dp on os bn df th u.2.1 mo_ u.1 u.2.2.2.1 u.2.2.2.2.1 u.2.2.1 u.2.2.2.2.2.1 u.2.2.2.2.2.2.1 u.2.2.2.2.2.2.2.1 cl)), ((f 20), .inl (cL, 400, .inr (.inl u.2.2.2.2.2.2.2.2.1))), ((f 21), .inl (cL, 400, .inr (.inl u.2.2.2.2.2.2.2.2.2.1))), ((f 25), .inl (cI, 41, .inl u.2.2.2.2.2.2.2.2.2.2.1)), ((f 26), .inl (cI, 41, .inl u.2.2.2.2.2.2.2.2.2.2.2.1)), ((f 27), .inl (cZ, 41, .inl u.2.2.2.2.2.2.2.2.2.2.2.2.1)), ((f 28), .inl (cI, 41, .inl u.2.2.2.2.2.2.2.2.2.2.2.2.2.1)), ((f 29), .inl (cI, 200, .inl u.2.2.2.2.2.2.2.2.2.2.2.2.2.2.1)), ((f 22), .inl (cZ, 400, .inl u.2.2.2.2.2.2.2.2.2.2.2.2.2.2.2.1)), ((f 23), .inl (cI, 810, .inl u.2.2.2.2.2.2.2.2.2.2.2.2.2.2.2.2)), ((f 24), .inl (cI, 150, .inl spn)), ((f 18), .inl (cL, 9, .inr (.inl trm)))]) (fun v (u : Nat × Nat × Int64 × Int32 × Int32 × Int64 × Int32 × Nat × (Nat → Int64) × (Nat → Int64) × (Nat → Int32) × (Nat → Int32) × (Nat → Int32) × (Nat → Int32) × (Nat → Int32) × (Nat → Int32) × (Nat → Int32)) => v = none ∧ ((bln u.2.2.2.2.2.2.2.2.2.2.2.2.1) ∧ (bln u.2.2.2.2.2.2.2.2.2.2.2.2.2.2.2.1) ∧ (∃ G' : Nat → Prop, MI df G' trm u.2.2.2.2.2.2.2.2.1 u.2.2.2.2.2.2.2.2.2.1 spn u.2.1 u.2.2.1 u.2.2.2.2.2.1 u.2.2.2.2.2.2.1 ∧ u.1 ≤ 40 ∧ me u.2.2.2.2.2.2.2.2.2.2.1 u.2.2.2.2.2.2.2.2.2.2.2.1 u.1 u.2.1 0 ∧ u.2.2.2.2.2.2.2.1 ≤ ot + 12 ∧ (u.2.2.2.1 = ss + 1 ∨ (u.2.2.2.1 = ss ∧ ¬ u.2.2.2.2.1 = 0 ∧ u.2.2.2.2.2.2.2.1 = ot) ∨ (u.2.2.2.1 = ss ∧ u.2.2.2.2.1 = so ∧ u.2.2.2.2.2.2.2.1 = ot ∧ ms u.2.2.2.2.2.2.1 u.1 u.2.2.2.2.2.2.2.2.2.2.2.2.1 u.2.1 < ms pt ev snd tp))))) (fun C (u : Nat × Nat × Int64 × Int32 × Int32 × Int64 × Int32 × Nat × (Nat → Int64) × (Nat → Int64) × (Nat → Int32) × (Nat → Int32) × (Nat → Int32) × (Nat → Int32) × (Nat → Int32) × (Nat → Int32) × (Nat → Int32)) => False) 0 0 := by
  refine em_Met.ofW (cc := b_MO_act) (maxL := 4) (ret := none) (by decide) rfl ?_
  intro p e s m args below meth c s₁ B hml hv hno
  obtain ⟨rfl, ⟨hsz, hP, hK, hD0⟩, hE⟩ := hv
  have hx := B.exec
  have hb := B.bytes
  have hr := B.returns
  have hts := atoms_spec (ws := wz y_MO_act b_MO_act 4 none) B.pre
  have hG := wz_G hts
  have hown : s.vm.findClass rn_MO = some m.cls := findClass_of_methodNamed B.named
  have hlocks := B.notSynchronized
  subst hsz
  have hD := hD0.self (sz := s.heap.size)
  have hst := tw_st hP
  generalize hAe : va_A [(h0, .inr (8, mS f tn rm ln lx at_ bd fs dp on os bn df th tp mo_ ev ss so lk rs pt ot cl)), ((f 20), .inl (cL, 400, .inr (.inl one))), ((f 21), .inl (cL, 400, .inr (.inl two))), ((f 25), .inl (cI, 41, .inl bss)), ((f 26), .inl (cI, 41, .inl wts)), ((f 27), .inl (cZ, 41, .inl snd)), ((f 28), .inl (cI, 41, .inl nbr)), ((f 29), .inl (cI, 200, .inl lts)), ((f 22), .inl (cZ, 400, .inl mrk)), ((f 23), .inl (cI, 810, .inl wlk)), ((f 24), .inl (cI, 150, .inl spn)), ((f 18), .inl (cL, 9, .inr (.inl trm)))] s.heap.size = A at hD hst ⊢
  have hA : ∀ q : Nat, s.heap.size ≤ q → A q := fun q h => by rw [← hAe]; exact Or.inr h
  have hS : va_S A s.heap s.heap [] := va_S.rf
  have hl := lv_entry ([.ref h0]) (n := 4) (Nat.le_of_ble_eq_true rfl)
  rw [lg_entry_eq]
  generalize (lg_sl ([.ref h0]) ++ List.replicate (4 - (lg_sl ([.ref h0])).length) Slot.unset).toArray = ls at hl ⊢
  have hl : lv_has ls 4 [(0, .ref h0)] := hl
  obtain ⟨hHG, hlk, hrs, htp, hsp⟩ := id hMI
  refine lv_aload_n hx hb d_MO_act_0 rfl (lv_at hl 0 rfl) ?_
  refine va_get (D := D) (ci := 8) (v := .long lk) (C := rn_MO) (T := fl_MO) (N := 55) hx hb hG in_MO hown hK hP 0 rfl rfl 47 (by decide) (hG _ k_1238) (fun _ h9 => h9) rfl d_MO_act_1 ?_
  refine W.callR (W.runS (As := [.long lk]) (rest := []) ⟨hx, hb, hml, hown, hG⟩ (mo_kindOf l D cI cL cZ cC lk ) (cwS 1 hG (gd_S k_1519 k_1520 k_116 k_1521) rfl rfl rfl (by decide +kernel) ⟨Nat.le_of_ble_eq_true rfl, Nat.le_of_ble_eq_true rfl⟩) (wq_S hP hK [] rfl) rfl rfl hl.1 rfl (lv_room (Nat.le_of_ble_eq_true rfl)) d_MO_act_4 ⟨Nat.le_of_ble_eq_true rfl, Nat.le_of_ble_eq_true rfl⟩) ?_
  refine W.eq (g2 := F0 m 7 ls [.int (wkind lk)]) rfl ?_
  refine lv_istore_n (lv' := [(1, .int (wkind lk)), (0, .ref h0)]) hx hb d_MO_act_7 rfl hl (Nat.le_of_ble_eq_true rfl) rfl (fun ls hl => ?_)
  refine lv_iload_n hx hb d_MO_act_8 rfl (lv_at hl 0 rfl) ?_
  refine lv_iconst (v := 2) hx hb d_MO_act_9 (by decide) ?_
  refine lv_icmp_ne (tgt := 23) hx hb d_MO_act_10 (by decide) (fun hb_1 => ?_) (fun hb_1 => ?_)
  · skip
    refine lv_iconst (v := (-1)) hx hb d_MO_act_23 (by decide) ?_
    refine lv_istore_n (lv' := [(2, .int (-1)), (1, .int (wkind lk)), (0, .ref h0)]) hx hb d_MO_act_24 rfl hl (Nat.le_of_ble_eq_true rfl) rfl (fun ls hl => ?_)
    refine lv_aload_n hx hb d_MO_act_25 rfl (lv_at hl 2 rfl) ?_
    refine va_get (D := D) (ci := 8) (v := .int (nI tp)) (C := rn_MO) (T := fl_MO) (N := 55) hx hb hG in_MO hown hK hP 0 rfl rfl 38 (by decide) (hG _ k_1229) (fun _ h9 => h9) rfl d_MO_act_26 ?_
    refine lv_aload_n hx hb d_MO_act_29 rfl (lv_at hl 2 rfl) ?_
    refine em_call (wr := [((f 20), .inl (cL, 400, .inr (.inl one))), ((f 21), .inl (cL, 400, .inr (.inl two))), ((f 27), .inl (cZ, 41, .inl snd)), ((f 28), .inl (cI, 41, .inl nbr)), ((f 29), .inl (cI, 200, .inl lts)), ((f 22), .inl (cZ, 400, .inl mrk)), ((f 23), .inl (cI, 810, .inl wlk)), ((f 24), .inl (cI, 150, .inl spn)), ((f 18), .inl (cL, 9, .inr (.inl trm)))]) (em_runV (As := []) (rest := [.int (nI tp)]) ⟨hx, hb, hml, hown, hG⟩ (mo_below l D cI cL cZ cC f h0 tn rm ln lx at_ bd fs dp on os bn df th tp mo_ ev ss so lk rs pt ot cl bss wts _ hme hev hnt) (cwV 0 hG (gd_V k_1573 k_1575 k_90 k_116 k_1576) rfl rfl rfl (by decide +kernel) ⟨Nat.le_of_ble_eq_true rfl, Nat.le_of_ble_eq_true rfl⟩) (tw_V (q0 := 0) hP hD hK hE hst hS rfl rfl [0, 3, 4] rfl (by decide)) rfl rfl hl.1 rfl (lv_room (Nat.le_of_ble_eq_true rfl)) d_MO_act_30 ⟨Nat.le_of_ble_eq_true rfl, Nat.le_of_ble_eq_true rfl⟩) hP hD hS hA [0, 3, 4] [1, 2, 5, 6, 7, 8, 9, 10, 11] rfl rfl (by decide) (by decide) (fun v u H locs hok hP hD hS => ?_) (fun x C u H locs hbad hxx hP hD hS => ?_)
    · skip
      obtain ⟨r_2, rfl, hp_3⟩ := hok
      have hres_4 : (∃ mq : Nat, r_2 = nI mq ∧ mq ≤ tp ∧ (ev = 0 → mq = 0) ∧ (1 ≤ ev → bss (ev - 1) = nI mq) ∧ me bss wts ev mq 0) := hp_3
      obtain ⟨mb, rfl, hm1, hm2, hm3, hm4⟩ := hres_4
      have hP : va_P D classes [((f 20), .inl (cL, 400, .inr (.inl one))), ((f 21), .inl (cL, 400, .inr (.inl two))), ((f 27), .inl (cZ, 41, .inl snd)), ((f 28), .inl (cI, 41, .inl nbr)), ((f 29), .inl (cI, 200, .inl lts)), ((f 22), .inl (cZ, 400, .inl mrk)), ((f 23), .inl (cI, 810, .inl wlk)), ((f 24), .inl (cI, 150, .inl spn)), ((f 18), .inl (cL, 9, .inr (.inl trm))), (h0, .inr (8, mS f tn rm ln lx at_ bd fs dp on os bn df th tp mo_ ev ss so lk rs pt ot cl)), ((f 25), .inl (cI, 41, .inl bss)), ((f 26), .inl (cI, 41, .inl wts))] H := hP
      have hD : va_D A [((f 20), .inl (cL, 400, .inr (.inl one))), ((f 21), .inl (cL, 400, .inr (.inl two))), ((f 27), .inl (cZ, 41, .inl snd)), ((f 28), .inl (cI, 41, .inl nbr)), ((f 29), .inl (cI, 200, .inl lts)), ((f 22), .inl (cZ, 400, .inl mrk)), ((f 23), .inl (cI, 810, .inl wlk)), ((f 24), .inl (cI, 150, .inl spn)), ((f 18), .inl (cL, 9, .inr (.inl trm))), (h0, .inr (8, mS f tn rm ln lx at_ bd fs dp on os bn df th tp mo_ ev ss so lk rs pt ot cl)), ((f 25), .inl (cI, 41, .inl bss)), ((f 26), .inl (cI, 41, .inl wts))] := hD
      refine W.eq (g2 := F0 m 33 ls [.int (nI mb), .int (nI tp)]) rfl ?_
      refine lw_isub (a := tp) (b := mb) hx hb d_MO_act_33 (by omega) ?_
      refine lv_istore_n (lv' := [(3, .int (nI (tp - mb))), (2, .int (-1)), (1, .int (wkind lk)), (0, .ref h0)]) hx hb d_MO_act_34 rfl hl (Nat.le_of_ble_eq_true rfl) rfl (fun ls hl => ?_)
      refine lv_iload_n hx hb d_MO_act_35 rfl (lv_at hl 2 rfl) ?_
      refine lv_iconst (v := 1) hx hb d_MO_act_36 (by decide) ?_
      refine lv_icmp_ne (tgt := 69) hx hb d_MO_act_37 (by decide) (fun hb_5 => ?_) (fun hb_5 => ?_)
      · skip
        refine lv_iload_n hx hb d_MO_act_69 rfl (lv_at hl 2 rfl) ?_
        refine lv_if_eq (tgt := 85) hx hb d_MO_act_70 (by decide) (fun hb_6 => ?_) (fun hb_6 => ?_)
        · skip
          refine lv_iload_n hx hb d_MO_act_85 rfl (lv_at hl 0 rfl) ?_
          refine lv_if_le (tgt := 97) hx hb d_MO_act_86 (by decide) (fun hb_7 => ?_) (fun hb_7 => ?_)
          · skip
            have hn_8 : (tp - mb) ≤ 0 := (nI_leI (a := tp - mb) (b := 0) (by omega) (by omega)).mp hb_7
            refine lv_aload_n hx hb d_MO_act_97 rfl (lv_at hl 3 rfl) ?_
            refine lv_iconst (v := 0) hx hb d_MO_act_98 (by decide) ?_
            refine lv_iconst (v := 0) hx hb d_MO_act_99 (by decide) ?_
            refine em_call (wr := [((f 22), .inl (cZ, 400, .inl mrk)), ((f 23), .inl (cI, 810, .inl wlk))]) (em_runV (As := [.int 0, .int 0]) (rest := []) ⟨hx, hb, hml, hown, hG⟩ (mo_val00 l D cI cL cZ cC f h0 tn rm ln lx at_ bd fs dp on os bn df th tp mo_ ev ss so lk rs pt ot cl one two bss wts snd nbr lts spn trm Gc mb _ hsnd hMI hev hm1 hm2 hm3 hm4 hot hnt) (cwV 2 hG (gd_V k_1577 k_1579 k_91 k_116 k_1580) rfl rfl rfl (by decide +kernel) ⟨Nat.le_of_ble_eq_true rfl, Nat.le_of_ble_eq_true rfl⟩) (tw_V (q0 := 9) hP hD hK hE hst hS rfl rfl [9, 0, 1, 10, 11, 2, 3, 4, 7, 8] rfl (by decide)) rfl rfl hl.1 rfl (lv_room (Nat.le_of_ble_eq_true rfl)) d_MO_act_100 ⟨Nat.le_of_ble_eq_true rfl, Nat.le_of_ble_eq_true rfl⟩) hP hD hS hA [9, 0, 1, 10, 11, 2, 3, 4, 7, 8] [5, 6] rfl rfl (by decide) (by decide) (fun v u H locs hok hP hD hS => ?_) (fun x C u H locs hbad hxx hP hD hS => ?_)
            · skip
              obtain ⟨ev_9, tp_10, lk_11, ss_12, so_13, rs_14, pt_15, ot_16, one_17, two_18, bss_19, wts_20, snd_21, nbr_22, lts_23⟩ := u
              obtain ⟨rfl, hp_25⟩ := hok
              obtain ⟨hsnd_26, hMI_27, hev_28, hme_29, hot_30, hPv_31⟩ : (bln snd_21) ∧ (MI df Gc trm one_17 two_18 spn tp_10 lk_11 rs_14 pt_15) ∧ (ev_9 ≤ 40) ∧ (me bss_19 wts_20 ev_9 tp_10 0) ∧ (ot_16 ≤ ot + 12) ∧ ((ss_12 = ss + 1 ∨ (ss_12 = ss ∧ ¬ so_13 = 0 ∧ ot_16 = ot) ∨ (ss_12 = ss ∧ so_13 = so ∧ ot_16 = ot ∧ ms pt_15 ev_9 snd_21 tp_10 < ms pt ev snd tp))) := hp_25
              have hP : va_P D classes [((f 22), .inl (cZ, 400, .inl mrk)), ((f 23), .inl (cI, 810, .inl wlk)), (h0, .inr (8, mS f tn rm ln lx at_ bd fs dp on os bn df th tp_10 mo_ ev_9 ss_12 so_13 lk_11 rs_14 pt_15 ot_16 cl)), ((f 20), .inl (cL, 400, .inr (.inl one_17))), ((f 21), .inl (cL, 400, .inr (.inl two_18))), ((f 25), .inl (cI, 41, .inl bss_19)), ((f 26), .inl (cI, 41, .inl wts_20)), ((f 27), .inl (cZ, 41, .inl snd_21)), ((f 28), .inl (cI, 41, .inl nbr_22)), ((f 29), .inl (cI, 200, .inl lts_23)), ((f 24), .inl (cI, 150, .inl spn)), ((f 18), .inl (cL, 9, .inr (.inl trm)))] H := hP
              have hD : va_D A [((f 22), .inl (cZ, 400, .inl mrk)), ((f 23), .inl (cI, 810, .inl wlk)), (h0, .inr (8, mS f tn rm ln lx at_ bd fs dp on os bn df th tp_10 mo_ ev_9 ss_12 so_13 lk_11 rs_14 pt_15 ot_16 cl)), ((f 20), .inl (cL, 400, .inr (.inl one_17))), ((f 21), .inl (cL, 400, .inr (.inl two_18))), ((f 25), .inl (cI, 41, .inl bss_19)), ((f 26), .inl (cI, 41, .inl wts_20)), ((f 27), .inl (cZ, 41, .inl snd_21)), ((f 28), .inl (cI, 41, .inl nbr_22)), ((f 29), .inl (cI, 200, .inl lts_23)), ((f 24), .inl (cI, 150, .inl spn)), ((f 18), .inl (cL, 9, .inr (.inl trm)))] := hD
              refine W.eq (g2 := F0 m 103 ls []) rfl ?_
              refine lv_goto (tgt := 195) hx hb d_MO_act_103 (by decide) ?_
              exact em_vret hx hb hr hlocks hP hD hK hS (ev_9, tp_10, lk_11, ss_12, so_13, rs_14, pt_15, ot_16, one_17, two_18, bss_19, wts_20, snd_21, nbr_22, lts_23, mrk, wlk) [2, 3, 4, 5, 6, 7, 8, 9, 0, 1, 10, 11] (by decide) rfl ⟨rfl, ⟨hsnd_26, hmrk, (show ∃ G' : Nat → Prop, MI df G' trm one_17 two_18 spn tp_10 lk_11 rs_14 pt_15 ∧ ev_9 ≤ 40 ∧ me bss_19 wts_20 ev_9 tp_10 0 ∧ ot_16 ≤ ot + 12 ∧ (ss_12 = ss + 1 ∨ (ss_12 = ss ∧ ¬ so_13 = 0 ∧ ot_16 = ot) ∨ (ss_12 = ss ∧ so_13 = so ∧ ot_16 = ot ∧ ms pt_15 ev_9 snd_21 tp_10 < ms pt ev snd tp)) from ⟨Gc, hMI_27, hev_28, hme_29, hot_30, hPv_31⟩)⟩⟩ d_MO_act_195
            · skip
              exact hbad.elim
          · skip
            have hn_33 : ¬ (tp - mb) ≤ 0 := fun h => hb_7 ((nI_leI (a := tp - mb) (b := 0) (by omega) (by omega)).mpr h)
            refine lv_aload_n hx hb d_MO_act_89 rfl (lv_at hl 3 rfl) ?_
            refine lv_iconst (v := 2) hx hb d_MO_act_90 (by decide) ?_
            refine va_put (D := D) (ci := 8) (v := .int 2) (ty := .int) (C := rn_MO) (T := fl_MO) (N := 55) hx hb hG in_MO tt_MO tk_MO nn_MO hown hK hP hD hS 9 rfl rfl 42 (by decide) (hG _ k_1233) (fun _ h9 => h9) rfl (by decide +kernel) rfl rfl (Nat.le_of_ble_eq_true rfl) d_MO_act_91 (fun H locs hP hD hS => ?_)
            have hP : va_P D classes [((f 20), .inl (cL, 400, .inr (.inl one))), ((f 21), .inl (cL, 400, .inr (.inl two))), ((f 27), .inl (cZ, 41, .inl snd)), ((f 28), .inl (cI, 41, .inl nbr)), ((f 29), .inl (cI, 200, .inl lts)), ((f 22), .inl (cZ, 400, .inl mrk)), ((f 23), .inl (cI, 810, .inl wlk)), ((f 24), .inl (cI, 150, .inl spn)), ((f 18), .inl (cL, 9, .inr (.inl trm))), (h0, .inr (8, mS f tn rm ln lx at_ bd fs dp on os bn df th tp mo_ ev ss 2 lk rs pt ot cl)), ((f 25), .inl (cI, 41, .inl bss)), ((f 26), .inl (cI, 41, .inl wts))] H := hP
            have hD : va_D A [((f 20), .inl (cL, 400, .inr (.inl one))), ((f 21), .inl (cL, 400, .inr (.inl two))), ((f 27), .inl (cZ, 41, .inl snd)), ((f 28), .inl (cI, 41, .inl nbr)), ((f 29), .inl (cI, 200, .inl lts)), ((f 22), .inl (cZ, 400, .inl mrk)), ((f 23), .inl (cI, 810, .inl wlk)), ((f 24), .inl (cI, 150, .inl spn)), ((f 18), .inl (cL, 9, .inr (.inl trm))), (h0, .inr (8, mS f tn rm ln lx at_ bd fs dp on os bn df th tp mo_ ev ss 2 lk rs pt ot cl)), ((f 25), .inl (cI, 41, .inl bss)), ((f 26), .inl (cI, 41, .inl wts))] := hD
            refine lv_goto (tgt := 195) hx hb d_MO_act_94 (by decide) ?_
            exact em_vret hx hb hr hlocks hP hD hK hS (ev, tp, lk, ss, 2, rs, pt, ot, one, two, bss, wts, snd, nbr, lts, mrk, wlk) [9, 0, 1, 10, 11, 2, 3, 4, 5, 6, 7, 8] (by decide) rfl ⟨rfl, ⟨hsnd, hmrk, (show ∃ G' : Nat → Prop, MI df G' trm one two spn tp lk rs pt ∧ ev ≤ 40 ∧ me bss wts ev tp 0 ∧ ot ≤ ot + 12 ∧ (ss = ss + 1 ∨ (ss = ss ∧ ¬ 2 = 0 ∧ ot = ot) ∨ (ss = ss ∧ 2 = so ∧ ot = ot ∧ ms pt ev snd tp < ms pt ev snd tp)) from ⟨Gc, hMI, hev, hme, by omega, Or.inr (Or.inl ⟨rfl, by decide, rfl⟩)⟩)⟩⟩ d_MO_act_195
        · skip
          exact absurd (okh_k hlk hb_5 hb_1 hk3) hb_6
      · skip
        obtain ⟨vd, hvd, evd⟩ := okh_1 hlk hb_5
        have hdf8 := hHG.2.1
        refine lv_aload_n hx hb d_MO_act_40 rfl (lv_at hl 3 rfl) ?_
        refine lv_aload_n hx hb d_MO_act_41 rfl (lv_at hl 3 rfl) ?_
        refine va_get (D := D) (ci := 8) (v := .ref (f 18)) (C := rn_MO) (T := fl_MO) (N := 55) hx hb hG in_MO hown hK hP 9 rfl rfl 30 (by decide) (hG _ k_1221) (fun _ h9 => h9) rfl d_MO_act_42 ?_
        refine lv_aload_n hx hb d_MO_act_45 rfl (lv_at hl 3 rfl) ?_
        refine va_get (D := D) (ci := 8) (v := .long lk) (C := rn_MO) (T := fl_MO) (N := 55) hx hb hG in_MO hown hK hP 9 rfl rfl 47 (by decide) (hG _ k_1238) (fun _ h9 => h9) rfl d_MO_act_46 ?_
        refine W.callR (W.runS (As := [.long lk]) (rest := [.ref (f 18), .ref h0]) ⟨hx, hb, hml, hown, hG⟩ (mo_valueOf l D cI cL cZ cC lk ) (cwS 1 hG (gd_S k_1522 k_1523 k_116 k_1524) rfl rfl rfl (by decide +kernel) ⟨Nat.le_of_ble_eq_true rfl, Nat.le_of_ble_eq_true rfl⟩) (wq_S hP hK [] rfl) rfl rfl hl.1 rfl (lv_room (Nat.le_of_ble_eq_true rfl)) d_MO_act_49 ⟨Nat.le_of_ble_eq_true rfl, Nat.le_of_ble_eq_true rfl⟩) ?_
        refine W.eq (g2 := F0 m 52 ls [.int lk.toInt32, .ref (f 18), .ref h0]) rfl ?_
        refine W.eq (g2 := F0 m 52 ls [.int (nI vd), .ref (f 18), .ref h0]) (by rw [evd]) ?_
        refine va_lald hx hb hK hP 8 1 rfl rfl (vp_in_nI (n := vd) (N := 9) (by omega) (by omega)) d_MO_act_52 ?_
        refine W.eq (g2 := F0 m 53 ls [.long (trm vd), .ref h0]) (by rw [nI_clamp (n := vd) (by omega)]) ?_
        refine va_put (D := D) (ci := 8) (v := .long (trm vd)) (ty := .long) (C := rn_MO) (T := fl_MO) (N := 55) hx hb hG in_MO tt_MO tk_MO nn_MO hown hK hP hD hS 9 rfl rfl 47 (by decide) (hG _ k_1238) (fun _ h9 => h9) rfl (by decide +kernel) rfl rfl (Nat.le_of_ble_eq_true rfl) d_MO_act_53 (fun H locs hP hD hS => ?_)
        have hP : va_P D classes [((f 20), .inl (cL, 400, .inr (.inl one))), ((f 21), .inl (cL, 400, .inr (.inl two))), ((f 27), .inl (cZ, 41, .inl snd)), ((f 28), .inl (cI, 41, .inl nbr)), ((f 29), .inl (cI, 200, .inl lts)), ((f 22), .inl (cZ, 400, .inl mrk)), ((f 23), .inl (cI, 810, .inl wlk)), ((f 24), .inl (cI, 150, .inl spn)), ((f 18), .inl (cL, 9, .inr (.inl trm))), (h0, .inr (8, mS f tn rm ln lx at_ bd fs dp on os bn df th tp mo_ ev ss so (trm vd) rs pt ot cl)), ((f 25), .inl (cI, 41, .inl bss)), ((f 26), .inl (cI, 41, .inl wts))] H := hP
        have hD : va_D A [((f 20), .inl (cL, 400, .inr (.inl one))), ((f 21), .inl (cL, 400, .inr (.inl two))), ((f 27), .inl (cZ, 41, .inl snd)), ((f 28), .inl (cI, 41, .inl nbr)), ((f 29), .inl (cI, 200, .inl lts)), ((f 22), .inl (cZ, 400, .inl mrk)), ((f 23), .inl (cI, 810, .inl wlk)), ((f 24), .inl (cI, 150, .inl spn)), ((f 18), .inl (cL, 9, .inr (.inl trm))), (h0, .inr (8, mS f tn rm ln lx at_ bd fs dp on os bn df th tp mo_ ev ss so (trm vd) rs pt ot cl)), ((f 25), .inl (cI, 41, .inl bss)), ((f 26), .inl (cI, 41, .inl wts))] := hD
        refine lv_aload_n hx hb d_MO_act_56 rfl (lv_at hl 3 rfl) ?_
        refine lv_dup hx hb d_MO_act_57 rfl ?_
        refine va_get (D := D) (ci := 8) (v := .int ss) (C := rn_MO) (T := fl_MO) (N := 55) hx hb hG in_MO hown hK hP 9 rfl rfl 41 (by decide) (hG _ k_1232) (fun _ h9 => h9) rfl d_MO_act_58 ?_
        refine lv_iconst (v := 1) hx hb d_MO_act_61 (by decide) ?_
        refine lv_iadd hx hb d_MO_act_62 ?_
        refine va_put (D := D) (ci := 8) (v := .int (ss + 1)) (ty := .int) (C := rn_MO) (T := fl_MO) (N := 55) hx hb hG in_MO tt_MO tk_MO nn_MO hown hK hP hD hS 9 rfl rfl 41 (by decide) (hG _ k_1232) (fun _ h9 => h9) rfl (by decide +kernel) rfl rfl (Nat.le_of_ble_eq_true rfl) d_MO_act_63 (fun H locs hP hD hS => ?_)
        have hP : va_P D classes [((f 20), .inl (cL, 400, .inr (.inl one))), ((f 21), .inl (cL, 400, .inr (.inl two))), ((f 27), .inl (cZ, 41, .inl snd)), ((f 28), .inl (cI, 41, .inl nbr)), ((f 29), .inl (cI, 200, .inl lts)), ((f 22), .inl (cZ, 400, .inl mrk)), ((f 23), .inl (cI, 810, .inl wlk)), ((f 24), .inl (cI, 150, .inl spn)), ((f 18), .inl (cL, 9, .inr (.inl trm))), (h0, .inr (8, mS f tn rm ln lx at_ bd fs dp on os bn df th tp mo_ ev (ss + 1) so (trm vd) rs pt ot cl)), ((f 25), .inl (cI, 41, .inl bss)), ((f 26), .inl (cI, 41, .inl wts))] H := hP
        have hD : va_D A [((f 20), .inl (cL, 400, .inr (.inl one))), ((f 21), .inl (cL, 400, .inr (.inl two))), ((f 27), .inl (cZ, 41, .inl snd)), ((f 28), .inl (cI, 41, .inl nbr)), ((f 29), .inl (cI, 200, .inl lts)), ((f 22), .inl (cZ, 400, .inl mrk)), ((f 23), .inl (cI, 810, .inl wlk)), ((f 24), .inl (cI, 150, .inl spn)), ((f 18), .inl (cL, 9, .inr (.inl trm))), (h0, .inr (8, mS f tn rm ln lx at_ bd fs dp on os bn df th tp mo_ ev (ss + 1) so (trm vd) rs pt ot cl)), ((f 25), .inl (cI, 41, .inl bss)), ((f 26), .inl (cI, 41, .inl wts))] := hD
        refine lv_goto (tgt := 195) hx hb d_MO_act_66 (by decide) ?_
        exact em_vret hx hb hr hlocks hP hD hK hS (ev, tp, trm vd, ss + 1, so, rs, pt, ot, one, two, bss, wts, snd, nbr, lts, mrk, wlk) [9, 0, 1, 10, 11, 2, 3, 4, 5, 6, 7, 8] (by decide) rfl ⟨rfl, ⟨hsnd, hmrk, (show ∃ G' : Nat → Prop, MI df G' trm one two spn tp (trm vd) rs pt ∧ ev ≤ 40 ∧ me bss wts ev tp 0 ∧ ot ≤ ot + 12 ∧ ((ss + 1) = ss + 1 ∨ ((ss + 1) = ss ∧ ¬ so = 0 ∧ ot = ot) ∨ ((ss + 1) = ss ∧ so = so ∧ ot = ot ∧ ms pt ev snd tp < ms pt ev snd tp)) from ⟨Gc, ⟨hHG, hHG.2.2.1 vd hvd, hrs, htp, hsp⟩, hev, hme, by omega, Or.inl rfl⟩)⟩⟩ d_MO_act_195
    · skip
      exact hbad.elim
  · skip
    obtain ⟨vv, hv2, hv22, evv⟩ := okh_2 hlk hb_1
    refine lv_aload_n hx hb d_MO_act_13 rfl (lv_at hl 1 rfl) ?_
    refine va_get (D := D) (ci := 8) (v := .long lk) (C := rn_MO) (T := fl_MO) (N := 55) hx hb hG in_MO hown hK hP 0 rfl rfl 47 (by decide) (hG _ k_1238) (fun _ h9 => h9) rfl d_MO_act_14 ?_
    refine W.callR (W.runS (As := [.long lk]) (rest := []) ⟨hx, hb, hml, hown, hG⟩ (mo_valueOf l D cI cL cZ cC lk ) (cwS 1 hG (gd_S k_1522 k_1523 k_116 k_1524) rfl rfl rfl (by decide +kernel) ⟨Nat.le_of_ble_eq_true rfl, Nat.le_of_ble_eq_true rfl⟩) (wq_S hP hK [] rfl) rfl rfl hl.1 rfl (lv_room (Nat.le_of_ble_eq_true rfl)) d_MO_act_17 ⟨Nat.le_of_ble_eq_true rfl, Nat.le_of_ble_eq_true rfl⟩) ?_
    refine W.eq (g2 := F0 m 20 ls [.int lk.toInt32]) rfl ?_
    refine W.eq (g2 := F0 m 20 ls [.int (nI vv)]) (by rw [evv]) ?_
    refine lv_goto (tgt := 24) hx hb d_MO_act_20 (by decide) ?_
    refine lv_istore_n (lv' := [(2, .int (nI vv)), (1, .int (wkind lk)), (0, .ref h0)]) hx hb d_MO_act_24 rfl hl (Nat.le_of_ble_eq_true rfl) rfl (fun ls hl => ?_)
    rcases (show vv = 2 ∨ vv = 3 ∨ vv = 4 ∨ vv = 5 ∨ vv = 6 ∨ vv = 7 ∨ vv = 8 ∨ vv = 9 ∨ vv = 10 ∨ vv = 11 ∨ vv = 12 ∨ vv = 13 ∨ vv = 14 ∨ vv = 15 ∨ vv = 16 ∨ vv = 17 ∨ vv = 18 ∨ vv = 19 ∨ vv = 20 ∨ vv = 21 ∨ vv = 22 by omega) with rfl | rfl | rfl | rfl | rfl | rfl | rfl | rfl | rfl | rfl | rfl | rfl | rfl | rfl | rfl | rfl | rfl | rfl | rfl | rfl | rfl
    · skip
      have hl : lv_has ls 4 [(2, .int 2), (1, .int (wkind lk)), (0, .ref h0)] := hl
      refine lv_aload_n hx hb d_MO_act_25 rfl (lv_at hl 2 rfl) ?_
      refine va_get (D := D) (ci := 8) (v := .int (nI tp)) (C := rn_MO) (T := fl_MO) (N := 55) hx hb hG in_MO hown hK hP 0 rfl rfl 38 (by decide) (hG _ k_1229) (fun _ h9 => h9) rfl d_MO_act_26 ?_
      refine lv_aload_n hx hb d_MO_act_29 rfl (lv_at hl 2 rfl) ?_
      refine em_call (wr := [((f 20), .inl (cL, 400, .inr (.inl one))), ((f 21), .inl (cL, 400, .inr (.inl two))), ((f 27), .inl (cZ, 41, .inl snd)), ((f 28), .inl (cI, 41, .inl nbr)), ((f 29), .inl (cI, 200, .inl lts)), ((f 22), .inl (cZ, 400, .inl mrk)), ((f 23), .inl (cI, 810, .inl wlk)), ((f 24), .inl (cI, 150, .inl spn)), ((f 18), .inl (cL, 9, .inr (.inl trm)))]) (em_runV (As := []) (rest := [.int (nI tp)]) ⟨hx, hb, hml, hown, hG⟩ (mo_below l D cI cL cZ cC f h0 tn rm ln lx at_ bd fs dp on os bn df th tp mo_ ev ss so lk rs pt ot cl bss wts _ hme hev hnt) (cwV 0 hG (gd_V k_1573 k_1575 k_90 k_116 k_1576) rfl rfl rfl (by decide +kernel) ⟨Nat.le_of_ble_eq_true rfl, Nat.le_of_ble_eq_true rfl⟩) (tw_V (q0 := 0) hP hD hK hE hst hS rfl rfl [0, 3, 4] rfl (by decide)) rfl rfl hl.1 rfl (lv_room (Nat.le_of_ble_eq_true rfl)) d_MO_act_30 ⟨Nat.le_of_ble_eq_true rfl, Nat.le_of_ble_eq_true rfl⟩) hP hD hS hA [0, 3, 4] [1, 2, 5, 6, 7, 8, 9, 10, 11] rfl rfl (by decide) (by decide) (fun v u H locs hok hP hD hS => ?_) (fun x C u H locs hbad hxx hP hD hS => ?_)
      · skip
        obtain ⟨r_34, rfl, hp_35⟩ := hok
        have hres_36 : (∃ mq : Nat, r_34 = nI mq ∧ mq ≤ tp ∧ (ev = 0 → mq = 0) ∧ (1 ≤ ev → bss (ev - 1) = nI mq) ∧ me bss wts ev mq 0) := hp_35
        obtain ⟨mb, rfl, hm1, hm2, hm3, hm4⟩ := hres_36
        have hP : va_P D classes [((f 20), .inl (cL, 400, .inr (.inl one))), ((f 21), .inl (cL, 400, .inr (.inl two))), ((f 27), .inl (cZ, 41, .inl snd)), ((f 28), .inl (cI, 41, .inl nbr)), ((f 29), .inl (cI, 200, .inl lts)), ((f 22), .inl (cZ, 400, .inl mrk)), ((f 23), .inl (cI, 810, .inl wlk)), ((f 24), .inl (cI, 150, .inl spn)), ((f 18), .inl (cL, 9, .inr (.inl trm))), (h0, .inr (8, mS f tn rm ln lx at_ bd fs dp on os bn df th tp mo_ ev ss so lk rs pt ot cl)), ((f 25), .inl (cI, 41, .inl bss)), ((f 26), .inl (cI, 41, .inl wts))] H := hP
        have hD : va_D A [((f 20), .inl (cL, 400, .inr (.inl one))), ((f 21), .inl (cL, 400, .inr (.inl two))), ((f 27), .inl (cZ, 41, .inl snd)), ((f 28), .inl (cI, 41, .inl nbr)), ((f 29), .inl (cI, 200, .inl lts)), ((f 22), .inl (cZ, 400, .inl mrk)), ((f 23), .inl (cI, 810, .inl wlk)), ((f 24), .inl (cI, 150, .inl spn)), ((f 18), .inl (cL, 9, .inr (.inl trm))), (h0, .inr (8, mS f tn rm ln lx at_ bd fs dp on os bn df th tp mo_ ev ss so lk rs pt ot cl)), ((f 25), .inl (cI, 41, .inl bss)), ((f 26), .inl (cI, 41, .inl wts))] := hD
        refine W.eq (g2 := F0 m 33 ls [.int (nI mb), .int (nI tp)]) rfl ?_
        refine lw_isub (a := tp) (b := mb) hx hb d_MO_act_33 (by omega) ?_
        refine lv_istore_n (lv' := [(3, .int (nI (tp - mb))), (2, .int 2), (1, .int (wkind lk)), (0, .ref h0)]) hx hb d_MO_act_34 rfl hl (Nat.le_of_ble_eq_true rfl) rfl (fun ls hl => ?_)
        refine lv_iload_n hx hb d_MO_act_35 rfl (lv_at hl 2 rfl) ?_
        refine lv_iconst (v := 1) hx hb d_MO_act_36 (by decide) ?_
        refine lv_icmp_ne (tgt := 69) hx hb d_MO_act_37 (by decide) (fun hb_37 => ?_) (fun hb_37 => ?_)
        · skip
          refine lv_iload_n hx hb d_MO_act_69 rfl (lv_at hl 2 rfl) ?_
          refine lv_if_eq (tgt := 85) hx hb d_MO_act_70 (by decide) (fun hb_38 => ?_) (fun hb_38 => ?_)
          · skip
            exact absurd (hb_1.symm.trans hb_38) (by decide)
          · skip
            refine lv_iload_n hx hb d_MO_act_73 rfl (lv_at hl 1 rfl) ?_
            refine lv_bipush (v := 17) hx hb d_MO_act_74 (by decide) ?_
            refine lv_icmp_eq (tgt := 85) hx hb d_MO_act_76 (by decide) (fun hbr => absurd hbr (by decide)) (fun hbr => ?_)
            refine lv_iload_n hx hb d_MO_act_79 rfl (lv_at hl 1 rfl) ?_
            refine lv_bipush (v := 20) hx hb d_MO_act_80 (by decide) ?_
            refine lv_icmp_le (tgt := 106) hx hb d_MO_act_82 (by decide) (fun hbr => ?_) (fun hbr => absurd (by decide) hbr)
            refine lv_iload_n hx hb d_MO_act_106 rfl (lv_at hl 1 rfl) ?_
            refine lv_bipush (v := 16) hx hb d_MO_act_107 (by decide) ?_
            refine lv_icmp_ne (tgt := 152) hx hb d_MO_act_109 (by decide) (fun hbr => ?_) (fun hbr => absurd hbr (by decide))
            refine lv_iload_n hx hb d_MO_act_152 rfl (lv_at hl 0 rfl) ?_
            refine lv_iload_n hx hb d_MO_act_153 rfl (lv_at hl 1 rfl) ?_
            refine W.callR (W.runS (As := [.int 2]) (rest := [.int (nI (tp - mb))]) ⟨hx, hb, hml, hown, hG⟩ (mo_needs l D cI cL cZ cC 2 ) (cwS 1 hG (gd_S k_1621 k_1622 k_116 k_1623) rfl rfl rfl (by decide +kernel) ⟨Nat.le_of_ble_eq_true rfl, Nat.le_of_ble_eq_true rfl⟩) (wq_S hP hK [] rfl) rfl rfl hl.1 rfl (lv_room (Nat.le_of_ble_eq_true rfl)) d_MO_act_154 ⟨Nat.le_of_ble_eq_true rfl, Nat.le_of_ble_eq_true rfl⟩) ?_
            refine W.eq (g2 := F0 m 157 ls [.int (mneeds (2 : Int32)), .int (nI (tp - mb))]) rfl ?_
            refine W.eq (g2 := F0 m 157 ls [.int 1, .int (nI (tp - mb))]) (by rw [show mneeds 2 = 1 by decide]) ?_
            refine lv_icmp_ge (tgt := 169) hx hb d_MO_act_157 (by decide) (fun hb_39 => ?_) (fun hb_39 => ?_)
            · skip
              have hn_40 : 1 ≤ (tp - mb) := (nI_leI (a := 1) (b := tp - mb) (by omega) (by omega)).mp hb_39
              refine lv_iload_n hx hb d_MO_act_169 rfl (lv_at hl 1 rfl) ?_
              refine lv_bipush (v := 10) hx hb d_MO_act_170 (by decide) ?_
              refine lv_icmp_ge (tgt := 183) hx hb d_MO_act_172 (by decide) (fun hbr => absurd hbr (by decide)) (fun hbr => ?_)
              refine lv_aload_n hx hb d_MO_act_175 rfl (lv_at hl 3 rfl) ?_
              refine lv_iload_n hx hb d_MO_act_176 rfl (lv_at hl 1 rfl) ?_
              refine em_call (wr := [((f 27), .inl (cZ, 41, .inl snd)), ((f 28), .inl (cI, 41, .inl nbr)), ((f 29), .inl (cI, 200, .inl lts)), ((f 25), .inl (cI, 41, .inl bss)), ((f 26), .inl (cI, 41, .inl wts))]) (em_runV (As := [.int 2]) (rest := []) ⟨hx, hb, hml, hown, hG⟩ (mo_comb2 l D cI cL cZ cC f h0 tn rm ln lx at_ bd fs dp on os bn df th tp mo_ ev ss so lk rs pt ot cl one two mrk wlk spn trm Gc _ hmrk hMI hrm (by omega) hnt) (cwV 1 hG (gd_V k_1624 k_1626 k_101 k_116 k_1627) rfl rfl rfl (by decide +kernel) ⟨Nat.le_of_ble_eq_true rfl, Nat.le_of_ble_eq_true rfl⟩) (tw_V (q0 := 9) hP hD hK hE hst hS rfl rfl [9, 0, 1, 5, 6, 7, 8] rfl (by decide)) rfl rfl hl.1 rfl (lv_room (Nat.le_of_ble_eq_true rfl)) d_MO_act_177 ⟨Nat.le_of_ble_eq_true rfl, Nat.le_of_ble_eq_true rfl⟩) hP hD hS hA [9, 0, 1, 5, 6, 7, 8] [2, 3, 4, 10, 11] rfl rfl (by decide) (by decide) (fun v u H locs hok hP hD hS => ?_) (fun x C u H locs hbad hxx hP hD hS => ?_)
              · skip
                obtain ⟨tp_41, lk_42, ss_43, so_44, one_45, two_46, mrk_47, wlk_48⟩ := u
                obtain ⟨rfl, hp_50⟩ := hok
                obtain ⟨hmrk_51, hCo_52⟩ : (bln mrk_47) ∧ (∃ G' : Nat → Prop, MI df G' trm one_45 two_46 spn tp_41 lk_42 rs pt ∧ ((ss_43 = ss + 1 ∧ so_44 = so ∧ tp ≤ tp_41 + 1) ∨ (ss_43 = ss ∧ ¬ so_44 = 0 ∧ tp_41 = tp))) := hp_50
                have hP : va_P D classes [((f 27), .inl (cZ, 41, .inl snd)), ((f 28), .inl (cI, 41, .inl nbr)), ((f 29), .inl (cI, 200, .inl lts)), ((f 25), .inl (cI, 41, .inl bss)), ((f 26), .inl (cI, 41, .inl wts)), (h0, .inr (8, mS f tn rm ln lx at_ bd fs dp on os bn df th tp_41 mo_ ev ss_43 so_44 lk_42 rs pt ot cl)), ((f 20), .inl (cL, 400, .inr (.inl one_45))), ((f 21), .inl (cL, 400, .inr (.inl two_46))), ((f 22), .inl (cZ, 400, .inl mrk_47)), ((f 23), .inl (cI, 810, .inl wlk_48)), ((f 24), .inl (cI, 150, .inl spn)), ((f 18), .inl (cL, 9, .inr (.inl trm)))] H := hP
                have hD : va_D A [((f 27), .inl (cZ, 41, .inl snd)), ((f 28), .inl (cI, 41, .inl nbr)), ((f 29), .inl (cI, 200, .inl lts)), ((f 25), .inl (cI, 41, .inl bss)), ((f 26), .inl (cI, 41, .inl wts)), (h0, .inr (8, mS f tn rm ln lx at_ bd fs dp on os bn df th tp_41 mo_ ev ss_43 so_44 lk_42 rs pt ot cl)), ((f 20), .inl (cL, 400, .inr (.inl one_45))), ((f 21), .inl (cL, 400, .inr (.inl two_46))), ((f 22), .inl (cZ, 400, .inl mrk_47)), ((f 23), .inl (cI, 810, .inl wlk_48)), ((f 24), .inl (cI, 150, .inl spn)), ((f 18), .inl (cL, 9, .inr (.inl trm)))] := hD
                refine W.eq (g2 := F0 m 180 ls []) rfl ?_
                refine lv_goto (tgt := 195) hx hb d_MO_act_180 (by decide) ?_
                exact em_vret hx hb hr hlocks hP hD hK hS (ev, tp_41, lk_42, ss_43, so_44, rs, pt, ot, one_45, two_46, bss, wts, snd, nbr, lts, mrk_47, wlk_48) [5, 6, 7, 3, 4, 0, 1, 2, 8, 9, 10, 11] (by decide) rfl ⟨rfl, ⟨hsnd, hmrk_51, (show ∃ G' : Nat → Prop, MI df G' trm one_45 two_46 spn tp_41 lk_42 rs pt ∧ ev ≤ 40 ∧ me bss wts ev tp_41 0 ∧ ot ≤ ot + 12 ∧ (ss_43 = ss + 1 ∨ (ss_43 = ss ∧ ¬ so_44 = 0 ∧ ot = ot) ∨ (ss_43 = ss ∧ so_44 = so ∧ ot = ot ∧ ms pt ev snd tp_41 < ms pt ev snd tp)) from (by obtain ⟨G', q1, q2⟩ := hCo_52; exact ⟨G', q1, hev, (by rcases q2 with ⟨_, _, q⟩ | ⟨_, _, q⟩; exact hm4.mono (by omega); rw [q]; exact hme), by omega, (by rcases q2 with ⟨q, _, _⟩ | ⟨q, q', _⟩; exact Or.inl q; exact Or.inr (Or.inl ⟨q, q', rfl⟩))⟩))⟩⟩ d_MO_act_195
              · skip
                exact hbad.elim
            · skip
              have hn_54 : ¬ 1 ≤ (tp - mb) := fun h => hb_39 ((nI_leI (a := 1) (b := tp - mb) (by omega) (by omega)).mpr h)
              refine lv_aload_n hx hb d_MO_act_160 rfl (lv_at hl 3 rfl) ?_
              refine lv_iconst (v := 0) hx hb d_MO_act_161 (by decide) ?_
              refine lv_iconst (v := 1) hx hb d_MO_act_162 (by decide) ?_
              refine em_call (wr := [((f 22), .inl (cZ, 400, .inl mrk)), ((f 23), .inl (cI, 810, .inl wlk))]) (em_runV (As := [.int 0, .int 1]) (rest := []) ⟨hx, hb, hml, hown, hG⟩ (mo_val01 l D cI cL cZ cC f h0 tn rm ln lx at_ bd fs dp on os bn df th tp mo_ ev ss so lk rs pt ot cl one two bss wts snd nbr lts spn trm Gc mb _ hsnd hMI hev hm1 hm2 hm3 hm4 hot hnt) (cwV 2 hG (gd_V k_1577 k_1579 k_91 k_116 k_1580) rfl rfl rfl (by decide +kernel) ⟨Nat.le_of_ble_eq_true rfl, Nat.le_of_ble_eq_true rfl⟩) (tw_V (q0 := 9) hP hD hK hE hst hS rfl rfl [9, 0, 1, 10, 11, 2, 3, 4, 7, 8] rfl (by decide)) rfl rfl hl.1 rfl (lv_room (Nat.le_of_ble_eq_true rfl)) d_MO_act_163 ⟨Nat.le_of_ble_eq_true rfl, Nat.le_of_ble_eq_true rfl⟩) hP hD hS hA [9, 0, 1, 10, 11, 2, 3, 4, 7, 8] [5, 6] rfl rfl (by decide) (by decide) (fun v u H locs hok hP hD hS => ?_) (fun x C u H locs hbad hxx hP hD hS => ?_)
              · skip
                obtain ⟨ev_55, tp_56, lk_57, ss_58, so_59, rs_60, pt_61, ot_62, one_63, two_64, bss_65, wts_66, snd_67, nbr_68, lts_69⟩ := u
                obtain ⟨rfl, hp_71⟩ := hok
                obtain ⟨hsnd_72, hMI_73, hev_74, hme_75, hot_76, hPv_77⟩ : (bln snd_67) ∧ (MI df Gc trm one_63 two_64 spn tp_56 lk_57 rs_60 pt_61) ∧ (ev_55 ≤ 40) ∧ (me bss_65 wts_66 ev_55 tp_56 0) ∧ (ot_62 ≤ ot + 12) ∧ ((ss_58 = ss + 1 ∨ (ss_58 = ss ∧ ¬ so_59 = 0 ∧ ot_62 = ot) ∨ (ss_58 = ss ∧ so_59 = so ∧ ot_62 = ot ∧ ms pt_61 ev_55 snd_67 tp_56 < ms pt ev snd tp))) := hp_71
                have hP : va_P D classes [((f 22), .inl (cZ, 400, .inl mrk)), ((f 23), .inl (cI, 810, .inl wlk)), (h0, .inr (8, mS f tn rm ln lx at_ bd fs dp on os bn df th tp_56 mo_ ev_55 ss_58 so_59 lk_57 rs_60 pt_61 ot_62 cl)), ((f 20), .inl (cL, 400, .inr (.inl one_63))), ((f 21), .inl (cL, 400, .inr (.inl two_64))), ((f 25), .inl (cI, 41, .inl bss_65)), ((f 26), .inl (cI, 41, .inl wts_66)), ((f 27), .inl (cZ, 41, .inl snd_67)), ((f 28), .inl (cI, 41, .inl nbr_68)), ((f 29), .inl (cI, 200, .inl lts_69)), ((f 24), .inl (cI, 150, .inl spn)), ((f 18), .inl (cL, 9, .inr (.inl trm)))] H := hP
                have hD : va_D A [((f 22), .inl (cZ, 400, .inl mrk)), ((f 23), .inl (cI, 810, .inl wlk)), (h0, .inr (8, mS f tn rm ln lx at_ bd fs dp on os bn df th tp_56 mo_ ev_55 ss_58 so_59 lk_57 rs_60 pt_61 ot_62 cl)), ((f 20), .inl (cL, 400, .inr (.inl one_63))), ((f 21), .inl (cL, 400, .inr (.inl two_64))), ((f 25), .inl (cI, 41, .inl bss_65)), ((f 26), .inl (cI, 41, .inl wts_66)), ((f 27), .inl (cZ, 41, .inl snd_67)), ((f 28), .inl (cI, 41, .inl nbr_68)), ((f 29), .inl (cI, 200, .inl lts_69)), ((f 24), .inl (cI, 150, .inl spn)), ((f 18), .inl (cL, 9, .inr (.inl trm)))] := hD
                refine W.eq (g2 := F0 m 166 ls []) rfl ?_
                refine lv_goto (tgt := 195) hx hb d_MO_act_166 (by decide) ?_
                exact em_vret hx hb hr hlocks hP hD hK hS (ev_55, tp_56, lk_57, ss_58, so_59, rs_60, pt_61, ot_62, one_63, two_64, bss_65, wts_66, snd_67, nbr_68, lts_69, mrk, wlk) [2, 3, 4, 5, 6, 7, 8, 9, 0, 1, 10, 11] (by decide) rfl ⟨rfl, ⟨hsnd_72, hmrk, (show ∃ G' : Nat → Prop, MI df G' trm one_63 two_64 spn tp_56 lk_57 rs_60 pt_61 ∧ ev_55 ≤ 40 ∧ me bss_65 wts_66 ev_55 tp_56 0 ∧ ot_62 ≤ ot + 12 ∧ (ss_58 = ss + 1 ∨ (ss_58 = ss ∧ ¬ so_59 = 0 ∧ ot_62 = ot) ∨ (ss_58 = ss ∧ so_59 = so ∧ ot_62 = ot ∧ ms pt_61 ev_55 snd_67 tp_56 < ms pt ev snd tp)) from ⟨Gc, hMI_73, hev_74, hme_75, hot_76, hPv_77⟩)⟩⟩ d_MO_act_195
              · skip
                exact hbad.elim
        · skip
          exact absurd (hb_1.symm.trans hb_37) (by decide)
      · skip
        exact hbad.elim
    · skip
      have hl : lv_has ls 4 [(2, .int 3), (1, .int (wkind lk)), (0, .ref h0)] := hl
      refine lv_aload_n hx hb d_MO_act_25 rfl (lv_at hl 2 rfl) ?_
      refine va_get (D := D) (ci := 8) (v := .int (nI tp)) (C := rn_MO) (T := fl_MO) (N := 55) hx hb hG in_MO hown hK hP 0 rfl rfl 38 (by decide) (hG _ k_1229) (fun _ h9 => h9) rfl d_MO_act_26 ?_
      refine lv_aload_n hx hb d_MO_act_29 rfl (lv_at hl 2 rfl) ?_
      refine em_call (wr := [((f 20), .inl (cL, 400, .inr (.inl one))), ((f 21), .inl (cL, 400, .inr (.inl two))), ((f 27), .inl (cZ, 41, .inl snd)), ((f 28), .inl (cI, 41, .inl nbr)), ((f 29), .inl (cI, 200, .inl lts)), ((f 22), .inl (cZ, 400, .inl mrk)), ((f 23), .inl (cI, 810, .inl wlk)), ((f 24), .inl (cI, 150, .inl spn)), ((f 18), .inl (cL, 9, .inr (.inl trm)))]) (em_runV (As := []) (rest := [.int (nI tp)]) ⟨hx, hb, hml, hown, hG⟩ (mo_below l D cI cL cZ cC f h0 tn rm ln lx at_ bd fs dp on os bn df th tp mo_ ev ss so lk rs pt ot cl bss wts _ hme hev hnt) (cwV 0 hG (gd_V k_1573 k_1575 k_90 k_116 k_1576) rfl rfl rfl (by decide +kernel) ⟨Nat.le_of_ble_eq_true rfl, Nat.le_of_ble_eq_true rfl⟩) (tw_V (q0 := 0) hP hD hK hE hst hS rfl rfl [0, 3, 4] rfl (by decide)) rfl rfl hl.1 rfl (lv_room (Nat.le_of_ble_eq_true rfl)) d_MO_act_30 ⟨Nat.le_of_ble_eq_true rfl, Nat.le_of_ble_eq_true rfl⟩) hP hD hS hA [0, 3, 4] [1, 2, 5, 6, 7, 8, 9, 10, 11] rfl rfl (by decide) (by decide) (fun v u H locs hok hP hD hS => ?_) (fun x C u H locs hbad hxx hP hD hS => ?_)
      · skip
        obtain ⟨r_79, rfl, hp_80⟩ := hok
        have hres_81 : (∃ mq : Nat, r_79 = nI mq ∧ mq ≤ tp ∧ (ev = 0 → mq = 0) ∧ (1 ≤ ev → bss (ev - 1) = nI mq) ∧ me bss wts ev mq 0) := hp_80
        obtain ⟨mb, rfl, hm1, hm2, hm3, hm4⟩ := hres_81
        have hP : va_P D classes [((f 20), .inl (cL, 400, .inr (.inl one))), ((f 21), .inl (cL, 400, .inr (.inl two))), ((f 27), .inl (cZ, 41, .inl snd)), ((f 28), .inl (cI, 41, .inl nbr)), ((f 29), .inl (cI, 200, .inl lts)), ((f 22), .inl (cZ, 400, .inl mrk)), ((f 23), .inl (cI, 810, .inl wlk)), ((f 24), .inl (cI, 150, .inl spn)), ((f 18), .inl (cL, 9, .inr (.inl trm))), (h0, .inr (8, mS f tn rm ln lx at_ bd fs dp on os bn df th tp mo_ ev ss so lk rs pt ot cl)), ((f 25), .inl (cI, 41, .inl bss)), ((f 26), .inl (cI, 41, .inl wts))] H := hP
        have hD : va_D A [((f 20), .inl (cL, 400, .inr (.inl one))), ((f 21), .inl (cL, 400, .inr (.inl two))), ((f 27), .inl (cZ, 41, .inl snd)), ((f 28), .inl (cI, 41, .inl nbr)), ((f 29), .inl (cI, 200, .inl lts)), ((f 22), .inl (cZ, 400, .inl mrk)), ((f 23), .inl (cI, 810, .inl wlk)), ((f 24), .inl (cI, 150, .inl spn)), ((f 18), .inl (cL, 9, .inr (.inl trm))), (h0, .inr (8, mS f tn rm ln lx at_ bd fs dp on os bn df th tp mo_ ev ss so lk rs pt ot cl)), ((f 25), .inl (cI, 41, .inl bss)), ((f 26), .inl (cI, 41, .inl wts))] := hD
        refine W.eq (g2 := F0 m 33 ls [.int (nI mb), .int (nI tp)]) rfl ?_
        refine lw_isub (a := tp) (b := mb) hx hb d_MO_act_33 (by omega) ?_
        refine lv_istore_n (lv' := [(3, .int (nI (tp - mb))), (2, .int 3), (1, .int (wkind lk)), (0, .ref h0)]) hx hb d_MO_act_34 rfl hl (Nat.le_of_ble_eq_true rfl) rfl (fun ls hl => ?_)
        refine lv_iload_n hx hb d_MO_act_35 rfl (lv_at hl 2 rfl) ?_
        refine lv_iconst (v := 1) hx hb d_MO_act_36 (by decide) ?_
        refine lv_icmp_ne (tgt := 69) hx hb d_MO_act_37 (by decide) (fun hb_82 => ?_) (fun hb_82 => ?_)
        · skip
          refine lv_iload_n hx hb d_MO_act_69 rfl (lv_at hl 2 rfl) ?_
          refine lv_if_eq (tgt := 85) hx hb d_MO_act_70 (by decide) (fun hb_83 => ?_) (fun hb_83 => ?_)
          · skip
            exact absurd (hb_1.symm.trans hb_83) (by decide)
          · skip
            refine lv_iload_n hx hb d_MO_act_73 rfl (lv_at hl 1 rfl) ?_
            refine lv_bipush (v := 17) hx hb d_MO_act_74 (by decide) ?_
            refine lv_icmp_eq (tgt := 85) hx hb d_MO_act_76 (by decide) (fun hbr => absurd hbr (by decide)) (fun hbr => ?_)
            refine lv_iload_n hx hb d_MO_act_79 rfl (lv_at hl 1 rfl) ?_
            refine lv_bipush (v := 20) hx hb d_MO_act_80 (by decide) ?_
            refine lv_icmp_le (tgt := 106) hx hb d_MO_act_82 (by decide) (fun hbr => ?_) (fun hbr => absurd (by decide) hbr)
            refine lv_iload_n hx hb d_MO_act_106 rfl (lv_at hl 1 rfl) ?_
            refine lv_bipush (v := 16) hx hb d_MO_act_107 (by decide) ?_
            refine lv_icmp_ne (tgt := 152) hx hb d_MO_act_109 (by decide) (fun hbr => ?_) (fun hbr => absurd hbr (by decide))
            refine lv_iload_n hx hb d_MO_act_152 rfl (lv_at hl 0 rfl) ?_
            refine lv_iload_n hx hb d_MO_act_153 rfl (lv_at hl 1 rfl) ?_
            refine W.callR (W.runS (As := [.int 3]) (rest := [.int (nI (tp - mb))]) ⟨hx, hb, hml, hown, hG⟩ (mo_needs l D cI cL cZ cC 3 ) (cwS 1 hG (gd_S k_1621 k_1622 k_116 k_1623) rfl rfl rfl (by decide +kernel) ⟨Nat.le_of_ble_eq_true rfl, Nat.le_of_ble_eq_true rfl⟩) (wq_S hP hK [] rfl) rfl rfl hl.1 rfl (lv_room (Nat.le_of_ble_eq_true rfl)) d_MO_act_154 ⟨Nat.le_of_ble_eq_true rfl, Nat.le_of_ble_eq_true rfl⟩) ?_
            refine W.eq (g2 := F0 m 157 ls [.int (mneeds (3 : Int32)), .int (nI (tp - mb))]) rfl ?_
            refine W.eq (g2 := F0 m 157 ls [.int 2, .int (nI (tp - mb))]) (by rw [show mneeds 3 = 2 by decide]) ?_
            refine lv_icmp_ge (tgt := 169) hx hb d_MO_act_157 (by decide) (fun hb_84 => ?_) (fun hb_84 => ?_)
            · skip
              have hn_85 : 2 ≤ (tp - mb) := (nI_leI (a := 2) (b := tp - mb) (by omega) (by omega)).mp hb_84
              refine lv_iload_n hx hb d_MO_act_169 rfl (lv_at hl 1 rfl) ?_
              refine lv_bipush (v := 10) hx hb d_MO_act_170 (by decide) ?_
              refine lv_icmp_ge (tgt := 183) hx hb d_MO_act_172 (by decide) (fun hbr => absurd hbr (by decide)) (fun hbr => ?_)
              refine lv_aload_n hx hb d_MO_act_175 rfl (lv_at hl 3 rfl) ?_
              refine lv_iload_n hx hb d_MO_act_176 rfl (lv_at hl 1 rfl) ?_
              refine em_call (wr := [((f 27), .inl (cZ, 41, .inl snd)), ((f 28), .inl (cI, 41, .inl nbr)), ((f 29), .inl (cI, 200, .inl lts)), ((f 25), .inl (cI, 41, .inl bss)), ((f 26), .inl (cI, 41, .inl wts))]) (em_runV (As := [.int 3]) (rest := []) ⟨hx, hb, hml, hown, hG⟩ (mo_comb3 l D cI cL cZ cC f h0 tn rm ln lx at_ bd fs dp on os bn df th tp mo_ ev ss so lk rs pt ot cl one two mrk wlk spn trm Gc _ hmrk hMI hrm (by omega) hnt) (cwV 1 hG (gd_V k_1624 k_1626 k_101 k_116 k_1627) rfl rfl rfl (by decide +kernel) ⟨Nat.le_of_ble_eq_true rfl, Nat.le_of_ble_eq_true rfl⟩) (tw_V (q0 := 9) hP hD hK hE hst hS rfl rfl [9, 0, 1, 5, 6, 7, 8] rfl (by decide)) rfl rfl hl.1 rfl (lv_room (Nat.le_of_ble_eq_true rfl)) d_MO_act_177 ⟨Nat.le_of_ble_eq_true rfl, Nat.le_of_ble_eq_true rfl⟩) hP hD hS hA [9, 0, 1, 5, 6, 7, 8] [2, 3, 4, 10, 11] rfl rfl (by decide) (by decide) (fun v u H locs hok hP hD hS => ?_) (fun x C u H locs hbad hxx hP hD hS => ?_)
              · skip
                obtain ⟨tp_86, lk_87, ss_88, so_89, one_90, two_91, mrk_92, wlk_93⟩ := u
                obtain ⟨rfl, hp_95⟩ := hok
                obtain ⟨hmrk_96, hCo_97⟩ : (bln mrk_92) ∧ (∃ G' : Nat → Prop, MI df G' trm one_90 two_91 spn tp_86 lk_87 rs pt ∧ ((ss_88 = ss + 1 ∧ so_89 = so ∧ tp ≤ tp_86 + 2) ∨ (ss_88 = ss ∧ ¬ so_89 = 0 ∧ tp_86 = tp))) := hp_95
                have hP : va_P D classes [((f 27), .inl (cZ, 41, .inl snd)), ((f 28), .inl (cI, 41, .inl nbr)), ((f 29), .inl (cI, 200, .inl lts)), ((f 25), .inl (cI, 41, .inl bss)), ((f 26), .inl (cI, 41, .inl wts)), (h0, .inr (8, mS f tn rm ln lx at_ bd fs dp on os bn df th tp_86 mo_ ev ss_88 so_89 lk_87 rs pt ot cl)), ((f 20), .inl (cL, 400, .inr (.inl one_90))), ((f 21), .inl (cL, 400, .inr (.inl two_91))), ((f 22), .inl (cZ, 400, .inl mrk_92)), ((f 23), .inl (cI, 810, .inl wlk_93)), ((f 24), .inl (cI, 150, .inl spn)), ((f 18), .inl (cL, 9, .inr (.inl trm)))] H := hP
                have hD : va_D A [((f 27), .inl (cZ, 41, .inl snd)), ((f 28), .inl (cI, 41, .inl nbr)), ((f 29), .inl (cI, 200, .inl lts)), ((f 25), .inl (cI, 41, .inl bss)), ((f 26), .inl (cI, 41, .inl wts)), (h0, .inr (8, mS f tn rm ln lx at_ bd fs dp on os bn df th tp_86 mo_ ev ss_88 so_89 lk_87 rs pt ot cl)), ((f 20), .inl (cL, 400, .inr (.inl one_90))), ((f 21), .inl (cL, 400, .inr (.inl two_91))), ((f 22), .inl (cZ, 400, .inl mrk_92)), ((f 23), .inl (cI, 810, .inl wlk_93)), ((f 24), .inl (cI, 150, .inl spn)), ((f 18), .inl (cL, 9, .inr (.inl trm)))] := hD
                refine W.eq (g2 := F0 m 180 ls []) rfl ?_
                refine lv_goto (tgt := 195) hx hb d_MO_act_180 (by decide) ?_
                exact em_vret hx hb hr hlocks hP hD hK hS (ev, tp_86, lk_87, ss_88, so_89, rs, pt, ot, one_90, two_91, bss, wts, snd, nbr, lts, mrk_92, wlk_93) [5, 6, 7, 3, 4, 0, 1, 2, 8, 9, 10, 11] (by decide) rfl ⟨rfl, ⟨hsnd, hmrk_96, (show ∃ G' : Nat → Prop, MI df G' trm one_90 two_91 spn tp_86 lk_87 rs pt ∧ ev ≤ 40 ∧ me bss wts ev tp_86 0 ∧ ot ≤ ot + 12 ∧ (ss_88 = ss + 1 ∨ (ss_88 = ss ∧ ¬ so_89 = 0 ∧ ot = ot) ∨ (ss_88 = ss ∧ so_89 = so ∧ ot = ot ∧ ms pt ev snd tp_86 < ms pt ev snd tp)) from (by obtain ⟨G', q1, q2⟩ := hCo_97; exact ⟨G', q1, hev, (by rcases q2 with ⟨_, _, q⟩ | ⟨_, _, q⟩; exact hm4.mono (by omega); rw [q]; exact hme), by omega, (by rcases q2 with ⟨q, _, _⟩ | ⟨q, q', _⟩; exact Or.inl q; exact Or.inr (Or.inl ⟨q, q', rfl⟩))⟩))⟩⟩ d_MO_act_195
              · skip
                exact hbad.elim
            · skip
              have hn_99 : ¬ 2 ≤ (tp - mb) := fun h => hb_84 ((nI_leI (a := 2) (b := tp - mb) (by omega) (by omega)).mpr h)
              refine lv_aload_n hx hb d_MO_act_160 rfl (lv_at hl 3 rfl) ?_
              refine lv_iconst (v := 0) hx hb d_MO_act_161 (by decide) ?_
              refine lv_iconst (v := 1) hx hb d_MO_act_162 (by decide) ?_
              refine em_call (wr := [((f 22), .inl (cZ, 400, .inl mrk)), ((f 23), .inl (cI, 810, .inl wlk))]) (em_runV (As := [.int 0, .int 1]) (rest := []) ⟨hx, hb, hml, hown, hG⟩ (mo_val01 l D cI cL cZ cC f h0 tn rm ln lx at_ bd fs dp on os bn df th tp mo_ ev ss so lk rs pt ot cl one two bss wts snd nbr lts spn trm Gc mb _ hsnd hMI hev hm1 hm2 hm3 hm4 hot hnt) (cwV 2 hG (gd_V k_1577 k_1579 k_91 k_116 k_1580) rfl rfl rfl (by decide +kernel) ⟨Nat.le_of_ble_eq_true rfl, Nat.le_of_ble_eq_true rfl⟩) (tw_V (q0 := 9) hP hD hK hE hst hS rfl rfl [9, 0, 1, 10, 11, 2, 3, 4, 7, 8] rfl (by decide)) rfl rfl hl.1 rfl (lv_room (Nat.le_of_ble_eq_true rfl)) d_MO_act_163 ⟨Nat.le_of_ble_eq_true rfl, Nat.le_of_ble_eq_true rfl⟩) hP hD hS hA [9, 0, 1, 10, 11, 2, 3, 4, 7, 8] [5, 6] rfl rfl (by decide) (by decide) (fun v u H locs hok hP hD hS => ?_) (fun x C u H locs hbad hxx hP hD hS => ?_)
              · skip
                obtain ⟨ev_100, tp_101, lk_102, ss_103, so_104, rs_105, pt_106, ot_107, one_108, two_109, bss_110, wts_111, snd_112, nbr_113, lts_114⟩ := u
                obtain ⟨rfl, hp_116⟩ := hok
                obtain ⟨hsnd_117, hMI_118, hev_119, hme_120, hot_121, hPv_122⟩ : (bln snd_112) ∧ (MI df Gc trm one_108 two_109 spn tp_101 lk_102 rs_105 pt_106) ∧ (ev_100 ≤ 40) ∧ (me bss_110 wts_111 ev_100 tp_101 0) ∧ (ot_107 ≤ ot + 12) ∧ ((ss_103 = ss + 1 ∨ (ss_103 = ss ∧ ¬ so_104 = 0 ∧ ot_107 = ot) ∨ (ss_103 = ss ∧ so_104 = so ∧ ot_107 = ot ∧ ms pt_106 ev_100 snd_112 tp_101 < ms pt ev snd tp))) := hp_116
                have hP : va_P D classes [((f 22), .inl (cZ, 400, .inl mrk)), ((f 23), .inl (cI, 810, .inl wlk)), (h0, .inr (8, mS f tn rm ln lx at_ bd fs dp on os bn df th tp_101 mo_ ev_100 ss_103 so_104 lk_102 rs_105 pt_106 ot_107 cl)), ((f 20), .inl (cL, 400, .inr (.inl one_108))), ((f 21), .inl (cL, 400, .inr (.inl two_109))), ((f 25), .inl (cI, 41, .inl bss_110)), ((f 26), .inl (cI, 41, .inl wts_111)), ((f 27), .inl (cZ, 41, .inl snd_112)), ((f 28), .inl (cI, 41, .inl nbr_113)), ((f 29), .inl (cI, 200, .inl lts_114)), ((f 24), .inl (cI, 150, .inl spn)), ((f 18), .inl (cL, 9, .inr (.inl trm)))] H := hP
                have hD : va_D A [((f 22), .inl (cZ, 400, .inl mrk)), ((f 23), .inl (cI, 810, .inl wlk)), (h0, .inr (8, mS f tn rm ln lx at_ bd fs dp on os bn df th tp_101 mo_ ev_100 ss_103 so_104 lk_102 rs_105 pt_106 ot_107 cl)), ((f 20), .inl (cL, 400, .inr (.inl one_108))), ((f 21), .inl (cL, 400, .inr (.inl two_109))), ((f 25), .inl (cI, 41, .inl bss_110)), ((f 26), .inl (cI, 41, .inl wts_111)), ((f 27), .inl (cZ, 41, .inl snd_112)), ((f 28), .inl (cI, 41, .inl nbr_113)), ((f 29), .inl (cI, 200, .inl lts_114)), ((f 24), .inl (cI, 150, .inl spn)), ((f 18), .inl (cL, 9, .inr (.inl trm)))] := hD
                refine W.eq (g2 := F0 m 166 ls []) rfl ?_
                refine lv_goto (tgt := 195) hx hb d_MO_act_166 (by decide) ?_
                exact em_vret hx hb hr hlocks hP hD hK hS (ev_100, tp_101, lk_102, ss_103, so_104, rs_105, pt_106, ot_107, one_108, two_109, bss_110, wts_111, snd_112, nbr_113, lts_114, mrk, wlk) [2, 3, 4, 5, 6, 7, 8, 9, 0, 1, 10, 11] (by decide) rfl ⟨rfl, ⟨hsnd_117, hmrk, (show ∃ G' : Nat → Prop, MI df G' trm one_108 two_109 spn tp_101 lk_102 rs_105 pt_106 ∧ ev_100 ≤ 40 ∧ me bss_110 wts_111 ev_100 tp_101 0 ∧ ot_107 ≤ ot + 12 ∧ (ss_103 = ss + 1 ∨ (ss_103 = ss ∧ ¬ so_104 = 0 ∧ ot_107 = ot) ∨ (ss_103 = ss ∧ so_104 = so ∧ ot_107 = ot ∧ ms pt_106 ev_100 snd_112 tp_101 < ms pt ev snd tp)) from ⟨Gc, hMI_118, hev_119, hme_120, hot_121, hPv_122⟩)⟩⟩ d_MO_act_195
              · skip
                exact hbad.elim
        · skip
          exact absurd (hb_1.symm.trans hb_82) (by decide)
      · skip
        exact hbad.elim
    · skip
      have hl : lv_has ls 4 [(2, .int 4), (1, .int (wkind lk)), (0, .ref h0)] := hl
      refine lv_aload_n hx hb d_MO_act_25 rfl (lv_at hl 2 rfl) ?_
      refine va_get (D := D) (ci := 8) (v := .int (nI tp)) (C := rn_MO) (T := fl_MO) (N := 55) hx hb hG in_MO hown hK hP 0 rfl rfl 38 (by decide) (hG _ k_1229) (fun _ h9 => h9) rfl d_MO_act_26 ?_
      refine lv_aload_n hx hb d_MO_act_29 rfl (lv_at hl 2 rfl) ?_
      refine em_call (wr := [((f 20), .inl (cL, 400, .inr (.inl one))), ((f 21), .inl (cL, 400, .inr (.inl two))), ((f 27), .inl (cZ, 41, .inl snd)), ((f 28), .inl (cI, 41, .inl nbr)), ((f 29), .inl (cI, 200, .inl lts)), ((f 22), .inl (cZ, 400, .inl mrk)), ((f 23), .inl (cI, 810, .inl wlk)), ((f 24), .inl (cI, 150, .inl spn)), ((f 18), .inl (cL, 9, .inr (.inl trm)))]) (em_runV (As := []) (rest := [.int (nI tp)]) ⟨hx, hb, hml, hown, hG⟩ (mo_below l D cI cL cZ cC f h0 tn rm ln lx at_ bd fs dp on os bn df th tp mo_ ev ss so lk rs pt ot cl bss wts _ hme hev hnt) (cwV 0 hG (gd_V k_1573 k_1575 k_90 k_116 k_1576) rfl rfl rfl (by decide +kernel) ⟨Nat.le_of_ble_eq_true rfl, Nat.le_of_ble_eq_true rfl⟩) (tw_V (q0 := 0) hP hD hK hE hst hS rfl rfl [0, 3, 4] rfl (by decide)) rfl rfl hl.1 rfl (lv_room (Nat.le_of_ble_eq_true rfl)) d_MO_act_30 ⟨Nat.le_of_ble_eq_true rfl, Nat.le_of_ble_eq_true rfl⟩) hP hD hS hA [0, 3, 4] [1, 2, 5, 6, 7, 8, 9, 10, 11] rfl rfl (by decide) (by decide) (fun v u H locs hok hP hD hS => ?_) (fun x C u H locs hbad hxx hP hD hS => ?_)
      · skip
        obtain ⟨r_124, rfl, hp_125⟩ := hok
        have hres_126 : (∃ mq : Nat, r_124 = nI mq ∧ mq ≤ tp ∧ (ev = 0 → mq = 0) ∧ (1 ≤ ev → bss (ev - 1) = nI mq) ∧ me bss wts ev mq 0) := hp_125
        obtain ⟨mb, rfl, hm1, hm2, hm3, hm4⟩ := hres_126
        have hP : va_P D classes [((f 20), .inl (cL, 400, .inr (.inl one))), ((f 21), .inl (cL, 400, .inr (.inl two))), ((f 27), .inl (cZ, 41, .inl snd)), ((f 28), .inl (cI, 41, .inl nbr)), ((f 29), .inl (cI, 200, .inl lts)), ((f 22), .inl (cZ, 400, .inl mrk)), ((f 23), .inl (cI, 810, .inl wlk)), ((f 24), .inl (cI, 150, .inl spn)), ((f 18), .inl (cL, 9, .inr (.inl trm))), (h0, .inr (8, mS f tn rm ln lx at_ bd fs dp on os bn df th tp mo_ ev ss so lk rs pt ot cl)), ((f 25), .inl (cI, 41, .inl bss)), ((f 26), .inl (cI, 41, .inl wts))] H := hP
        have hD : va_D A [((f 20), .inl (cL, 400, .inr (.inl one))), ((f 21), .inl (cL, 400, .inr (.inl two))), ((f 27), .inl (cZ, 41, .inl snd)), ((f 28), .inl (cI, 41, .inl nbr)), ((f 29), .inl (cI, 200, .inl lts)), ((f 22), .inl (cZ, 400, .inl mrk)), ((f 23), .inl (cI, 810, .inl wlk)), ((f 24), .inl (cI, 150, .inl spn)), ((f 18), .inl (cL, 9, .inr (.inl trm))), (h0, .inr (8, mS f tn rm ln lx at_ bd fs dp on os bn df th tp mo_ ev ss so lk rs pt ot cl)), ((f 25), .inl (cI, 41, .inl bss)), ((f 26), .inl (cI, 41, .inl wts))] := hD
        refine W.eq (g2 := F0 m 33 ls [.int (nI mb), .int (nI tp)]) rfl ?_
        refine lw_isub (a := tp) (b := mb) hx hb d_MO_act_33 (by omega) ?_
        refine lv_istore_n (lv' := [(3, .int (nI (tp - mb))), (2, .int 4), (1, .int (wkind lk)), (0, .ref h0)]) hx hb d_MO_act_34 rfl hl (Nat.le_of_ble_eq_true rfl) rfl (fun ls hl => ?_)
        refine lv_iload_n hx hb d_MO_act_35 rfl (lv_at hl 2 rfl) ?_
        refine lv_iconst (v := 1) hx hb d_MO_act_36 (by decide) ?_
        refine lv_icmp_ne (tgt := 69) hx hb d_MO_act_37 (by decide) (fun hb_127 => ?_) (fun hb_127 => ?_)
        · skip
          refine lv_iload_n hx hb d_MO_act_69 rfl (lv_at hl 2 rfl) ?_
          refine lv_if_eq (tgt := 85) hx hb d_MO_act_70 (by decide) (fun hb_128 => ?_) (fun hb_128 => ?_)
          · skip
            exact absurd (hb_1.symm.trans hb_128) (by decide)
          · skip
            refine lv_iload_n hx hb d_MO_act_73 rfl (lv_at hl 1 rfl) ?_
            refine lv_bipush (v := 17) hx hb d_MO_act_74 (by decide) ?_
            refine lv_icmp_eq (tgt := 85) hx hb d_MO_act_76 (by decide) (fun hbr => absurd hbr (by decide)) (fun hbr => ?_)
            refine lv_iload_n hx hb d_MO_act_79 rfl (lv_at hl 1 rfl) ?_
            refine lv_bipush (v := 20) hx hb d_MO_act_80 (by decide) ?_
            refine lv_icmp_le (tgt := 106) hx hb d_MO_act_82 (by decide) (fun hbr => ?_) (fun hbr => absurd (by decide) hbr)
            refine lv_iload_n hx hb d_MO_act_106 rfl (lv_at hl 1 rfl) ?_
            refine lv_bipush (v := 16) hx hb d_MO_act_107 (by decide) ?_
            refine lv_icmp_ne (tgt := 152) hx hb d_MO_act_109 (by decide) (fun hbr => ?_) (fun hbr => absurd hbr (by decide))
            refine lv_iload_n hx hb d_MO_act_152 rfl (lv_at hl 0 rfl) ?_
            refine lv_iload_n hx hb d_MO_act_153 rfl (lv_at hl 1 rfl) ?_
            refine W.callR (W.runS (As := [.int 4]) (rest := [.int (nI (tp - mb))]) ⟨hx, hb, hml, hown, hG⟩ (mo_needs l D cI cL cZ cC 4 ) (cwS 1 hG (gd_S k_1621 k_1622 k_116 k_1623) rfl rfl rfl (by decide +kernel) ⟨Nat.le_of_ble_eq_true rfl, Nat.le_of_ble_eq_true rfl⟩) (wq_S hP hK [] rfl) rfl rfl hl.1 rfl (lv_room (Nat.le_of_ble_eq_true rfl)) d_MO_act_154 ⟨Nat.le_of_ble_eq_true rfl, Nat.le_of_ble_eq_true rfl⟩) ?_
            refine W.eq (g2 := F0 m 157 ls [.int (mneeds (4 : Int32)), .int (nI (tp - mb))]) rfl ?_
            refine W.eq (g2 := F0 m 157 ls [.int 3, .int (nI (tp - mb))]) (by rw [show mneeds 4 = 3 by decide]) ?_
            refine lv_icmp_ge (tgt := 169) hx hb d_MO_act_157 (by decide) (fun hb_129 => ?_) (fun hb_129 => ?_)
            · skip
              have hn_130 : 3 ≤ (tp - mb) := (nI_leI (a := 3) (b := tp - mb) (by omega) (by omega)).mp hb_129
              refine lv_iload_n hx hb d_MO_act_169 rfl (lv_at hl 1 rfl) ?_
              refine lv_bipush (v := 10) hx hb d_MO_act_170 (by decide) ?_
              refine lv_icmp_ge (tgt := 183) hx hb d_MO_act_172 (by decide) (fun hbr => absurd hbr (by decide)) (fun hbr => ?_)
              refine lv_aload_n hx hb d_MO_act_175 rfl (lv_at hl 3 rfl) ?_
              refine lv_iload_n hx hb d_MO_act_176 rfl (lv_at hl 1 rfl) ?_
              refine em_call (wr := [((f 27), .inl (cZ, 41, .inl snd)), ((f 28), .inl (cI, 41, .inl nbr)), ((f 29), .inl (cI, 200, .inl lts)), ((f 25), .inl (cI, 41, .inl bss)), ((f 26), .inl (cI, 41, .inl wts))]) (em_runV (As := [.int 4]) (rest := []) ⟨hx, hb, hml, hown, hG⟩ (mo_comb4 l D cI cL cZ cC f h0 tn rm ln lx at_ bd fs dp on os bn df th tp mo_ ev ss so lk rs pt ot cl one two mrk wlk spn trm Gc _ hmrk hMI hrm (by omega) hnt) (cwV 1 hG (gd_V k_1624 k_1626 k_101 k_116 k_1627) rfl rfl rfl (by decide +kernel) ⟨Nat.le_of_ble_eq_true rfl, Nat.le_of_ble_eq_true rfl⟩) (tw_V (q0 := 9) hP hD hK hE hst hS rfl rfl [9, 0, 1, 5, 6, 7, 8] rfl (by decide)) rfl rfl hl.1 rfl (lv_room (Nat.le_of_ble_eq_true rfl)) d_MO_act_177 ⟨Nat.le_of_ble_eq_true rfl, Nat.le_of_ble_eq_true rfl⟩) hP hD hS hA [9, 0, 1, 5, 6, 7, 8] [2, 3, 4, 10, 11] rfl rfl (by decide) (by decide) (fun v u H locs hok hP hD hS => ?_) (fun x C u H locs hbad hxx hP hD hS => ?_)
              · skip
                obtain ⟨tp_131, lk_132, ss_133, so_134, one_135, two_136, mrk_137, wlk_138⟩ := u
                obtain ⟨rfl, hp_140⟩ := hok
                obtain ⟨hmrk_141, hCo_142⟩ : (bln mrk_137) ∧ (∃ G' : Nat → Prop, MI df G' trm one_135 two_136 spn tp_131 lk_132 rs pt ∧ ((ss_133 = ss + 1 ∧ so_134 = so ∧ tp ≤ tp_131 + 3) ∨ (ss_133 = ss ∧ ¬ so_134 = 0 ∧ tp_131 = tp))) := hp_140
                have hP : va_P D classes [((f 27), .inl (cZ, 41, .inl snd)), ((f 28), .inl (cI, 41, .inl nbr)), ((f 29), .inl (cI, 200, .inl lts)), ((f 25), .inl (cI, 41, .inl bss)), ((f 26), .inl (cI, 41, .inl wts)), (h0, .inr (8, mS f tn rm ln lx at_ bd fs dp on os bn df th tp_131 mo_ ev ss_133 so_134 lk_132 rs pt ot cl)), ((f 20), .inl (cL, 400, .inr (.inl one_135))), ((f 21), .inl (cL, 400, .inr (.inl two_136))), ((f 22), .inl (cZ, 400, .inl mrk_137)), ((f 23), .inl (cI, 810, .inl wlk_138)), ((f 24), .inl (cI, 150, .inl spn)), ((f 18), .inl (cL, 9, .inr (.inl trm)))] H := hP
                have hD : va_D A [((f 27), .inl (cZ, 41, .inl snd)), ((f 28), .inl (cI, 41, .inl nbr)), ((f 29), .inl (cI, 200, .inl lts)), ((f 25), .inl (cI, 41, .inl bss)), ((f 26), .inl (cI, 41, .inl wts)), (h0, .inr (8, mS f tn rm ln lx at_ bd fs dp on os bn df th tp_131 mo_ ev ss_133 so_134 lk_132 rs pt ot cl)), ((f 20), .inl (cL, 400, .inr (.inl one_135))), ((f 21), .inl (cL, 400, .inr (.inl two_136))), ((f 22), .inl (cZ, 400, .inl mrk_137)), ((f 23), .inl (cI, 810, .inl wlk_138)), ((f 24), .inl (cI, 150, .inl spn)), ((f 18), .inl (cL, 9, .inr (.inl trm)))] := hD
                refine W.eq (g2 := F0 m 180 ls []) rfl ?_
                refine lv_goto (tgt := 195) hx hb d_MO_act_180 (by decide) ?_
                exact em_vret hx hb hr hlocks hP hD hK hS (ev, tp_131, lk_132, ss_133, so_134, rs, pt, ot, one_135, two_136, bss, wts, snd, nbr, lts, mrk_137, wlk_138) [5, 6, 7, 3, 4, 0, 1, 2, 8, 9, 10, 11] (by decide) rfl ⟨rfl, ⟨hsnd, hmrk_141, (show ∃ G' : Nat → Prop, MI df G' trm one_135 two_136 spn tp_131 lk_132 rs pt ∧ ev ≤ 40 ∧ me bss wts ev tp_131 0 ∧ ot ≤ ot + 12 ∧ (ss_133 = ss + 1 ∨ (ss_133 = ss ∧ ¬ so_134 = 0 ∧ ot = ot) ∨ (ss_133 = ss ∧ so_134 = so ∧ ot = ot ∧ ms pt ev snd tp_131 < ms pt ev snd tp)) from (by obtain ⟨G', q1, q2⟩ := hCo_142; exact ⟨G', q1, hev, (by rcases q2 with ⟨_, _, q⟩ | ⟨_, _, q⟩; exact hm4.mono (by omega); rw [q]; exact hme), by omega, (by rcases q2 with ⟨q, _, _⟩ | ⟨q, q', _⟩; exact Or.inl q; exact Or.inr (Or.inl ⟨q, q', rfl⟩))⟩))⟩⟩ d_MO_act_195
              · skip
                exact hbad.elim
            · skip
              have hn_144 : ¬ 3 ≤ (tp - mb) := fun h => hb_129 ((nI_leI (a := 3) (b := tp - mb) (by omega) (by omega)).mpr h)
              refine lv_aload_n hx hb d_MO_act_160 rfl (lv_at hl 3 rfl) ?_
              refine lv_iconst (v := 0) hx hb d_MO_act_161 (by decide) ?_
              refine lv_iconst (v := 1) hx hb d_MO_act_162 (by decide) ?_
              refine em_call (wr := [((f 22), .inl (cZ, 400, .inl mrk)), ((f 23), .inl (cI, 810, .inl wlk))]) (em_runV (As := [.int 0, .int 1]) (rest := []) ⟨hx, hb, hml, hown, hG⟩ (mo_val01 l D cI cL cZ cC f h0 tn rm ln lx at_ bd fs dp on os bn df th tp mo_ ev ss so lk rs pt ot cl one two bss wts snd nbr lts spn trm Gc mb _ hsnd hMI hev hm1 hm2 hm3 hm4 hot hnt) (cwV 2 hG (gd_V k_1577 k_1579 k_91 k_116 k_1580) rfl rfl rfl (by decide +kernel) ⟨Nat.le_of_ble_eq_true rfl, Nat.le_of_ble_eq_true rfl⟩) (tw_V (q0 := 9) hP hD hK hE hst hS rfl rfl [9, 0, 1, 10, 11, 2, 3, 4, 7, 8] rfl (by decide)) rfl rfl hl.1 rfl (lv_room (Nat.le_of_ble_eq_true rfl)) d_MO_act_163 ⟨Nat.le_of_ble_eq_true rfl, Nat.le_of_ble_eq_true rfl⟩) hP hD hS hA [9, 0, 1, 10, 11, 2, 3, 4, 7, 8] [5, 6] rfl rfl (by decide) (by decide) (fun v u H locs hok hP hD hS => ?_) (fun x C u H locs hbad hxx hP hD hS => ?_)
              · skip
                obtain ⟨ev_145, tp_146, lk_147, ss_148, so_149, rs_150, pt_151, ot_152, one_153, two_154, bss_155, wts_156, snd_157, nbr_158, lts_159⟩ := u
                obtain ⟨rfl, hp_161⟩ := hok
                obtain ⟨hsnd_162, hMI_163, hev_164, hme_165, hot_166, hPv_167⟩ : (bln snd_157) ∧ (MI df Gc trm one_153 two_154 spn tp_146 lk_147 rs_150 pt_151) ∧ (ev_145 ≤ 40) ∧ (me bss_155 wts_156 ev_145 tp_146 0) ∧ (ot_152 ≤ ot + 12) ∧ ((ss_148 = ss + 1 ∨ (ss_148 = ss ∧ ¬ so_149 = 0 ∧ ot_152 = ot) ∨ (ss_148 = ss ∧ so_149 = so ∧ ot_152 = ot ∧ ms pt_151 ev_145 snd_157 tp_146 < ms pt ev snd tp))) := hp_161
                have hP : va_P D classes [((f 22), .inl (cZ, 400, .inl mrk)), ((f 23), .inl (cI, 810, .inl wlk)), (h0, .inr (8, mS f tn rm ln lx at_ bd fs dp on os bn df th tp_146 mo_ ev_145 ss_148 so_149 lk_147 rs_150 pt_151 ot_152 cl)), ((f 20), .inl (cL, 400, .inr (.inl one_153))), ((f 21), .inl (cL, 400, .inr (.inl two_154))), ((f 25), .inl (cI, 41, .inl bss_155)), ((f 26), .inl (cI, 41, .inl wts_156)), ((f 27), .inl (cZ, 41, .inl snd_157)), ((f 28), .inl (cI, 41, .inl nbr_158)), ((f 29), .inl (cI, 200, .inl lts_159)), ((f 24), .inl (cI, 150, .inl spn)), ((f 18), .inl (cL, 9, .inr (.inl trm)))] H := hP
                have hD : va_D A [((f 22), .inl (cZ, 400, .inl mrk)), ((f 23), .inl (cI, 810, .inl wlk)), (h0, .inr (8, mS f tn rm ln lx at_ bd fs dp on os bn df th tp_146 mo_ ev_145 ss_148 so_149 lk_147 rs_150 pt_151 ot_152 cl)), ((f 20), .inl (cL, 400, .inr (.inl one_153))), ((f 21), .inl (cL, 400, .inr (.inl two_154))), ((f 25), .inl (cI, 41, .inl bss_155)), ((f 26), .inl (cI, 41, .inl wts_156)), ((f 27), .inl (cZ, 41, .inl snd_157)), ((f 28), .inl (cI, 41, .inl nbr_158)), ((f 29), .inl (cI, 200, .inl lts_159)), ((f 24), .inl (cI, 150, .inl spn)), ((f 18), .inl (cL, 9, .inr (.inl trm)))] := hD
                refine W.eq (g2 := F0 m 166 ls []) rfl ?_
                refine lv_goto (tgt := 195) hx hb d_MO_act_166 (by decide) ?_
                exact em_vret hx hb hr hlocks hP hD hK hS (ev_145, tp_146, lk_147, ss_148, so_149, rs_150, pt_151, ot_152, one_153, two_154, bss_155, wts_156, snd_157, nbr_158, lts_159, mrk, wlk) [2, 3, 4, 5, 6, 7, 8, 9, 0, 1, 10, 11] (by decide) rfl ⟨rfl, ⟨hsnd_162, hmrk, (show ∃ G' : Nat → Prop, MI df G' trm one_153 two_154 spn tp_146 lk_147 rs_150 pt_151 ∧ ev_145 ≤ 40 ∧ me bss_155 wts_156 ev_145 tp_146 0 ∧ ot_152 ≤ ot + 12 ∧ (ss_148 = ss + 1 ∨ (ss_148 = ss ∧ ¬ so_149 = 0 ∧ ot_152 = ot) ∨ (ss_148 = ss ∧ so_149 = so ∧ ot_152 = ot ∧ ms pt_151 ev_145 snd_157 tp_146 < ms pt ev snd tp)) from ⟨Gc, hMI_163, hev_164, hme_165, hot_166, hPv_167⟩)⟩⟩ d_MO_act_195
              · skip
                exact hbad.elim
        · skip
          exact absurd (hb_1.symm.trans hb_127) (by decide)
      · skip
        exact hbad.elim
    · skip
      have hl : lv_has ls 4 [(2, .int 5), (1, .int (wkind lk)), (0, .ref h0)] := hl
      refine lv_aload_n hx hb d_MO_act_25 rfl (lv_at hl 2 rfl) ?_
      refine va_get (D := D) (ci := 8) (v := .int (nI tp)) (C := rn_MO) (T := fl_MO) (N := 55) hx hb hG in_MO hown hK hP 0 rfl rfl 38 (by decide) (hG _ k_1229) (fun _ h9 => h9) rfl d_MO_act_26 ?_
      refine lv_aload_n hx hb d_MO_act_29 rfl (lv_at hl 2 rfl) ?_
      refine em_call (wr := [((f 20), .inl (cL, 400, .inr (.inl one))), ((f 21), .inl (cL, 400, .inr (.inl two))), ((f 27), .inl (cZ, 41, .inl snd)), ((f 28), .inl (cI, 41, .inl nbr)), ((f 29), .inl (cI, 200, .inl lts)), ((f 22), .inl (cZ, 400, .inl mrk)), ((f 23), .inl (cI, 810, .inl wlk)), ((f 24), .inl (cI, 150, .inl spn)), ((f 18), .inl (cL, 9, .inr (.inl trm)))]) (em_runV (As := []) (rest := [.int (nI tp)]) ⟨hx, hb, hml, hown, hG⟩ (mo_below l D cI cL cZ cC f h0 tn rm ln lx at_ bd fs dp on os bn df th tp mo_ ev ss so lk rs pt ot cl bss wts _ hme hev hnt) (cwV 0 hG (gd_V k_1573 k_1575 k_90 k_116 k_1576) rfl rfl rfl (by decide +kernel) ⟨Nat.le_of_ble_eq_true rfl, Nat.le_of_ble_eq_true rfl⟩) (tw_V (q0 := 0) hP hD hK hE hst hS rfl rfl [0, 3, 4] rfl (by decide)) rfl rfl hl.1 rfl (lv_room (Nat.le_of_ble_eq_true rfl)) d_MO_act_30 ⟨Nat.le_of_ble_eq_true rfl, Nat.le_of_ble_eq_true rfl⟩) hP hD hS hA [0, 3, 4] [1, 2, 5, 6, 7, 8, 9, 10, 11] rfl rfl (by decide) (by decide) (fun v u H locs hok hP hD hS => ?_) (fun x C u H locs hbad hxx hP hD hS => ?_)
      · skip
        obtain ⟨r_169, rfl, hp_170⟩ := hok
        have hres_171 : (∃ mq : Nat, r_169 = nI mq ∧ mq ≤ tp ∧ (ev = 0 → mq = 0) ∧ (1 ≤ ev → bss (ev - 1) = nI mq) ∧ me bss wts ev mq 0) := hp_170
        obtain ⟨mb, rfl, hm1, hm2, hm3, hm4⟩ := hres_171
        have hP : va_P D classes [((f 20), .inl (cL, 400, .inr (.inl one))), ((f 21), .inl (cL, 400, .inr (.inl two))), ((f 27), .inl (cZ, 41, .inl snd)), ((f 28), .inl (cI, 41, .inl nbr)), ((f 29), .inl (cI, 200, .inl lts)), ((f 22), .inl (cZ, 400, .inl mrk)), ((f 23), .inl (cI, 810, .inl wlk)), ((f 24), .inl (cI, 150, .inl spn)), ((f 18), .inl (cL, 9, .inr (.inl trm))), (h0, .inr (8, mS f tn rm ln lx at_ bd fs dp on os bn df th tp mo_ ev ss so lk rs pt ot cl)), ((f 25), .inl (cI, 41, .inl bss)), ((f 26), .inl (cI, 41, .inl wts))] H := hP
        have hD : va_D A [((f 20), .inl (cL, 400, .inr (.inl one))), ((f 21), .inl (cL, 400, .inr (.inl two))), ((f 27), .inl (cZ, 41, .inl snd)), ((f 28), .inl (cI, 41, .inl nbr)), ((f 29), .inl (cI, 200, .inl lts)), ((f 22), .inl (cZ, 400, .inl mrk)), ((f 23), .inl (cI, 810, .inl wlk)), ((f 24), .inl (cI, 150, .inl spn)), ((f 18), .inl (cL, 9, .inr (.inl trm))), (h0, .inr (8, mS f tn rm ln lx at_ bd fs dp on os bn df th tp mo_ ev ss so lk rs pt ot cl)), ((f 25), .inl (cI, 41, .inl bss)), ((f 26), .inl (cI, 41, .inl wts))] := hD
        refine W.eq (g2 := F0 m 33 ls [.int (nI mb), .int (nI tp)]) rfl ?_
        refine lw_isub (a := tp) (b := mb) hx hb d_MO_act_33 (by omega) ?_
        refine lv_istore_n (lv' := [(3, .int (nI (tp - mb))), (2, .int 5), (1, .int (wkind lk)), (0, .ref h0)]) hx hb d_MO_act_34 rfl hl (Nat.le_of_ble_eq_true rfl) rfl (fun ls hl => ?_)
        refine lv_iload_n hx hb d_MO_act_35 rfl (lv_at hl 2 rfl) ?_
        refine lv_iconst (v := 1) hx hb d_MO_act_36 (by decide) ?_
        refine lv_icmp_ne (tgt := 69) hx hb d_MO_act_37 (by decide) (fun hb_172 => ?_) (fun hb_172 => ?_)
        · skip
          refine lv_iload_n hx hb d_MO_act_69 rfl (lv_at hl 2 rfl) ?_
          refine lv_if_eq (tgt := 85) hx hb d_MO_act_70 (by decide) (fun hb_173 => ?_) (fun hb_173 => ?_)
          · skip
            exact absurd (hb_1.symm.trans hb_173) (by decide)
          · skip
            refine lv_iload_n hx hb d_MO_act_73 rfl (lv_at hl 1 rfl) ?_
            refine lv_bipush (v := 17) hx hb d_MO_act_74 (by decide) ?_
            refine lv_icmp_eq (tgt := 85) hx hb d_MO_act_76 (by decide) (fun hbr => absurd hbr (by decide)) (fun hbr => ?_)
            refine lv_iload_n hx hb d_MO_act_79 rfl (lv_at hl 1 rfl) ?_
            refine lv_bipush (v := 20) hx hb d_MO_act_80 (by decide) ?_
            refine lv_icmp_le (tgt := 106) hx hb d_MO_act_82 (by decide) (fun hbr => ?_) (fun hbr => absurd (by decide) hbr)
            refine lv_iload_n hx hb d_MO_act_106 rfl (lv_at hl 1 rfl) ?_
            refine lv_bipush (v := 16) hx hb d_MO_act_107 (by decide) ?_
            refine lv_icmp_ne (tgt := 152) hx hb d_MO_act_109 (by decide) (fun hbr => ?_) (fun hbr => absurd hbr (by decide))
            refine lv_iload_n hx hb d_MO_act_152 rfl (lv_at hl 0 rfl) ?_
            refine lv_iload_n hx hb d_MO_act_153 rfl (lv_at hl 1 rfl) ?_
            refine W.callR (W.runS (As := [.int 5]) (rest := [.int (nI (tp - mb))]) ⟨hx, hb, hml, hown, hG⟩ (mo_needs l D cI cL cZ cC 5 ) (cwS 1 hG (gd_S k_1621 k_1622 k_116 k_1623) rfl rfl rfl (by decide +kernel) ⟨Nat.le_of_ble_eq_true rfl, Nat.le_of_ble_eq_true rfl⟩) (wq_S hP hK [] rfl) rfl rfl hl.1 rfl (lv_room (Nat.le_of_ble_eq_true rfl)) d_MO_act_154 ⟨Nat.le_of_ble_eq_true rfl, Nat.le_of_ble_eq_true rfl⟩) ?_
            refine W.eq (g2 := F0 m 157 ls [.int (mneeds (5 : Int32)), .int (nI (tp - mb))]) rfl ?_
            refine W.eq (g2 := F0 m 157 ls [.int 3, .int (nI (tp - mb))]) (by rw [show mneeds 5 = 3 by decide]) ?_
            refine lv_icmp_ge (tgt := 169) hx hb d_MO_act_157 (by decide) (fun hb_174 => ?_) (fun hb_174 => ?_)
            · skip
              have hn_175 : 3 ≤ (tp - mb) := (nI_leI (a := 3) (b := tp - mb) (by omega) (by omega)).mp hb_174
              refine lv_iload_n hx hb d_MO_act_169 rfl (lv_at hl 1 rfl) ?_
              refine lv_bipush (v := 10) hx hb d_MO_act_170 (by decide) ?_
              refine lv_icmp_ge (tgt := 183) hx hb d_MO_act_172 (by decide) (fun hbr => absurd hbr (by decide)) (fun hbr => ?_)
              refine lv_aload_n hx hb d_MO_act_175 rfl (lv_at hl 3 rfl) ?_
              refine lv_iload_n hx hb d_MO_act_176 rfl (lv_at hl 1 rfl) ?_
              refine em_call (wr := [((f 27), .inl (cZ, 41, .inl snd)), ((f 28), .inl (cI, 41, .inl nbr)), ((f 29), .inl (cI, 200, .inl lts)), ((f 25), .inl (cI, 41, .inl bss)), ((f 26), .inl (cI, 41, .inl wts))]) (em_runV (As := [.int 5]) (rest := []) ⟨hx, hb, hml, hown, hG⟩ (mo_comb5 l D cI cL cZ cC f h0 tn rm ln lx at_ bd fs dp on os bn df th tp mo_ ev ss so lk rs pt ot cl one two mrk wlk spn trm Gc _ hmrk hMI hrm (by omega) hnt) (cwV 1 hG (gd_V k_1624 k_1626 k_101 k_116 k_1627) rfl rfl rfl (by decide +kernel) ⟨Nat.le_of_ble_eq_true rfl, Nat.le_of_ble_eq_true rfl⟩) (tw_V (q0 := 9) hP hD hK hE hst hS rfl rfl [9, 0, 1, 5, 6, 7, 8] rfl (by decide)) rfl rfl hl.1 rfl (lv_room (Nat.le_of_ble_eq_true rfl)) d_MO_act_177 ⟨Nat.le_of_ble_eq_true rfl, Nat.le_of_ble_eq_true rfl⟩) hP hD hS hA [9, 0, 1, 5, 6, 7, 8] [2, 3, 4, 10, 11] rfl rfl (by decide) (by decide) (fun v u H locs hok hP hD hS => ?_) (fun x C u H locs hbad hxx hP hD hS => ?_)
              · skip
                obtain ⟨tp_176, lk_177, ss_178, so_179, one_180, two_181, mrk_182, wlk_183⟩ := u
                obtain ⟨rfl, hp_185⟩ := hok
                obtain ⟨hmrk_186, hCo_187⟩ : (bln mrk_182) ∧ (∃ G' : Nat → Prop, MI df G' trm one_180 two_181 spn tp_176 lk_177 rs pt ∧ ((ss_178 = ss + 1 ∧ so_179 = so ∧ tp ≤ tp_176 + 3) ∨ (ss_178 = ss ∧ ¬ so_179 = 0 ∧ tp_176 = tp))) := hp_185
                have hP : va_P D classes [((f 27), .inl (cZ, 41, .inl snd)), ((f 28), .inl (cI, 41, .inl nbr)), ((f 29), .inl (cI, 200, .inl lts)), ((f 25), .inl (cI, 41, .inl bss)), ((f 26), .inl (cI, 41, .inl wts)), (h0, .inr (8, mS f tn rm ln lx at_ bd fs dp on os bn df th tp_176 mo_ ev ss_178 so_179 lk_177 rs pt ot cl)), ((f 20), .inl (cL, 400, .inr (.inl one_180))), ((f 21), .inl (cL, 400, .inr (.inl two_181))), ((f 22), .inl (cZ, 400, .inl mrk_182)), ((f 23), .inl (cI, 810, .inl wlk_183)), ((f 24), .inl (cI, 150, .inl spn)), ((f 18), .inl (cL, 9, .inr (.inl trm)))] H := hP
                have hD : va_D A [((f 27), .inl (cZ, 41, .inl snd)), ((f 28), .inl (cI, 41, .inl nbr)), ((f 29), .inl (cI, 200, .inl lts)), ((f 25), .inl (cI, 41, .inl bss)), ((f 26), .inl (cI, 41, .inl wts)), (h0, .inr (8, mS f tn rm ln lx at_ bd fs dp on os bn df th tp_176 mo_ ev ss_178 so_179 lk_177 rs pt ot cl)), ((f 20), .inl (cL, 400, .inr (.inl one_180))), ((f 21), .inl (cL, 400, .inr (.inl two_181))), ((f 22), .inl (cZ, 400, .inl mrk_182)), ((f 23), .inl (cI, 810, .inl wlk_183)), ((f 24), .inl (cI, 150, .inl spn)), ((f 18), .inl (cL, 9, .inr (.inl trm)))] := hD
                refine W.eq (g2 := F0 m 180 ls []) rfl ?_
                refine lv_goto (tgt := 195) hx hb d_MO_act_180 (by decide) ?_
                exact em_vret hx hb hr hlocks hP hD hK hS (ev, tp_176, lk_177, ss_178, so_179, rs, pt, ot, one_180, two_181, bss, wts, snd, nbr, lts, mrk_182, wlk_183) [5, 6, 7, 3, 4, 0, 1, 2, 8, 9, 10, 11] (by decide) rfl ⟨rfl, ⟨hsnd, hmrk_186, (show ∃ G' : Nat → Prop, MI df G' trm one_180 two_181 spn tp_176 lk_177 rs pt ∧ ev ≤ 40 ∧ me bss wts ev tp_176 0 ∧ ot ≤ ot + 12 ∧ (ss_178 = ss + 1 ∨ (ss_178 = ss ∧ ¬ so_179 = 0 ∧ ot = ot) ∨ (ss_178 = ss ∧ so_179 = so ∧ ot = ot ∧ ms pt ev snd tp_176 < ms pt ev snd tp)) from (by obtain ⟨G', q1, q2⟩ := hCo_187; exact ⟨G', q1, hev, (by rcases q2 with ⟨_, _, q⟩ | ⟨_, _, q⟩; exact hm4.mono (by omega); rw [q]; exact hme), by omega, (by rcases q2 with ⟨q, _, _⟩ | ⟨q, q', _⟩; exact Or.inl q; exact Or.inr (Or.inl ⟨q, q', rfl⟩))⟩))⟩⟩ d_MO_act_195
              · skip
                exact hbad.elim
            · skip
              have hn_189 : ¬ 3 ≤ (tp - mb) := fun h => hb_174 ((nI_leI (a := 3) (b := tp - mb) (by omega) (by omega)).mpr h)
              refine lv_aload_n hx hb d_MO_act_160 rfl (lv_at hl 3 rfl) ?_
              refine lv_iconst (v := 0) hx hb d_MO_act_161 (by decide) ?_
              refine lv_iconst (v := 1) hx hb d_MO_act_162 (by decide) ?_
              refine em_call (wr := [((f 22), .inl (cZ, 400, .inl mrk)), ((f 23), .inl (cI, 810, .inl wlk))]) (em_runV (As := [.int 0, .int 1]) (rest := []) ⟨hx, hb, hml, hown, hG⟩ (mo_val01 l D cI cL cZ cC f h0 tn rm ln lx at_ bd fs dp on os bn df th tp mo_ ev ss so lk rs pt ot cl one two bss wts snd nbr lts spn trm Gc mb _ hsnd hMI hev hm1 hm2 hm3 hm4 hot hnt) (cwV 2 hG (gd_V k_1577 k_1579 k_91 k_116 k_1580) rfl rfl rfl (by decide +kernel) ⟨Nat.le_of_ble_eq_true rfl, Nat.le_of_ble_eq_true rfl⟩) (tw_V (q0 := 9) hP hD hK hE hst hS rfl rfl [9, 0, 1, 10, 11, 2, 3, 4, 7, 8] rfl (by decide)) rfl rfl hl.1 rfl (lv_room (Nat.le_of_ble_eq_true rfl)) d_MO_act_163 ⟨Nat.le_of_ble_eq_true rfl, Nat.le_of_ble_eq_true rfl⟩) hP hD hS hA [9, 0, 1, 10, 11, 2, 3, 4, 7, 8] [5, 6] rfl rfl (by decide) (by decide) (fun v u H locs hok hP hD hS => ?_) (fun x C u H locs hbad hxx hP hD hS => ?_)
              · skip
                obtain ⟨ev_190, tp_191, lk_192, ss_193, so_194, rs_195, pt_196, ot_197, one_198, two_199, bss_200, wts_201, snd_202, nbr_203, lts_204⟩ := u
                obtain ⟨rfl, hp_206⟩ := hok
                obtain ⟨hsnd_207, hMI_208, hev_209, hme_210, hot_211, hPv_212⟩ : (bln snd_202) ∧ (MI df Gc trm one_198 two_199 spn tp_191 lk_192 rs_195 pt_196) ∧ (ev_190 ≤ 40) ∧ (me bss_200 wts_201 ev_190 tp_191 0) ∧ (ot_197 ≤ ot + 12) ∧ ((ss_193 = ss + 1 ∨ (ss_193 = ss ∧ ¬ so_194 = 0 ∧ ot_197 = ot) ∨ (ss_193 = ss ∧ so_194 = so ∧ ot_197 = ot ∧ ms pt_196 ev_190 snd_202 tp_191 < ms pt ev snd tp))) := hp_206
                have hP : va_P D classes [((f 22), .inl (cZ, 400, .inl mrk)), ((f 23), .inl (cI, 810, .inl wlk)), (h0, .inr (8, mS f tn rm ln lx at_ bd fs dp on os bn df th tp_191 mo_ ev_190 ss_193 so_194 lk_192 rs_195 pt_196 ot_197 cl)), ((f 20), .inl (cL, 400, .inr (.inl one_198))), ((f 21), .inl (cL, 400, .inr (.inl two_199))), ((f 25), .inl (cI, 41, .inl bss_200)), ((f 26), .inl (cI, 41, .inl wts_201)), ((f 27), .inl (cZ, 41, .inl snd_202)), ((f 28), .inl (cI, 41, .inl nbr_203)), ((f 29), .inl (cI, 200, .inl lts_204)), ((f 24), .inl (cI, 150, .inl spn)), ((f 18), .inl (cL, 9, .inr (.inl trm)))] H := hP
                have hD : va_D A [((f 22), .inl (cZ, 400, .inl mrk)), ((f 23), .inl (cI, 810, .inl wlk)), (h0, .inr (8, mS f tn rm ln lx at_ bd fs dp on os bn df th tp_191 mo_ ev_190 ss_193 so_194 lk_192 rs_195 pt_196 ot_197 cl)), ((f 20), .inl (cL, 400, .inr (.inl one_198))), ((f 21), .inl (cL, 400, .inr (.inl two_199))), ((f 25), .inl (cI, 41, .inl bss_200)), ((f 26), .inl (cI, 41, .inl wts_201)), ((f 27), .inl (cZ, 41, .inl snd_202)), ((f 28), .inl (cI, 41, .inl nbr_203)), ((f 29), .inl (cI, 200, .inl lts_204)), ((f 24), .inl (cI, 150, .inl spn)), ((f 18), .inl (cL, 9, .inr (.inl trm)))] := hD
                refine W.eq (g2 := F0 m 166 ls []) rfl ?_
                refine lv_goto (tgt := 195) hx hb d_MO_act_166 (by decide) ?_
                exact em_vret hx hb hr hlocks hP hD hK hS (ev_190, tp_191, lk_192, ss_193, so_194, rs_195, pt_196, ot_197, one_198, two_199, bss_200, wts_201, snd_202, nbr_203, lts_204, mrk, wlk) [2, 3, 4, 5, 6, 7, 8, 9, 0, 1, 10, 11] (by decide) rfl ⟨rfl, ⟨hsnd_207, hmrk, (show ∃ G' : Nat → Prop, MI df G' trm one_198 two_199 spn tp_191 lk_192 rs_195 pt_196 ∧ ev_190 ≤ 40 ∧ me bss_200 wts_201 ev_190 tp_191 0 ∧ ot_197 ≤ ot + 12 ∧ (ss_193 = ss + 1 ∨ (ss_193 = ss ∧ ¬ so_194 = 0 ∧ ot_197 = ot) ∨ (ss_193 = ss ∧ so_194 = so ∧ ot_197 = ot ∧ ms pt_196 ev_190 snd_202 tp_191 < ms pt ev snd tp)) from ⟨Gc, hMI_208, hev_209, hme_210, hot_211, hPv_212⟩)⟩⟩ d_MO_act_195
              · skip
                exact hbad.elim
        · skip
          exact absurd (hb_1.symm.trans hb_172) (by decide)
      · skip
        exact hbad.elim
    · skip
      have hl : lv_has ls 4 [(2, .int 6), (1, .int (wkind lk)), (0, .ref h0)] := hl
      refine lv_aload_n hx hb d_MO_act_25 rfl (lv_at hl 2 rfl) ?_
      refine va_get (D := D) (ci := 8) (v := .int (nI tp)) (C := rn_MO) (T := fl_MO) (N := 55) hx hb hG in_MO hown hK hP 0 rfl rfl 38 (by decide) (hG _ k_1229) (fun _ h9 => h9) rfl d_MO_act_26 ?_
      refine lv_aload_n hx hb d_MO_act_29 rfl (lv_at hl 2 rfl) ?_
      refine em_call (wr := [((f 20), .inl (cL, 400, .inr (.inl one))), ((f 21), .inl (cL, 400, .inr (.inl two))), ((f 27), .inl (cZ, 41, .inl snd)), ((f 28), .inl (cI, 41, .inl nbr)), ((f 29), .inl (cI, 200, .inl lts)), ((f 22), .inl (cZ, 400, .inl mrk)), ((f 23), .inl (cI, 810, .inl wlk)), ((f 24), .inl (cI, 150, .inl spn)), ((f 18), .inl (cL, 9, .inr (.inl trm)))]) (em_runV (As := []) (rest := [.int (nI tp)]) ⟨hx, hb, hml, hown, hG⟩ (mo_below l D cI cL cZ cC f h0 tn rm ln lx at_ bd fs dp on os bn df th tp mo_ ev ss so lk rs pt ot cl bss wts _ hme hev hnt) (cwV 0 hG (gd_V k_1573 k_1575 k_90 k_116 k_1576) rfl rfl rfl (by decide +kernel) ⟨Nat.le_of_ble_eq_true rfl, Nat.le_of_ble_eq_true rfl⟩) (tw_V (q0 := 0) hP hD hK hE hst hS rfl rfl [0, 3, 4] rfl (by decide)) rfl rfl hl.1 rfl (lv_room (Nat.le_of_ble_eq_true rfl)) d_MO_act_30 ⟨Nat.le_of_ble_eq_true rfl, Nat.le_of_ble_eq_true rfl⟩) hP hD hS hA [0, 3, 4] [1, 2, 5, 6, 7, 8, 9, 10, 11] rfl rfl (by decide) (by decide) (fun v u H locs hok hP hD hS => ?_) (fun x C u H locs hbad hxx hP hD hS => ?_)
      · skip
        obtain ⟨r_214, rfl, hp_215⟩ := hok
        have hres_216 : (∃ mq : Nat, r_214 = nI mq ∧ mq ≤ tp ∧ (ev = 0 → mq = 0) ∧ (1 ≤ ev → bss (ev - 1) = nI mq) ∧ me bss wts ev mq 0) := hp_215
        obtain ⟨mb, rfl, hm1, hm2, hm3, hm4⟩ := hres_216
        have hP : va_P D classes [((f 20), .inl (cL, 400, .inr (.inl one))), ((f 21), .inl (cL, 400, .inr (.inl two))), ((f 27), .inl (cZ, 41, .inl snd)), ((f 28), .inl (cI, 41, .inl nbr)), ((f 29), .inl (cI, 200, .inl lts)), ((f 22), .inl (cZ, 400, .inl mrk)), ((f 23), .inl (cI, 810, .inl wlk)), ((f 24), .inl (cI, 150, .inl spn)), ((f 18), .inl (cL, 9, .inr (.inl trm))), (h0, .inr (8, mS f tn rm ln lx at_ bd fs dp on os bn df th tp mo_ ev ss so lk rs pt ot cl)), ((f 25), .inl (cI, 41, .inl bss)), ((f 26), .inl (cI, 41, .inl wts))] H := hP
        have hD : va_D A [((f 20), .inl (cL, 400, .inr (.inl one))), ((f 21), .inl (cL, 400, .inr (.inl two))), ((f 27), .inl (cZ, 41, .inl snd)), ((f 28), .inl (cI, 41, .inl nbr)), ((f 29), .inl (cI, 200, .inl lts)), ((f 22), .inl (cZ, 400, .inl mrk)), ((f 23), .inl (cI, 810, .inl wlk)), ((f 24), .inl (cI, 150, .inl spn)), ((f 18), .inl (cL, 9, .inr (.inl trm))), (h0, .inr (8, mS f tn rm ln lx at_ bd fs dp on os bn df th tp mo_ ev ss so lk rs pt ot cl)), ((f 25), .inl (cI, 41, .inl bss)), ((f 26), .inl (cI, 41, .inl wts))] := hD
        refine W.eq (g2 := F0 m 33 ls [.int (nI mb), .int (nI tp)]) rfl ?_
        refine lw_isub (a := tp) (b := mb) hx hb d_MO_act_33 (by omega) ?_
        refine lv_istore_n (lv' := [(3, .int (nI (tp - mb))), (2, .int 6), (1, .int (wkind lk)), (0, .ref h0)]) hx hb d_MO_act_34 rfl hl (Nat.le_of_ble_eq_true rfl) rfl (fun ls hl => ?_)
        refine lv_iload_n hx hb d_MO_act_35 rfl (lv_at hl 2 rfl) ?_
        refine lv_iconst (v := 1) hx hb d_MO_act_36 (by decide) ?_
        refine lv_icmp_ne (tgt := 69) hx hb d_MO_act_37 (by decide) (fun hb_217 => ?_) (fun hb_217 => ?_)
        · skip
          refine lv_iload_n hx hb d_MO_act_69 rfl (lv_at hl 2 rfl) ?_
          refine lv_if_eq (tgt := 85) hx hb d_MO_act_70 (by decide) (fun hb_218 => ?_) (fun hb_218 => ?_)
          · skip
            exact absurd (hb_1.symm.trans hb_218) (by decide)
          · skip
            refine lv_iload_n hx hb d_MO_act_73 rfl (lv_at hl 1 rfl) ?_
            refine lv_bipush (v := 17) hx hb d_MO_act_74 (by decide) ?_
            refine lv_icmp_eq (tgt := 85) hx hb d_MO_act_76 (by decide) (fun hbr => absurd hbr (by decide)) (fun hbr => ?_)
            refine lv_iload_n hx hb d_MO_act_79 rfl (lv_at hl 1 rfl) ?_
            refine lv_bipush (v := 20) hx hb d_MO_act_80 (by decide) ?_
            refine lv_icmp_le (tgt := 106) hx hb d_MO_act_82 (by decide) (fun hbr => ?_) (fun hbr => absurd (by decide) hbr)
            refine lv_iload_n hx hb d_MO_act_106 rfl (lv_at hl 1 rfl) ?_
            refine lv_bipush (v := 16) hx hb d_MO_act_107 (by decide) ?_
            refine lv_icmp_ne (tgt := 152) hx hb d_MO_act_109 (by decide) (fun hbr => ?_) (fun hbr => absurd hbr (by decide))
            refine lv_iload_n hx hb d_MO_act_152 rfl (lv_at hl 0 rfl) ?_
            refine lv_iload_n hx hb d_MO_act_153 rfl (lv_at hl 1 rfl) ?_
            refine W.callR (W.runS (As := [.int 6]) (rest := [.int (nI (tp - mb))]) ⟨hx, hb, hml, hown, hG⟩ (mo_needs l D cI cL cZ cC 6 ) (cwS 1 hG (gd_S k_1621 k_1622 k_116 k_1623) rfl rfl rfl (by decide +kernel) ⟨Nat.le_of_ble_eq_true rfl, Nat.le_of_ble_eq_true rfl⟩) (wq_S hP hK [] rfl) rfl rfl hl.1 rfl (lv_room (Nat.le_of_ble_eq_true rfl)) d_MO_act_154 ⟨Nat.le_of_ble_eq_true rfl, Nat.le_of_ble_eq_true rfl⟩) ?_
            refine W.eq (g2 := F0 m 157 ls [.int (mneeds (6 : Int32)), .int (nI (tp - mb))]) rfl ?_
            refine W.eq (g2 := F0 m 157 ls [.int 3, .int (nI (tp - mb))]) (by rw [show mneeds 6 = 3 by decide]) ?_
            refine lv_icmp_ge (tgt := 169) hx hb d_MO_act_157 (by decide) (fun hb_219 => ?_) (fun hb_219 => ?_)
            · skip
              have hn_220 : 3 ≤ (tp - mb) := (nI_leI (a := 3) (b := tp - mb) (by omega) (by omega)).mp hb_219
              refine lv_iload_n hx hb d_MO_act_169 rfl (lv_at hl 1 rfl) ?_
              refine lv_bipush (v := 10) hx hb d_MO_act_170 (by decide) ?_
              refine lv_icmp_ge (tgt := 183) hx hb d_MO_act_172 (by decide) (fun hbr => absurd hbr (by decide)) (fun hbr => ?_)
              refine lv_aload_n hx hb d_MO_act_175 rfl (lv_at hl 3 rfl) ?_
              refine lv_iload_n hx hb d_MO_act_176 rfl (lv_at hl 1 rfl) ?_
              refine em_call (wr := [((f 27), .inl (cZ, 41, .inl snd)), ((f 28), .inl (cI, 41, .inl nbr)), ((f 29), .inl (cI, 200, .inl lts)), ((f 25), .inl (cI, 41, .inl bss)), ((f 26), .inl (cI, 41, .inl wts))]) (em_runV (As := [.int 6]) (rest := []) ⟨hx, hb, hml, hown, hG⟩ (mo_comb6 l D cI cL cZ cC f h0 tn rm ln lx at_ bd fs dp on os bn df th tp mo_ ev ss so lk rs pt ot cl one two mrk wlk spn trm Gc _ hmrk hMI hrm (by omega) hnt) (cwV 1 hG (gd_V k_1624 k_1626 k_101 k_116 k_1627) rfl rfl rfl (by decide +kernel) ⟨Nat.le_of_ble_eq_true rfl, Nat.le_of_ble_eq_true rfl⟩) (tw_V (q0 := 9) hP hD hK hE hst hS rfl rfl [9, 0, 1, 5, 6, 7, 8] rfl (by decide)) rfl rfl hl.1 rfl (lv_room (Nat.le_of_ble_eq_true rfl)) d_MO_act_177 ⟨Nat.le_of_ble_eq_true rfl, Nat.le_of_ble_eq_true rfl⟩) hP hD hS hA [9, 0, 1, 5, 6, 7, 8] [2, 3, 4, 10, 11] rfl rfl (by decide) (by decide) (fun v u H locs hok hP hD hS => ?_) (fun x C u H locs hbad hxx hP hD hS => ?_)
              · skip
                obtain ⟨tp_221, lk_222, ss_223, so_224, one_225, two_226, mrk_227, wlk_228⟩ := u
                obtain ⟨rfl, hp_230⟩ := hok
                obtain ⟨hmrk_231, hCo_232⟩ : (bln mrk_227) ∧ (∃ G' : Nat → Prop, MI df G' trm one_225 two_226 spn tp_221 lk_222 rs pt ∧ ((ss_223 = ss + 1 ∧ so_224 = so ∧ tp ≤ tp_221 + 3) ∨ (ss_223 = ss ∧ ¬ so_224 = 0 ∧ tp_221 = tp))) := hp_230
                have hP : va_P D classes [((f 27), .inl (cZ, 41, .inl snd)), ((f 28), .inl (cI, 41, .inl nbr)), ((f 29), .inl (cI, 200, .inl lts)), ((f 25), .inl (cI, 41, .inl bss)), ((f 26), .inl (cI, 41, .inl wts)), (h0, .inr (8, mS f tn rm ln lx at_ bd fs dp on os bn df th tp_221 mo_ ev ss_223 so_224 lk_222 rs pt ot cl)), ((f 20), .inl (cL, 400, .inr (.inl one_225))), ((f 21), .inl (cL, 400, .inr (.inl two_226))), ((f 22), .inl (cZ, 400, .inl mrk_227)), ((f 23), .inl (cI, 810, .inl wlk_228)), ((f 24), .inl (cI, 150, .inl spn)), ((f 18), .inl (cL, 9, .inr (.inl trm)))] H := hP
                have hD : va_D A [((f 27), .inl (cZ, 41, .inl snd)), ((f 28), .inl (cI, 41, .inl nbr)), ((f 29), .inl (cI, 200, .inl lts)), ((f 25), .inl (cI, 41, .inl bss)), ((f 26), .inl (cI, 41, .inl wts)), (h0, .inr (8, mS f tn rm ln lx at_ bd fs dp on os bn df th tp_221 mo_ ev ss_223 so_224 lk_222 rs pt ot cl)), ((f 20), .inl (cL, 400, .inr (.inl one_225))), ((f 21), .inl (cL, 400, .inr (.inl two_226))), ((f 22), .inl (cZ, 400, .inl mrk_227)), ((f 23), .inl (cI, 810, .inl wlk_228)), ((f 24), .inl (cI, 150, .inl spn)), ((f 18), .inl (cL, 9, .inr (.inl trm)))] := hD
                refine W.eq (g2 := F0 m 180 ls []) rfl ?_
                refine lv_goto (tgt := 195) hx hb d_MO_act_180 (by decide) ?_
                exact em_vret hx hb hr hlocks hP hD hK hS (ev, tp_221, lk_222, ss_223, so_224, rs, pt, ot, one_225, two_226, bss, wts, snd, nbr, lts, mrk_227, wlk_228) [5, 6, 7, 3, 4, 0, 1, 2, 8, 9, 10, 11] (by decide) rfl ⟨rfl, ⟨hsnd, hmrk_231, (show ∃ G' : Nat → Prop, MI df G' trm one_225 two_226 spn tp_221 lk_222 rs pt ∧ ev ≤ 40 ∧ me bss wts ev tp_221 0 ∧ ot ≤ ot + 12 ∧ (ss_223 = ss + 1 ∨ (ss_223 = ss ∧ ¬ so_224 = 0 ∧ ot = ot) ∨ (ss_223 = ss ∧ so_224 = so ∧ ot = ot ∧ ms pt ev snd tp_221 < ms pt ev snd tp)) from (by obtain ⟨G', q1, q2⟩ := hCo_232; exact ⟨G', q1, hev, (by rcases q2 with ⟨_, _, q⟩ | ⟨_, _, q⟩; exact hm4.mono (by omega); rw [q]; exact hme), by omega, (by rcases q2 with ⟨q, _, _⟩ | ⟨q, q', _⟩; exact Or.inl q; exact Or.inr (Or.inl ⟨q, q', rfl⟩))⟩))⟩⟩ d_MO_act_195
              · skip
                exact hbad.elim
            · skip
              have hn_234 : ¬ 3 ≤ (tp - mb) := fun h => hb_219 ((nI_leI (a := 3) (b := tp - mb) (by omega) (by omega)).mpr h)
              refine lv_aload_n hx hb d_MO_act_160 rfl (lv_at hl 3 rfl) ?_
              refine lv_iconst (v := 0) hx hb d_MO_act_161 (by decide) ?_
              refine lv_iconst (v := 1) hx hb d_MO_act_162 (by decide) ?_
              refine em_call (wr := [((f 22), .inl (cZ, 400, .inl mrk)), ((f 23), .inl (cI, 810, .inl wlk))]) (em_runV (As := [.int 0, .int 1]) (rest := []) ⟨hx, hb, hml, hown, hG⟩ (mo_val01 l D cI cL cZ cC f h0 tn rm ln lx at_ bd fs dp on os bn df th tp mo_ ev ss so lk rs pt ot cl one two bss wts snd nbr lts spn trm Gc mb _ hsnd hMI hev hm1 hm2 hm3 hm4 hot hnt) (cwV 2 hG (gd_V k_1577 k_1579 k_91 k_116 k_1580) rfl rfl rfl (by decide +kernel) ⟨Nat.le_of_ble_eq_true rfl, Nat.le_of_ble_eq_true rfl⟩) (tw_V (q0 := 9) hP hD hK hE hst hS rfl rfl [9, 0, 1, 10, 11, 2, 3, 4, 7, 8] rfl (by decide)) rfl rfl hl.1 rfl (lv_room (Nat.le_of_ble_eq_true rfl)) d_MO_act_163 ⟨Nat.le_of_ble_eq_true rfl, Nat.le_of_ble_eq_true rfl⟩) hP hD hS hA [9, 0, 1, 10, 11, 2, 3, 4, 7, 8] [5, 6] rfl rfl (by decide) (by decide) (fun v u H locs hok hP hD hS => ?_) (fun x C u H locs hbad hxx hP hD hS => ?_)
              · skip
                obtain ⟨ev_235, tp_236, lk_237, ss_238, so_239, rs_240, pt_241, ot_242, one_243, two_244, bss_245, wts_246, snd_247, nbr_248, lts_249⟩ := u
                obtain ⟨rfl, hp_251⟩ := hok
                obtain ⟨hsnd_252, hMI_253, hev_254, hme_255, hot_256, hPv_257⟩ : (bln snd_247) ∧ (MI df Gc trm one_243 two_244 spn tp_236 lk_237 rs_240 pt_241) ∧ (ev_235 ≤ 40) ∧ (me bss_245 wts_246 ev_235 tp_236 0) ∧ (ot_242 ≤ ot + 12) ∧ ((ss_238 = ss + 1 ∨ (ss_238 = ss ∧ ¬ so_239 = 0 ∧ ot_242 = ot) ∨ (ss_238 = ss ∧ so_239 = so ∧ ot_242 = ot ∧ ms pt_241 ev_235 snd_247 tp_236 < ms pt ev snd tp))) := hp_251
                have hP : va_P D classes [((f 22), .inl (cZ, 400, .inl mrk)), ((f 23), .inl (cI, 810, .inl wlk)), (h0, .inr (8, mS f tn rm ln lx at_ bd fs dp on os bn df th tp_236 mo_ ev_235 ss_238 so_239 lk_237 rs_240 pt_241 ot_242 cl)), ((f 20), .inl (cL, 400, .inr (.inl one_243))), ((f 21), .inl (cL, 400, .inr (.inl two_244))), ((f 25), .inl (cI, 41, .inl bss_245)), ((f 26), .inl (cI, 41, .inl wts_246)), ((f 27), .inl (cZ, 41, .inl snd_247)), ((f 28), .inl (cI, 41, .inl nbr_248)), ((f 29), .inl (cI, 200, .inl lts_249)), ((f 24), .inl (cI, 150, .inl spn)), ((f 18), .inl (cL, 9, .inr (.inl trm)))] H := hP
                have hD : va_D A [((f 22), .inl (cZ, 400, .inl mrk)), ((f 23), .inl (cI, 810, .inl wlk)), (h0, .inr (8, mS f tn rm ln lx at_ bd fs dp on os bn df th tp_236 mo_ ev_235 ss_238 so_239 lk_237 rs_240 pt_241 ot_242 cl)), ((f 20), .inl (cL, 400, .inr (.inl one_243))), ((f 21), .inl (cL, 400, .inr (.inl two_244))), ((f 25), .inl (cI, 41, .inl bss_245)), ((f 26), .inl (cI, 41, .inl wts_246)), ((f 27), .inl (cZ, 41, .inl snd_247)), ((f 28), .inl (cI, 41, .inl nbr_248)), ((f 29), .inl (cI, 200, .inl lts_249)), ((f 24), .inl (cI, 150, .inl spn)), ((f 18), .inl (cL, 9, .inr (.inl trm)))] := hD
                refine W.eq (g2 := F0 m 166 ls []) rfl ?_
                refine lv_goto (tgt := 195) hx hb d_MO_act_166 (by decide) ?_
                exact em_vret hx hb hr hlocks hP hD hK hS (ev_235, tp_236, lk_237, ss_238, so_239, rs_240, pt_241, ot_242, one_243, two_244, bss_245, wts_246, snd_247, nbr_248, lts_249, mrk, wlk) [2, 3, 4, 5, 6, 7, 8, 9, 0, 1, 10, 11] (by decide) rfl ⟨rfl, ⟨hsnd_252, hmrk, (show ∃ G' : Nat → Prop, MI df G' trm one_243 two_244 spn tp_236 lk_237 rs_240 pt_241 ∧ ev_235 ≤ 40 ∧ me bss_245 wts_246 ev_235 tp_236 0 ∧ ot_242 ≤ ot + 12 ∧ (ss_238 = ss + 1 ∨ (ss_238 = ss ∧ ¬ so_239 = 0 ∧ ot_242 = ot) ∨ (ss_238 = ss ∧ so_239 = so ∧ ot_242 = ot ∧ ms pt_241 ev_235 snd_247 tp_236 < ms pt ev snd tp)) from ⟨Gc, hMI_253, hev_254, hme_255, hot_256, hPv_257⟩)⟩⟩ d_MO_act_195
              · skip
                exact hbad.elim
        · skip
          exact absurd (hb_1.symm.trans hb_217) (by decide)
      · skip
        exact hbad.elim
    · skip
      have hl : lv_has ls 4 [(2, .int 7), (1, .int (wkind lk)), (0, .ref h0)] := hl
      refine lv_aload_n hx hb d_MO_act_25 rfl (lv_at hl 2 rfl) ?_
      refine va_get (D := D) (ci := 8) (v := .int (nI tp)) (C := rn_MO) (T := fl_MO) (N := 55) hx hb hG in_MO hown hK hP 0 rfl rfl 38 (by decide) (hG _ k_1229) (fun _ h9 => h9) rfl d_MO_act_26 ?_
      refine lv_aload_n hx hb d_MO_act_29 rfl (lv_at hl 2 rfl) ?_
      refine em_call (wr := [((f 20), .inl (cL, 400, .inr (.inl one))), ((f 21), .inl (cL, 400, .inr (.inl two))), ((f 27), .inl (cZ, 41, .inl snd)), ((f 28), .inl (cI, 41, .inl nbr)), ((f 29), .inl (cI, 200, .inl lts)), ((f 22), .inl (cZ, 400, .inl mrk)), ((f 23), .inl (cI, 810, .inl wlk)), ((f 24), .inl (cI, 150, .inl spn)), ((f 18), .inl (cL, 9, .inr (.inl trm)))]) (em_runV (As := []) (rest := [.int (nI tp)]) ⟨hx, hb, hml, hown, hG⟩ (mo_below l D cI cL cZ cC f h0 tn rm ln lx at_ bd fs dp on os bn df th tp mo_ ev ss so lk rs pt ot cl bss wts _ hme hev hnt) (cwV 0 hG (gd_V k_1573 k_1575 k_90 k_116 k_1576) rfl rfl rfl (by decide +kernel) ⟨Nat.le_of_ble_eq_true rfl, Nat.le_of_ble_eq_true rfl⟩) (tw_V (q0 := 0) hP hD hK hE hst hS rfl rfl [0, 3, 4] rfl (by decide)) rfl rfl hl.1 rfl (lv_room (Nat.le_of_ble_eq_true rfl)) d_MO_act_30 ⟨Nat.le_of_ble_eq_true rfl, Nat.le_of_ble_eq_true rfl⟩) hP hD hS hA [0, 3, 4] [1, 2, 5, 6, 7, 8, 9, 10, 11] rfl rfl (by decide) (by decide) (fun v u H locs hok hP hD hS => ?_) (fun x C u H locs hbad hxx hP hD hS => ?_)
      · skip
        obtain ⟨r_259, rfl, hp_260⟩ := hok
        have hres_261 : (∃ mq : Nat, r_259 = nI mq ∧ mq ≤ tp ∧ (ev = 0 → mq = 0) ∧ (1 ≤ ev → bss (ev - 1) = nI mq) ∧ me bss wts ev mq 0) := hp_260
        obtain ⟨mb, rfl, hm1, hm2, hm3, hm4⟩ := hres_261
        have hP : va_P D classes [((f 20), .inl (cL, 400, .inr (.inl one))), ((f 21), .inl (cL, 400, .inr (.inl two))), ((f 27), .inl (cZ, 41, .inl snd)), ((f 28), .inl (cI, 41, .inl nbr)), ((f 29), .inl (cI, 200, .inl lts)), ((f 22), .inl (cZ, 400, .inl mrk)), ((f 23), .inl (cI, 810, .inl wlk)), ((f 24), .inl (cI, 150, .inl spn)), ((f 18), .inl (cL, 9, .inr (.inl trm))), (h0, .inr (8, mS f tn rm ln lx at_ bd fs dp on os bn df th tp mo_ ev ss so lk rs pt ot cl)), ((f 25), .inl (cI, 41, .inl bss)), ((f 26), .inl (cI, 41, .inl wts))] H := hP
        have hD : va_D A [((f 20), .inl (cL, 400, .inr (.inl one))), ((f 21), .inl (cL, 400, .inr (.inl two))), ((f 27), .inl (cZ, 41, .inl snd)), ((f 28), .inl (cI, 41, .inl nbr)), ((f 29), .inl (cI, 200, .inl lts)), ((f 22), .inl (cZ, 400, .inl mrk)), ((f 23), .inl (cI, 810, .inl wlk)), ((f 24), .inl (cI, 150, .inl spn)), ((f 18), .inl (cL, 9, .inr (.inl trm))), (h0, .inr (8, mS f tn rm ln lx at_ bd fs dp on os bn df th tp mo_ ev ss so lk rs pt ot cl)), ((f 25), .inl (cI, 41, .inl bss)), ((f 26), .inl (cI, 41, .inl wts))] := hD
        refine W.eq (g2 := F0 m 33 ls [.int (nI mb), .int (nI tp)]) rfl ?_
        refine lw_isub (a := tp) (b := mb) hx hb d_MO_act_33 (by omega) ?_
        refine lv_istore_n (lv' := [(3, .int (nI (tp - mb))), (2, .int 7), (1, .int (wkind lk)), (0, .ref h0)]) hx hb d_MO_act_34 rfl hl (Nat.le_of_ble_eq_true rfl) rfl (fun ls hl => ?_)
        refine lv_iload_n hx hb d_MO_act_35 rfl (lv_at hl 2 rfl) ?_
        refine lv_iconst (v := 1) hx hb d_MO_act_36 (by decide) ?_
        refine lv_icmp_ne (tgt := 69) hx hb d_MO_act_37 (by decide) (fun hb_262 => ?_) (fun hb_262 => ?_)
        · skip
          refine lv_iload_n hx hb d_MO_act_69 rfl (lv_at hl 2 rfl) ?_
          refine lv_if_eq (tgt := 85) hx hb d_MO_act_70 (by decide) (fun hb_263 => ?_) (fun hb_263 => ?_)
          · skip
            exact absurd (hb_1.symm.trans hb_263) (by decide)
          · skip
            refine lv_iload_n hx hb d_MO_act_73 rfl (lv_at hl 1 rfl) ?_
            refine lv_bipush (v := 17) hx hb d_MO_act_74 (by decide) ?_
            refine lv_icmp_eq (tgt := 85) hx hb d_MO_act_76 (by decide) (fun hbr => absurd hbr (by decide)) (fun hbr => ?_)
            refine lv_iload_n hx hb d_MO_act_79 rfl (lv_at hl 1 rfl) ?_
            refine lv_bipush (v := 20) hx hb d_MO_act_80 (by decide) ?_
            refine lv_icmp_le (tgt := 106) hx hb d_MO_act_82 (by decide) (fun hbr => ?_) (fun hbr => absurd (by decide) hbr)
            refine lv_iload_n hx hb d_MO_act_106 rfl (lv_at hl 1 rfl) ?_
            refine lv_bipush (v := 16) hx hb d_MO_act_107 (by decide) ?_
            refine lv_icmp_ne (tgt := 152) hx hb d_MO_act_109 (by decide) (fun hbr => ?_) (fun hbr => absurd hbr (by decide))
            refine lv_iload_n hx hb d_MO_act_152 rfl (lv_at hl 0 rfl) ?_
            refine lv_iload_n hx hb d_MO_act_153 rfl (lv_at hl 1 rfl) ?_
            refine W.callR (W.runS (As := [.int 7]) (rest := [.int (nI (tp - mb))]) ⟨hx, hb, hml, hown, hG⟩ (mo_needs l D cI cL cZ cC 7 ) (cwS 1 hG (gd_S k_1621 k_1622 k_116 k_1623) rfl rfl rfl (by decide +kernel) ⟨Nat.le_of_ble_eq_true rfl, Nat.le_of_ble_eq_true rfl⟩) (wq_S hP hK [] rfl) rfl rfl hl.1 rfl (lv_room (Nat.le_of_ble_eq_true rfl)) d_MO_act_154 ⟨Nat.le_of_ble_eq_true rfl, Nat.le_of_ble_eq_true rfl⟩) ?_
            refine W.eq (g2 := F0 m 157 ls [.int (mneeds (7 : Int32)), .int (nI (tp - mb))]) rfl ?_
            refine W.eq (g2 := F0 m 157 ls [.int 4, .int (nI (tp - mb))]) (by rw [show mneeds 7 = 4 by decide]) ?_
            refine lv_icmp_ge (tgt := 169) hx hb d_MO_act_157 (by decide) (fun hb_264 => ?_) (fun hb_264 => ?_)
            · skip
              have hn_265 : 4 ≤ (tp - mb) := (nI_leI (a := 4) (b := tp - mb) (by omega) (by omega)).mp hb_264
              refine lv_iload_n hx hb d_MO_act_169 rfl (lv_at hl 1 rfl) ?_
              refine lv_bipush (v := 10) hx hb d_MO_act_170 (by decide) ?_
              refine lv_icmp_ge (tgt := 183) hx hb d_MO_act_172 (by decide) (fun hbr => absurd hbr (by decide)) (fun hbr => ?_)
              refine lv_aload_n hx hb d_MO_act_175 rfl (lv_at hl 3 rfl) ?_
              refine lv_iload_n hx hb d_MO_act_176 rfl (lv_at hl 1 rfl) ?_
              refine em_call (wr := [((f 27), .inl (cZ, 41, .inl snd)), ((f 28), .inl (cI, 41, .inl nbr)), ((f 29), .inl (cI, 200, .inl lts)), ((f 25), .inl (cI, 41, .inl bss)), ((f 26), .inl (cI, 41, .inl wts))]) (em_runV (As := [.int 7]) (rest := []) ⟨hx, hb, hml, hown, hG⟩ (mo_comb7 l D cI cL cZ cC f h0 tn rm ln lx at_ bd fs dp on os bn df th tp mo_ ev ss so lk rs pt ot cl one two mrk wlk spn trm Gc _ hmrk hMI hrm (by omega) hnt) (cwV 1 hG (gd_V k_1624 k_1626 k_101 k_116 k_1627) rfl rfl rfl (by decide +kernel) ⟨Nat.le_of_ble_eq_true rfl, Nat.le_of_ble_eq_true rfl⟩) (tw_V (q0 := 9) hP hD hK hE hst hS rfl rfl [9, 0, 1, 5, 6, 7, 8] rfl (by decide)) rfl rfl hl.1 rfl (lv_room (Nat.le_of_ble_eq_true rfl)) d_MO_act_177 ⟨Nat.le_of_ble_eq_true rfl, Nat.le_of_ble_eq_true rfl⟩) hP hD hS hA [9, 0, 1, 5, 6, 7, 8] [2, 3, 4, 10, 11] rfl rfl (by decide) (by decide) (fun v u H locs hok hP hD hS => ?_) (fun x C u H locs hbad hxx hP hD hS => ?_)
              · skip
                obtain ⟨tp_266, lk_267, ss_268, so_269, one_270, two_271, mrk_272, wlk_273⟩ := u
                obtain ⟨rfl, hp_275⟩ := hok
                obtain ⟨hmrk_276, hCo_277⟩ : (bln mrk_272) ∧ (∃ G' : Nat → Prop, MI df G' trm one_270 two_271 spn tp_266 lk_267 rs pt ∧ ((ss_268 = ss + 1 ∧ so_269 = so ∧ tp ≤ tp_266 + 4) ∨ (ss_268 = ss ∧ ¬ so_269 = 0 ∧ tp_266 = tp))) := hp_275
                have hP : va_P D classes [((f 27), .inl (cZ, 41, .inl snd)), ((f 28), .inl (cI, 41, .inl nbr)), ((f 29), .inl (cI, 200, .inl lts)), ((f 25), .inl (cI, 41, .inl bss)), ((f 26), .inl (cI, 41, .inl wts)), (h0, .inr (8, mS f tn rm ln lx at_ bd fs dp on os bn df th tp_266 mo_ ev ss_268 so_269 lk_267 rs pt ot cl)), ((f 20), .inl (cL, 400, .inr (.inl one_270))), ((f 21), .inl (cL, 400, .inr (.inl two_271))), ((f 22), .inl (cZ, 400, .inl mrk_272)), ((f 23), .inl (cI, 810, .inl wlk_273)), ((f 24), .inl (cI, 150, .inl spn)), ((f 18), .inl (cL, 9, .inr (.inl trm)))] H := hP
                have hD : va_D A [((f 27), .inl (cZ, 41, .inl snd)), ((f 28), .inl (cI, 41, .inl nbr)), ((f 29), .inl (cI, 200, .inl lts)), ((f 25), .inl (cI, 41, .inl bss)), ((f 26), .inl (cI, 41, .inl wts)), (h0, .inr (8, mS f tn rm ln lx at_ bd fs dp on os bn df th tp_266 mo_ ev ss_268 so_269 lk_267 rs pt ot cl)), ((f 20), .inl (cL, 400, .inr (.inl one_270))), ((f 21), .inl (cL, 400, .inr (.inl two_271))), ((f 22), .inl (cZ, 400, .inl mrk_272)), ((f 23), .inl (cI, 810, .inl wlk_273)), ((f 24), .inl (cI, 150, .inl spn)), ((f 18), .inl (cL, 9, .inr (.inl trm)))] := hD
                refine W.eq (g2 := F0 m 180 ls []) rfl ?_
                refine lv_goto (tgt := 195) hx hb d_MO_act_180 (by decide) ?_
                exact em_vret hx hb hr hlocks hP hD hK hS (ev, tp_266, lk_267, ss_268, so_269, rs, pt, ot, one_270, two_271, bss, wts, snd, nbr, lts, mrk_272, wlk_273) [5, 6, 7, 3, 4, 0, 1, 2, 8, 9, 10, 11] (by decide) rfl ⟨rfl, ⟨hsnd, hmrk_276, (show ∃ G' : Nat → Prop, MI df G' trm one_270 two_271 spn tp_266 lk_267 rs pt ∧ ev ≤ 40 ∧ me bss wts ev tp_266 0 ∧ ot ≤ ot + 12 ∧ (ss_268 = ss + 1 ∨ (ss_268 = ss ∧ ¬ so_269 = 0 ∧ ot = ot) ∨ (ss_268 = ss ∧ so_269 = so ∧ ot = ot ∧ ms pt ev snd tp_266 < ms pt ev snd tp)) from (by obtain ⟨G', q1, q2⟩ := hCo_277; exact ⟨G', q1, hev, (by rcases q2 with ⟨_, _, q⟩ | ⟨_, _, q⟩; exact hm4.mono (by omega); rw [q]; exact hme), by omega, (by rcases q2 with ⟨q, _, _⟩ | ⟨q, q', _⟩; exact Or.inl q; exact Or.inr (Or.inl ⟨q, q', rfl⟩))⟩))⟩⟩ d_MO_act_195
              · skip
                exact hbad.elim
            · skip
              have hn_279 : ¬ 4 ≤ (tp - mb) := fun h => hb_264 ((nI_leI (a := 4) (b := tp - mb) (by omega) (by omega)).mpr h)
              refine lv_aload_n hx hb d_MO_act_160 rfl (lv_at hl 3 rfl) ?_
              refine lv_iconst (v := 0) hx hb d_MO_act_161 (by decide) ?_
              refine lv_iconst (v := 1) hx hb d_MO_act_162 (by decide) ?_
              refine em_call (wr := [((f 22), .inl (cZ, 400, .inl mrk)), ((f 23), .inl (cI, 810, .inl wlk))]) (em_runV (As := [.int 0, .int 1]) (rest := []) ⟨hx, hb, hml, hown, hG⟩ (mo_val01 l D cI cL cZ cC f h0 tn rm ln lx at_ bd fs dp on os bn df th tp mo_ ev ss so lk rs pt ot cl one two bss wts snd nbr lts spn trm Gc mb _ hsnd hMI hev hm1 hm2 hm3 hm4 hot hnt) (cwV 2 hG (gd_V k_1577 k_1579 k_91 k_116 k_1580) rfl rfl rfl (by decide +kernel) ⟨Nat.le_of_ble_eq_true rfl, Nat.le_of_ble_eq_true rfl⟩) (tw_V (q0 := 9) hP hD hK hE hst hS rfl rfl [9, 0, 1, 10, 11, 2, 3, 4, 7, 8] rfl (by decide)) rfl rfl hl.1 rfl (lv_room (Nat.le_of_ble_eq_true rfl)) d_MO_act_163 ⟨Nat.le_of_ble_eq_true rfl, Nat.le_of_ble_eq_true rfl⟩) hP hD hS hA [9, 0, 1, 10, 11, 2, 3, 4, 7, 8] [5, 6] rfl rfl (by decide) (by decide) (fun v u H locs hok hP hD hS => ?_) (fun x C u H locs hbad hxx hP hD hS => ?_)
              · skip
                obtain ⟨ev_280, tp_281, lk_282, ss_283, so_284, rs_285, pt_286, ot_287, one_288, two_289, bss_290, wts_291, snd_292, nbr_293, lts_294⟩ := u
                obtain ⟨rfl, hp_296⟩ := hok
                obtain ⟨hsnd_297, hMI_298, hev_299, hme_300, hot_301, hPv_302⟩ : (bln snd_292) ∧ (MI df Gc trm one_288 two_289 spn tp_281 lk_282 rs_285 pt_286) ∧ (ev_280 ≤ 40) ∧ (me bss_290 wts_291 ev_280 tp_281 0) ∧ (ot_287 ≤ ot + 12) ∧ ((ss_283 = ss + 1 ∨ (ss_283 = ss ∧ ¬ so_284 = 0 ∧ ot_287 = ot) ∨ (ss_283 = ss ∧ so_284 = so ∧ ot_287 = ot ∧ ms pt_286 ev_280 snd_292 tp_281 < ms pt ev snd tp))) := hp_296
                have hP : va_P D classes [((f 22), .inl (cZ, 400, .inl mrk)), ((f 23), .inl (cI, 810, .inl wlk)), (h0, .inr (8, mS f tn rm ln lx at_ bd fs dp on os bn df th tp_281 mo_ ev_280 ss_283 so_284 lk_282 rs_285 pt_286 ot_287 cl)), ((f 20), .inl (cL, 400, .inr (.inl one_288))), ((f 21), .inl (cL, 400, .inr (.inl two_289))), ((f 25), .inl (cI, 41, .inl bss_290)), ((f 26), .inl (cI, 41, .inl wts_291)), ((f 27), .inl (cZ, 41, .inl snd_292)), ((f 28), .inl (cI, 41, .inl nbr_293)), ((f 29), .inl (cI, 200, .inl lts_294)), ((f 24), .inl (cI, 150, .inl spn)), ((f 18), .inl (cL, 9, .inr (.inl trm)))] H := hP
                have hD : va_D A [((f 22), .inl (cZ, 400, .inl mrk)), ((f 23), .inl (cI, 810, .inl wlk)), (h0, .inr (8, mS f tn rm ln lx at_ bd fs dp on os bn df th tp_281 mo_ ev_280 ss_283 so_284 lk_282 rs_285 pt_286 ot_287 cl)), ((f 20), .inl (cL, 400, .inr (.inl one_288))), ((f 21), .inl (cL, 400, .inr (.inl two_289))), ((f 25), .inl (cI, 41, .inl bss_290)), ((f 26), .inl (cI, 41, .inl wts_291)), ((f 27), .inl (cZ, 41, .inl snd_292)), ((f 28), .inl (cI, 41, .inl nbr_293)), ((f 29), .inl (cI, 200, .inl lts_294)), ((f 24), .inl (cI, 150, .inl spn)), ((f 18), .inl (cL, 9, .inr (.inl trm)))] := hD
                refine W.eq (g2 := F0 m 166 ls []) rfl ?_
                refine lv_goto (tgt := 195) hx hb d_MO_act_166 (by decide) ?_
                exact em_vret hx hb hr hlocks hP hD hK hS (ev_280, tp_281, lk_282, ss_283, so_284, rs_285, pt_286, ot_287, one_288, two_289, bss_290, wts_291, snd_292, nbr_293, lts_294, mrk, wlk) [2, 3, 4, 5, 6, 7, 8, 9, 0, 1, 10, 11] (by decide) rfl ⟨rfl, ⟨hsnd_297, hmrk, (show ∃ G' : Nat → Prop, MI df G' trm one_288 two_289 spn tp_281 lk_282 rs_285 pt_286 ∧ ev_280 ≤ 40 ∧ me bss_290 wts_291 ev_280 tp_281 0 ∧ ot_287 ≤ ot + 12 ∧ (ss_283 = ss + 1 ∨ (ss_283 = ss ∧ ¬ so_284 = 0 ∧ ot_287 = ot) ∨ (ss_283 = ss ∧ so_284 = so ∧ ot_287 = ot ∧ ms pt_286 ev_280 snd_292 tp_281 < ms pt ev snd tp)) from ⟨Gc, hMI_298, hev_299, hme_300, hot_301, hPv_302⟩)⟩⟩ d_MO_act_195
              · skip
                exact hbad.elim
        · skip
          exact absurd (hb_1.symm.trans hb_262) (by decide)
      · skip
        exact hbad.elim
    · skip
      have hl : lv_has ls 4 [(2, .int 8), (1, .int (wkind lk)), (0, .ref h0)] := hl
      refine lv_aload_n hx hb d_MO_act_25 rfl (lv_at hl 2 rfl) ?_
      refine va_get (D := D) (ci := 8) (v := .int (nI tp)) (C := rn_MO) (T := fl_MO) (N := 55) hx hb hG in_MO hown hK hP 0 rfl rfl 38 (by decide) (hG _ k_1229) (fun _ h9 => h9) rfl d_MO_act_26 ?_
      refine lv_aload_n hx hb d_MO_act_29 rfl (lv_at hl 2 rfl) ?_
      refine em_call (wr := [((f 20), .inl (cL, 400, .inr (.inl one))), ((f 21), .inl (cL, 400, .inr (.inl two))), ((f 27), .inl (cZ, 41, .inl snd)), ((f 28), .inl (cI, 41, .inl nbr)), ((f 29), .inl (cI, 200, .inl lts)), ((f 22), .inl (cZ, 400, .inl mrk)), ((f 23), .inl (cI, 810, .inl wlk)), ((f 24), .inl (cI, 150, .inl spn)), ((f 18), .inl (cL, 9, .inr (.inl trm)))]) (em_runV (As := []) (rest := [.int (nI tp)]) ⟨hx, hb, hml, hown, hG⟩ (mo_below l D cI cL cZ cC f h0 tn rm ln lx at_ bd fs dp on os bn df th tp mo_ ev ss so lk rs pt ot cl bss wts _ hme hev hnt) (cwV 0 hG (gd_V k_1573 k_1575 k_90 k_116 k_1576) rfl rfl rfl (by decide +kernel) ⟨Nat.le_of_ble_eq_true rfl, Nat.le_of_ble_eq_true rfl⟩) (tw_V (q0 := 0) hP hD hK hE hst hS rfl rfl [0, 3, 4] rfl (by decide)) rfl rfl hl.1 rfl (lv_room (Nat.le_of_ble_eq_true rfl)) d_MO_act_30 ⟨Nat.le_of_ble_eq_true rfl, Nat.le_of_ble_eq_true rfl⟩) hP hD hS hA [0, 3, 4] [1, 2, 5, 6, 7, 8, 9, 10, 11] rfl rfl (by decide) (by decide) (fun v u H locs hok hP hD hS => ?_) (fun x C u H locs hbad hxx hP hD hS => ?_)
      · skip
        obtain ⟨r_304, rfl, hp_305⟩ := hok
        have hres_306 : (∃ mq : Nat, r_304 = nI mq ∧ mq ≤ tp ∧ (ev = 0 → mq = 0) ∧ (1 ≤ ev → bss (ev - 1) = nI mq) ∧ me bss wts ev mq 0) := hp_305
        obtain ⟨mb, rfl, hm1, hm2, hm3, hm4⟩ := hres_306
        have hP : va_P D classes [((f 20), .inl (cL, 400, .inr (.inl one))), ((f 21), .inl (cL, 400, .inr (.inl two))), ((f 27), .inl (cZ, 41, .inl snd)), ((f 28), .inl (cI, 41, .inl nbr)), ((f 29), .inl (cI, 200, .inl lts)), ((f 22), .inl (cZ, 400, .inl mrk)), ((f 23), .inl (cI, 810, .inl wlk)), ((f 24), .inl (cI, 150, .inl spn)), ((f 18), .inl (cL, 9, .inr (.inl trm))), (h0, .inr (8, mS f tn rm ln lx at_ bd fs dp on os bn df th tp mo_ ev ss so lk rs pt ot cl)), ((f 25), .inl (cI, 41, .inl bss)), ((f 26), .inl (cI, 41, .inl wts))] H := hP
        have hD : va_D A [((f 20), .inl (cL, 400, .inr (.inl one))), ((f 21), .inl (cL, 400, .inr (.inl two))), ((f 27), .inl (cZ, 41, .inl snd)), ((f 28), .inl (cI, 41, .inl nbr)), ((f 29), .inl (cI, 200, .inl lts)), ((f 22), .inl (cZ, 400, .inl mrk)), ((f 23), .inl (cI, 810, .inl wlk)), ((f 24), .inl (cI, 150, .inl spn)), ((f 18), .inl (cL, 9, .inr (.inl trm))), (h0, .inr (8, mS f tn rm ln lx at_ bd fs dp on os bn df th tp mo_ ev ss so lk rs pt ot cl)), ((f 25), .inl (cI, 41, .inl bss)), ((f 26), .inl (cI, 41, .inl wts))] := hD
        refine W.eq (g2 := F0 m 33 ls [.int (nI mb), .int (nI tp)]) rfl ?_
        refine lw_isub (a := tp) (b := mb) hx hb d_MO_act_33 (by omega) ?_
        refine lv_istore_n (lv' := [(3, .int (nI (tp - mb))), (2, .int 8), (1, .int (wkind lk)), (0, .ref h0)]) hx hb d_MO_act_34 rfl hl (Nat.le_of_ble_eq_true rfl) rfl (fun ls hl => ?_)
        refine lv_iload_n hx hb d_MO_act_35 rfl (lv_at hl 2 rfl) ?_
        refine lv_iconst (v := 1) hx hb d_MO_act_36 (by decide) ?_
        refine lv_icmp_ne (tgt := 69) hx hb d_MO_act_37 (by decide) (fun hb_307 => ?_) (fun hb_307 => ?_)
        · skip
          refine lv_iload_n hx hb d_MO_act_69 rfl (lv_at hl 2 rfl) ?_
          refine lv_if_eq (tgt := 85) hx hb d_MO_act_70 (by decide) (fun hb_308 => ?_) (fun hb_308 => ?_)
          · skip
            exact absurd (hb_1.symm.trans hb_308) (by decide)
          · skip
            refine lv_iload_n hx hb d_MO_act_73 rfl (lv_at hl 1 rfl) ?_
            refine lv_bipush (v := 17) hx hb d_MO_act_74 (by decide) ?_
            refine lv_icmp_eq (tgt := 85) hx hb d_MO_act_76 (by decide) (fun hbr => absurd hbr (by decide)) (fun hbr => ?_)
            refine lv_iload_n hx hb d_MO_act_79 rfl (lv_at hl 1 rfl) ?_
            refine lv_bipush (v := 20) hx hb d_MO_act_80 (by decide) ?_
            refine lv_icmp_le (tgt := 106) hx hb d_MO_act_82 (by decide) (fun hbr => ?_) (fun hbr => absurd (by decide) hbr)
            refine lv_iload_n hx hb d_MO_act_106 rfl (lv_at hl 1 rfl) ?_
            refine lv_bipush (v := 16) hx hb d_MO_act_107 (by decide) ?_
            refine lv_icmp_ne (tgt := 152) hx hb d_MO_act_109 (by decide) (fun hbr => ?_) (fun hbr => absurd hbr (by decide))
            refine lv_iload_n hx hb d_MO_act_152 rfl (lv_at hl 0 rfl) ?_
            refine lv_iload_n hx hb d_MO_act_153 rfl (lv_at hl 1 rfl) ?_
            refine W.callR (W.runS (As := [.int 8]) (rest := [.int (nI (tp - mb))]) ⟨hx, hb, hml, hown, hG⟩ (mo_needs l D cI cL cZ cC 8 ) (cwS 1 hG (gd_S k_1621 k_1622 k_116 k_1623) rfl rfl rfl (by decide +kernel) ⟨Nat.le_of_ble_eq_true rfl, Nat.le_of_ble_eq_true rfl⟩) (wq_S hP hK [] rfl) rfl rfl hl.1 rfl (lv_room (Nat.le_of_ble_eq_true rfl)) d_MO_act_154 ⟨Nat.le_of_ble_eq_true rfl, Nat.le_of_ble_eq_true rfl⟩) ?_
            refine W.eq (g2 := F0 m 157 ls [.int (mneeds (8 : Int32)), .int (nI (tp - mb))]) rfl ?_
            refine W.eq (g2 := F0 m 157 ls [.int 4, .int (nI (tp - mb))]) (by rw [show mneeds 8 = 4 by decide]) ?_
            refine lv_icmp_ge (tgt := 169) hx hb d_MO_act_157 (by decide) (fun hb_309 => ?_) (fun hb_309 => ?_)
            · skip
              have hn_310 : 4 ≤ (tp - mb) := (nI_leI (a := 4) (b := tp - mb) (by omega) (by omega)).mp hb_309
              refine lv_iload_n hx hb d_MO_act_169 rfl (lv_at hl 1 rfl) ?_
              refine lv_bipush (v := 10) hx hb d_MO_act_170 (by decide) ?_
              refine lv_icmp_ge (tgt := 183) hx hb d_MO_act_172 (by decide) (fun hbr => absurd hbr (by decide)) (fun hbr => ?_)
              refine lv_aload_n hx hb d_MO_act_175 rfl (lv_at hl 3 rfl) ?_
              refine lv_iload_n hx hb d_MO_act_176 rfl (lv_at hl 1 rfl) ?_
              refine em_call (wr := [((f 27), .inl (cZ, 41, .inl snd)), ((f 28), .inl (cI, 41, .inl nbr)), ((f 29), .inl (cI, 200, .inl lts)), ((f 25), .inl (cI, 41, .inl bss)), ((f 26), .inl (cI, 41, .inl wts))]) (em_runV (As := [.int 8]) (rest := []) ⟨hx, hb, hml, hown, hG⟩ (mo_comb8 l D cI cL cZ cC f h0 tn rm ln lx at_ bd fs dp on os bn df th tp mo_ ev ss so lk rs pt ot cl one two mrk wlk spn trm Gc _ hmrk hMI hrm (by omega) hnt) (cwV 1 hG (gd_V k_1624 k_1626 k_101 k_116 k_1627) rfl rfl rfl (by decide +kernel) ⟨Nat.le_of_ble_eq_true rfl, Nat.le_of_ble_eq_true rfl⟩) (tw_V (q0 := 9) hP hD hK hE hst hS rfl rfl [9, 0, 1, 5, 6, 7, 8] rfl (by decide)) rfl rfl hl.1 rfl (lv_room (Nat.le_of_ble_eq_true rfl)) d_MO_act_177 ⟨Nat.le_of_ble_eq_true rfl, Nat.le_of_ble_eq_true rfl⟩) hP hD hS hA [9, 0, 1, 5, 6, 7, 8] [2, 3, 4, 10, 11] rfl rfl (by decide) (by decide) (fun v u H locs hok hP hD hS => ?_) (fun x C u H locs hbad hxx hP hD hS => ?_)
              · skip
                obtain ⟨tp_311, lk_312, ss_313, so_314, one_315, two_316, mrk_317, wlk_318⟩ := u
                obtain ⟨rfl, hp_320⟩ := hok
                obtain ⟨hmrk_321, hCo_322⟩ : (bln mrk_317) ∧ (∃ G' : Nat → Prop, MI df G' trm one_315 two_316 spn tp_311 lk_312 rs pt ∧ ((ss_313 = ss + 1 ∧ so_314 = so ∧ tp ≤ tp_311 + 4) ∨ (ss_313 = ss ∧ ¬ so_314 = 0 ∧ tp_311 = tp))) := hp_320
                have hP : va_P D classes [((f 27), .inl (cZ, 41, .inl snd)), ((f 28), .inl (cI, 41, .inl nbr)), ((f 29), .inl (cI, 200, .inl lts)), ((f 25), .inl (cI, 41, .inl bss)), ((f 26), .inl (cI, 41, .inl wts)), (h0, .inr (8, mS f tn rm ln lx at_ bd fs dp on os bn df th tp_311 mo_ ev ss_313 so_314 lk_312 rs pt ot cl)), ((f 20), .inl (cL, 400, .inr (.inl one_315))), ((f 21), .inl (cL, 400, .inr (.inl two_316))), ((f 22), .inl (cZ, 400, .inl mrk_317)), ((f 23), .inl (cI, 810, .inl wlk_318)), ((f 24), .inl (cI, 150, .inl spn)), ((f 18), .inl (cL, 9, .inr (.inl trm)))] H := hP
                have hD : va_D A [((f 27), .inl (cZ, 41, .inl snd)), ((f 28), .inl (cI, 41, .inl nbr)), ((f 29), .inl (cI, 200, .inl lts)), ((f 25), .inl (cI, 41, .inl bss)), ((f 26), .inl (cI, 41, .inl wts)), (h0, .inr (8, mS f tn rm ln lx at_ bd fs dp on os bn df th tp_311 mo_ ev ss_313 so_314 lk_312 rs pt ot cl)), ((f 20), .inl (cL, 400, .inr (.inl one_315))), ((f 21), .inl (cL, 400, .inr (.inl two_316))), ((f 22), .inl (cZ, 400, .inl mrk_317)), ((f 23), .inl (cI, 810, .inl wlk_318)), ((f 24), .inl (cI, 150, .inl spn)), ((f 18), .inl (cL, 9, .inr (.inl trm)))] := hD
                refine W.eq (g2 := F0 m 180 ls []) rfl ?_
                refine lv_goto (tgt := 195) hx hb d_MO_act_180 (by decide) ?_
                exact em_vret hx hb hr hlocks hP hD hK hS (ev, tp_311, lk_312, ss_313, so_314, rs, pt, ot, one_315, two_316, bss, wts, snd, nbr, lts, mrk_317, wlk_318) [5, 6, 7, 3, 4, 0, 1, 2, 8, 9, 10, 11] (by decide) rfl ⟨rfl, ⟨hsnd, hmrk_321, (show ∃ G' : Nat → Prop, MI df G' trm one_315 two_316 spn tp_311 lk_312 rs pt ∧ ev ≤ 40 ∧ me bss wts ev tp_311 0 ∧ ot ≤ ot + 12 ∧ (ss_313 = ss + 1 ∨ (ss_313 = ss ∧ ¬ so_314 = 0 ∧ ot = ot) ∨ (ss_313 = ss ∧ so_314 = so ∧ ot = ot ∧ ms pt ev snd tp_311 < ms pt ev snd tp)) from (by obtain ⟨G', q1, q2⟩ := hCo_322; exact ⟨G', q1, hev, (by rcases q2 with ⟨_, _, q⟩ | ⟨_, _, q⟩; exact hm4.mono (by omega); rw [q]; exact hme), by omega, (by rcases q2 with ⟨q, _, _⟩ | ⟨q, q', _⟩; exact Or.inl q; exact Or.inr (Or.inl ⟨q, q', rfl⟩))⟩))⟩⟩ d_MO_act_195
              · skip
                exact hbad.elim
            · skip
              have hn_324 : ¬ 4 ≤ (tp - mb) := fun h => hb_309 ((nI_leI (a := 4) (b := tp - mb) (by omega) (by omega)).mpr h)
              refine lv_aload_n hx hb d_MO_act_160 rfl (lv_at hl 3 rfl) ?_
              refine lv_iconst (v := 0) hx hb d_MO_act_161 (by decide) ?_
              refine lv_iconst (v := 1) hx hb d_MO_act_162 (by decide) ?_
              refine em_call (wr := [((f 22), .inl (cZ, 400, .inl mrk)), ((f 23), .inl (cI, 810, .inl wlk))]) (em_runV (As := [.int 0, .int 1]) (rest := []) ⟨hx, hb, hml, hown, hG⟩ (mo_val01 l D cI cL cZ cC f h0 tn rm ln lx at_ bd fs dp on os bn df th tp mo_ ev ss so lk rs pt ot cl one two bss wts snd nbr lts spn trm Gc mb _ hsnd hMI hev hm1 hm2 hm3 hm4 hot hnt) (cwV 2 hG (gd_V k_1577 k_1579 k_91 k_116 k_1580) rfl rfl rfl (by decide +kernel) ⟨Nat.le_of_ble_eq_true rfl, Nat.le_of_ble_eq_true rfl⟩) (tw_V (q0 := 9) hP hD hK hE hst hS rfl rfl [9, 0, 1, 10, 11, 2, 3, 4, 7, 8] rfl (by decide)) rfl rfl hl.1 rfl (lv_room (Nat.le_of_ble_eq_true rfl)) d_MO_act_163 ⟨Nat.le_of_ble_eq_true rfl, Nat.le_of_ble_eq_true rfl⟩) hP hD hS hA [9, 0, 1, 10, 11, 2, 3, 4, 7, 8] [5, 6] rfl rfl (by decide) (by decide) (fun v u H locs hok hP hD hS => ?_) (fun x C u H locs hbad hxx hP hD hS => ?_)
              · skip
                obtain ⟨ev_325, tp_326, lk_327, ss_328, so_329, rs_330, pt_331, ot_332, one_333, two_334, bss_335, wts_336, snd_337, nbr_338, lts_339⟩ := u
                obtain ⟨rfl, hp_341⟩ := hok
                obtain ⟨hsnd_342, hMI_343, hev_344, hme_345, hot_346, hPv_347⟩ : (bln snd_337) ∧ (MI df Gc trm one_333 two_334 spn tp_326 lk_327 rs_330 pt_331) ∧ (ev_325 ≤ 40) ∧ (me bss_335 wts_336 ev_325 tp_326 0) ∧ (ot_332 ≤ ot + 12) ∧ ((ss_328 = ss + 1 ∨ (ss_328 = ss ∧ ¬ so_329 = 0 ∧ ot_332 = ot) ∨ (ss_328 = ss ∧ so_329 = so ∧ ot_332 = ot ∧ ms pt_331 ev_325 snd_337 tp_326 < ms pt ev snd tp))) := hp_341
                have hP : va_P D classes [((f 22), .inl (cZ, 400, .inl mrk)), ((f 23), .inl (cI, 810, .inl wlk)), (h0, .inr (8, mS f tn rm ln lx at_ bd fs dp on os bn df th tp_326 mo_ ev_325 ss_328 so_329 lk_327 rs_330 pt_331 ot_332 cl)), ((f 20), .inl (cL, 400, .inr (.inl one_333))), ((f 21), .inl (cL, 400, .inr (.inl two_334))), ((f 25), .inl (cI, 41, .inl bss_335)), ((f 26), .inl (cI, 41, .inl wts_336)), ((f 27), .inl (cZ, 41, .inl snd_337)), ((f 28), .inl (cI, 41, .inl nbr_338)), ((f 29), .inl (cI, 200, .inl lts_339)), ((f 24), .inl (cI, 150, .inl spn)), ((f 18), .inl (cL, 9, .inr (.inl trm)))] H := hP
                have hD : va_D A [((f 22), .inl (cZ, 400, .inl mrk)), ((f 23), .inl (cI, 810, .inl wlk)), (h0, .inr (8, mS f tn rm ln lx at_ bd fs dp on os bn df th tp_326 mo_ ev_325 ss_328 so_329 lk_327 rs_330 pt_331 ot_332 cl)), ((f 20), .inl (cL, 400, .inr (.inl one_333))), ((f 21), .inl (cL, 400, .inr (.inl two_334))), ((f 25), .inl (cI, 41, .inl bss_335)), ((f 26), .inl (cI, 41, .inl wts_336)), ((f 27), .inl (cZ, 41, .inl snd_337)), ((f 28), .inl (cI, 41, .inl nbr_338)), ((f 29), .inl (cI, 200, .inl lts_339)), ((f 24), .inl (cI, 150, .inl spn)), ((f 18), .inl (cL, 9, .inr (.inl trm)))] := hD
                refine W.eq (g2 := F0 m 166 ls []) rfl ?_
                refine lv_goto (tgt := 195) hx hb d_MO_act_166 (by decide) ?_
                exact em_vret hx hb hr hlocks hP hD hK hS (ev_325, tp_326, lk_327, ss_328, so_329, rs_330, pt_331, ot_332, one_333, two_334, bss_335, wts_336, snd_337, nbr_338, lts_339, mrk, wlk) [2, 3, 4, 5, 6, 7, 8, 9, 0, 1, 10, 11] (by decide) rfl ⟨rfl, ⟨hsnd_342, hmrk, (show ∃ G' : Nat → Prop, MI df G' trm one_333 two_334 spn tp_326 lk_327 rs_330 pt_331 ∧ ev_325 ≤ 40 ∧ me bss_335 wts_336 ev_325 tp_326 0 ∧ ot_332 ≤ ot + 12 ∧ (ss_328 = ss + 1 ∨ (ss_328 = ss ∧ ¬ so_329 = 0 ∧ ot_332 = ot) ∨ (ss_328 = ss ∧ so_329 = so ∧ ot_332 = ot ∧ ms pt_331 ev_325 snd_337 tp_326 < ms pt ev snd tp)) from ⟨Gc, hMI_343, hev_344, hme_345, hot_346, hPv_347⟩)⟩⟩ d_MO_act_195
              · skip
                exact hbad.elim
        · skip
          exact absurd (hb_1.symm.trans hb_307) (by decide)
      · skip
        exact hbad.elim
    · skip
      have hl : lv_has ls 4 [(2, .int 9), (1, .int (wkind lk)), (0, .ref h0)] := hl
      refine lv_aload_n hx hb d_MO_act_25 rfl (lv_at hl 2 rfl) ?_
      refine va_get (D := D) (ci := 8) (v := .int (nI tp)) (C := rn_MO) (T := fl_MO) (N := 55) hx hb hG in_MO hown hK hP 0 rfl rfl 38 (by decide) (hG _ k_1229) (fun _ h9 => h9) rfl d_MO_act_26 ?_
      refine lv_aload_n hx hb d_MO_act_29 rfl (lv_at hl 2 rfl) ?_
      refine em_call (wr := [((f 20), .inl (cL, 400, .inr (.inl one))), ((f 21), .inl (cL, 400, .inr (.inl two))), ((f 27), .inl (cZ, 41, .inl snd)), ((f 28), .inl (cI, 41, .inl nbr)), ((f 29), .inl (cI, 200, .inl lts)), ((f 22), .inl (cZ, 400, .inl mrk)), ((f 23), .inl (cI, 810, .inl wlk)), ((f 24), .inl (cI, 150, .inl spn)), ((f 18), .inl (cL, 9, .inr (.inl trm)))]) (em_runV (As := []) (rest := [.int (nI tp)]) ⟨hx, hb, hml, hown, hG⟩ (mo_below l D cI cL cZ cC f h0 tn rm ln lx at_ bd fs dp on os bn df th tp mo_ ev ss so lk rs pt ot cl bss wts _ hme hev hnt) (cwV 0 hG (gd_V k_1573 k_1575 k_90 k_116 k_1576) rfl rfl rfl (by decide +kernel) ⟨Nat.le_of_ble_eq_true rfl, Nat.le_of_ble_eq_true rfl⟩) (tw_V (q0 := 0) hP hD hK hE hst hS rfl rfl [0, 3, 4] rfl (by decide)) rfl rfl hl.1 rfl (lv_room (Nat.le_of_ble_eq_true rfl)) d_MO_act_30 ⟨Nat.le_of_ble_eq_true rfl, Nat.le_of_ble_eq_true rfl⟩) hP hD hS hA [0, 3, 4] [1, 2, 5, 6, 7, 8, 9, 10, 11] rfl rfl (by decide) (by decide) (fun v u H locs hok hP hD hS => ?_) (fun x C u H locs hbad hxx hP hD hS => ?_)
      · skip
        obtain ⟨r_349, rfl, hp_350⟩ := hok
        have hres_351 : (∃ mq : Nat, r_349 = nI mq ∧ mq ≤ tp ∧ (ev = 0 → mq = 0) ∧ (1 ≤ ev → bss (ev - 1) = nI mq) ∧ me bss wts ev mq 0) := hp_350
        obtain ⟨mb, rfl, hm1, hm2, hm3, hm4⟩ := hres_351
        have hP : va_P D classes [((f 20), .inl (cL, 400, .inr (.inl one))), ((f 21), .inl (cL, 400, .inr (.inl two))), ((f 27), .inl (cZ, 41, .inl snd)), ((f 28), .inl (cI, 41, .inl nbr)), ((f 29), .inl (cI, 200, .inl lts)), ((f 22), .inl (cZ, 400, .inl mrk)), ((f 23), .inl (cI, 810, .inl wlk)), ((f 24), .inl (cI, 150, .inl spn)), ((f 18), .inl (cL, 9, .inr (.inl trm))), (h0, .inr (8, mS f tn rm ln lx at_ bd fs dp on os bn df th tp mo_ ev ss so lk rs pt ot cl)), ((f 25), .inl (cI, 41, .inl bss)), ((f 26), .inl (cI, 41, .inl wts))] H := hP
        have hD : va_D A [((f 20), .inl (cL, 400, .inr (.inl one))), ((f 21), .inl (cL, 400, .inr (.inl two))), ((f 27), .inl (cZ, 41, .inl snd)), ((f 28), .inl (cI, 41, .inl nbr)), ((f 29), .inl (cI, 200, .inl lts)), ((f 22), .inl (cZ, 400, .inl mrk)), ((f 23), .inl (cI, 810, .inl wlk)), ((f 24), .inl (cI, 150, .inl spn)), ((f 18), .inl (cL, 9, .inr (.inl trm))), (h0, .inr (8, mS f tn rm ln lx at_ bd fs dp on os bn df th tp mo_ ev ss so lk rs pt ot cl)), ((f 25), .inl (cI, 41, .inl bss)), ((f 26), .inl (cI, 41, .inl wts))] := hD
        refine W.eq (g2 := F0 m 33 ls [.int (nI mb), .int (nI tp)]) rfl ?_
        refine lw_isub (a := tp) (b := mb) hx hb d_MO_act_33 (by omega) ?_
        refine lv_istore_n (lv' := [(3, .int (nI (tp - mb))), (2, .int 9), (1, .int (wkind lk)), (0, .ref h0)]) hx hb d_MO_act_34 rfl hl (Nat.le_of_ble_eq_true rfl) rfl (fun ls hl => ?_)
        refine lv_iload_n hx hb d_MO_act_35 rfl (lv_at hl 2 rfl) ?_
        refine lv_iconst (v := 1) hx hb d_MO_act_36 (by decide) ?_
        refine lv_icmp_ne (tgt := 69) hx hb d_MO_act_37 (by decide) (fun hb_352 => ?_) (fun hb_352 => ?_)
        · skip
          refine lv_iload_n hx hb d_MO_act_69 rfl (lv_at hl 2 rfl) ?_
          refine lv_if_eq (tgt := 85) hx hb d_MO_act_70 (by decide) (fun hb_353 => ?_) (fun hb_353 => ?_)
          · skip
            exact absurd (hb_1.symm.trans hb_353) (by decide)
          · skip
            refine lv_iload_n hx hb d_MO_act_73 rfl (lv_at hl 1 rfl) ?_
            refine lv_bipush (v := 17) hx hb d_MO_act_74 (by decide) ?_
            refine lv_icmp_eq (tgt := 85) hx hb d_MO_act_76 (by decide) (fun hbr => absurd hbr (by decide)) (fun hbr => ?_)
            refine lv_iload_n hx hb d_MO_act_79 rfl (lv_at hl 1 rfl) ?_
            refine lv_bipush (v := 20) hx hb d_MO_act_80 (by decide) ?_
            refine lv_icmp_le (tgt := 106) hx hb d_MO_act_82 (by decide) (fun hbr => ?_) (fun hbr => absurd (by decide) hbr)
            refine lv_iload_n hx hb d_MO_act_106 rfl (lv_at hl 1 rfl) ?_
            refine lv_bipush (v := 16) hx hb d_MO_act_107 (by decide) ?_
            refine lv_icmp_ne (tgt := 152) hx hb d_MO_act_109 (by decide) (fun hbr => ?_) (fun hbr => absurd hbr (by decide))
            refine lv_iload_n hx hb d_MO_act_152 rfl (lv_at hl 0 rfl) ?_
            refine lv_iload_n hx hb d_MO_act_153 rfl (lv_at hl 1 rfl) ?_
            refine W.callR (W.runS (As := [.int 9]) (rest := [.int (nI (tp - mb))]) ⟨hx, hb, hml, hown, hG⟩ (mo_needs l D cI cL cZ cC 9 ) (cwS 1 hG (gd_S k_1621 k_1622 k_116 k_1623) rfl rfl rfl (by decide +kernel) ⟨Nat.le_of_ble_eq_true rfl, Nat.le_of_ble_eq_true rfl⟩) (wq_S hP hK [] rfl) rfl rfl hl.1 rfl (lv_room (Nat.le_of_ble_eq_true rfl)) d_MO_act_154 ⟨Nat.le_of_ble_eq_true rfl, Nat.le_of_ble_eq_true rfl⟩) ?_
            refine W.eq (g2 := F0 m 157 ls [.int (mneeds (9 : Int32)), .int (nI (tp - mb))]) rfl ?_
            refine W.eq (g2 := F0 m 157 ls [.int 4, .int (nI (tp - mb))]) (by rw [show mneeds 9 = 4 by decide]) ?_
            refine lv_icmp_ge (tgt := 169) hx hb d_MO_act_157 (by decide) (fun hb_354 => ?_) (fun hb_354 => ?_)
            · skip
              have hn_355 : 4 ≤ (tp - mb) := (nI_leI (a := 4) (b := tp - mb) (by omega) (by omega)).mp hb_354
              refine lv_iload_n hx hb d_MO_act_169 rfl (lv_at hl 1 rfl) ?_
              refine lv_bipush (v := 10) hx hb d_MO_act_170 (by decide) ?_
              refine lv_icmp_ge (tgt := 183) hx hb d_MO_act_172 (by decide) (fun hbr => absurd hbr (by decide)) (fun hbr => ?_)
              refine lv_aload_n hx hb d_MO_act_175 rfl (lv_at hl 3 rfl) ?_
              refine lv_iload_n hx hb d_MO_act_176 rfl (lv_at hl 1 rfl) ?_
              refine em_call (wr := [((f 27), .inl (cZ, 41, .inl snd)), ((f 28), .inl (cI, 41, .inl nbr)), ((f 29), .inl (cI, 200, .inl lts)), ((f 25), .inl (cI, 41, .inl bss)), ((f 26), .inl (cI, 41, .inl wts))]) (em_runV (As := [.int 9]) (rest := []) ⟨hx, hb, hml, hown, hG⟩ (mo_comb9 l D cI cL cZ cC f h0 tn rm ln lx at_ bd fs dp on os bn df th tp mo_ ev ss so lk rs pt ot cl one two mrk wlk spn trm Gc _ hmrk hMI hrm (by omega) hnt) (cwV 1 hG (gd_V k_1624 k_1626 k_101 k_116 k_1627) rfl rfl rfl (by decide +kernel) ⟨Nat.le_of_ble_eq_true rfl, Nat.le_of_ble_eq_true rfl⟩) (tw_V (q0 := 9) hP hD hK hE hst hS rfl rfl [9, 0, 1, 5, 6, 7, 8] rfl (by decide)) rfl rfl hl.1 rfl (lv_room (Nat.le_of_ble_eq_true rfl)) d_MO_act_177 ⟨Nat.le_of_ble_eq_true rfl, Nat.le_of_ble_eq_true rfl⟩) hP hD hS hA [9, 0, 1, 5, 6, 7, 8] [2, 3, 4, 10, 11] rfl rfl (by decide) (by decide) (fun v u H locs hok hP hD hS => ?_) (fun x C u H locs hbad hxx hP hD hS => ?_)
              · skip
                obtain ⟨tp_356, lk_357, ss_358, so_359, one_360, two_361, mrk_362, wlk_363⟩ := u
                obtain ⟨rfl, hp_365⟩ := hok
                obtain ⟨hmrk_366, hCo_367⟩ : (bln mrk_362) ∧ (∃ G' : Nat → Prop, MI df G' trm one_360 two_361 spn tp_356 lk_357 rs pt ∧ ((ss_358 = ss + 1 ∧ so_359 = so ∧ tp ≤ tp_356 + 4) ∨ (ss_358 = ss ∧ ¬ so_359 = 0 ∧ tp_356 = tp))) := hp_365
                have hP : va_P D classes [((f 27), .inl (cZ, 41, .inl snd)), ((f 28), .inl (cI, 41, .inl nbr)), ((f 29), .inl (cI, 200, .inl lts)), ((f 25), .inl (cI, 41, .inl bss)), ((f 26), .inl (cI, 41, .inl wts)), (h0, .inr (8, mS f tn rm ln lx at_ bd fs dp on os bn df th tp_356 mo_ ev ss_358 so_359 lk_357 rs pt ot cl)), ((f 20), .inl (cL, 400, .inr (.inl one_360))), ((f 21), .inl (cL, 400, .inr (.inl two_361))), ((f 22), .inl (cZ, 400, .inl mrk_362)), ((f 23), .inl (cI, 810, .inl wlk_363)), ((f 24), .inl (cI, 150, .inl spn)), ((f 18), .inl (cL, 9, .inr (.inl trm)))] H := hP
                have hD : va_D A [((f 27), .inl (cZ, 41, .inl snd)), ((f 28), .inl (cI, 41, .inl nbr)), ((f 29), .inl (cI, 200, .inl lts)), ((f 25), .inl (cI, 41, .inl bss)), ((f 26), .inl (cI, 41, .inl wts)), (h0, .inr (8, mS f tn rm ln lx at_ bd fs dp on os bn df th tp_356 mo_ ev ss_358 so_359 lk_357 rs pt ot cl)), ((f 20), .inl (cL, 400, .inr (.inl one_360))), ((f 21), .inl (cL, 400, .inr (.inl two_361))), ((f 22), .inl (cZ, 400, .inl mrk_362)), ((f 23), .inl (cI, 810, .inl wlk_363)), ((f 24), .inl (cI, 150, .inl spn)), ((f 18), .inl (cL, 9, .inr (.inl trm)))] := hD
                refine W.eq (g2 := F0 m 180 ls []) rfl ?_
                refine lv_goto (tgt := 195) hx hb d_MO_act_180 (by decide) ?_
                exact em_vret hx hb hr hlocks hP hD hK hS (ev, tp_356, lk_357, ss_358, so_359, rs, pt, ot, one_360, two_361, bss, wts, snd, nbr, lts, mrk_362, wlk_363) [5, 6, 7, 3, 4, 0, 1, 2, 8, 9, 10, 11] (by decide) rfl ⟨rfl, ⟨hsnd, hmrk_366, (show ∃ G' : Nat → Prop, MI df G' trm one_360 two_361 spn tp_356 lk_357 rs pt ∧ ev ≤ 40 ∧ me bss wts ev tp_356 0 ∧ ot ≤ ot + 12 ∧ (ss_358 = ss + 1 ∨ (ss_358 = ss ∧ ¬ so_359 = 0 ∧ ot = ot) ∨ (ss_358 = ss ∧ so_359 = so ∧ ot = ot ∧ ms pt ev snd tp_356 < ms pt ev snd tp)) from (by obtain ⟨G', q1, q2⟩ := hCo_367; exact ⟨G', q1, hev, (by rcases q2 with ⟨_, _, q⟩ | ⟨_, _, q⟩; exact hm4.mono (by omega); rw [q]; exact hme), by omega, (by rcases q2 with ⟨q, _, _⟩ | ⟨q, q', _⟩; exact Or.inl q; exact Or.inr (Or.inl ⟨q, q', rfl⟩))⟩))⟩⟩ d_MO_act_195
              · skip
                exact hbad.elim
            · skip
              have hn_369 : ¬ 4 ≤ (tp - mb) := fun h => hb_354 ((nI_leI (a := 4) (b := tp - mb) (by omega) (by omega)).mpr h)
              refine lv_aload_n hx hb d_MO_act_160 rfl (lv_at hl 3 rfl) ?_
              refine lv_iconst (v := 0) hx hb d_MO_act_161 (by decide) ?_
              refine lv_iconst (v := 1) hx hb d_MO_act_162 (by decide) ?_
              refine em_call (wr := [((f 22), .inl (cZ, 400, .inl mrk)), ((f 23), .inl (cI, 810, .inl wlk))]) (em_runV (As := [.int 0, .int 1]) (rest := []) ⟨hx, hb, hml, hown, hG⟩ (mo_val01 l D cI cL cZ cC f h0 tn rm ln lx at_ bd fs dp on os bn df th tp mo_ ev ss so lk rs pt ot cl one two bss wts snd nbr lts spn trm Gc mb _ hsnd hMI hev hm1 hm2 hm3 hm4 hot hnt) (cwV 2 hG (gd_V k_1577 k_1579 k_91 k_116 k_1580) rfl rfl rfl (by decide +kernel) ⟨Nat.le_of_ble_eq_true rfl, Nat.le_of_ble_eq_true rfl⟩) (tw_V (q0 := 9) hP hD hK hE hst hS rfl rfl [9, 0, 1, 10, 11, 2, 3, 4, 7, 8] rfl (by decide)) rfl rfl hl.1 rfl (lv_room (Nat.le_of_ble_eq_true rfl)) d_MO_act_163 ⟨Nat.le_of_ble_eq_true rfl, Nat.le_of_ble_eq_true rfl⟩) hP hD hS hA [9, 0, 1, 10, 11, 2, 3, 4, 7, 8] [5, 6] rfl rfl (by decide) (by decide) (fun v u H locs hok hP hD hS => ?_) (fun x C u H locs hbad hxx hP hD hS => ?_)
              · skip
                obtain ⟨ev_370, tp_371, lk_372, ss_373, so_374, rs_375, pt_376, ot_377, one_378, two_379, bss_380, wts_381, snd_382, nbr_383, lts_384⟩ := u
                obtain ⟨rfl, hp_386⟩ := hok
                obtain ⟨hsnd_387, hMI_388, hev_389, hme_390, hot_391, hPv_392⟩ : (bln snd_382) ∧ (MI df Gc trm one_378 two_379 spn tp_371 lk_372 rs_375 pt_376) ∧ (ev_370 ≤ 40) ∧ (me bss_380 wts_381 ev_370 tp_371 0) ∧ (ot_377 ≤ ot + 12) ∧ ((ss_373 = ss + 1 ∨ (ss_373 = ss ∧ ¬ so_374 = 0 ∧ ot_377 = ot) ∨ (ss_373 = ss ∧ so_374 = so ∧ ot_377 = ot ∧ ms pt_376 ev_370 snd_382 tp_371 < ms pt ev snd tp))) := hp_386
                have hP : va_P D classes [((f 22), .inl (cZ, 400, .inl mrk)), ((f 23), .inl (cI, 810, .inl wlk)), (h0, .inr (8, mS f tn rm ln lx at_ bd fs dp on os bn df th tp_371 mo_ ev_370 ss_373 so_374 lk_372 rs_375 pt_376 ot_377 cl)), ((f 20), .inl (cL, 400, .inr (.inl one_378))), ((f 21), .inl (cL, 400, .inr (.inl two_379))), ((f 25), .inl (cI, 41, .inl bss_380)), ((f 26), .inl (cI, 41, .inl wts_381)), ((f 27), .inl (cZ, 41, .inl snd_382)), ((f 28), .inl (cI, 41, .inl nbr_383)), ((f 29), .inl (cI, 200, .inl lts_384)), ((f 24), .inl (cI, 150, .inl spn)), ((f 18), .inl (cL, 9, .inr (.inl trm)))] H := hP
                have hD : va_D A [((f 22), .inl (cZ, 400, .inl mrk)), ((f 23), .inl (cI, 810, .inl wlk)), (h0, .inr (8, mS f tn rm ln lx at_ bd fs dp on os bn df th tp_371 mo_ ev_370 ss_373 so_374 lk_372 rs_375 pt_376 ot_377 cl)), ((f 20), .inl (cL, 400, .inr (.inl one_378))), ((f 21), .inl (cL, 400, .inr (.inl two_379))), ((f 25), .inl (cI, 41, .inl bss_380)), ((f 26), .inl (cI, 41, .inl wts_381)), ((f 27), .inl (cZ, 41, .inl snd_382)), ((f 28), .inl (cI, 41, .inl nbr_383)), ((f 29), .inl (cI, 200, .inl lts_384)), ((f 24), .inl (cI, 150, .inl spn)), ((f 18), .inl (cL, 9, .inr (.inl trm)))] := hD
                refine W.eq (g2 := F0 m 166 ls []) rfl ?_
                refine lv_goto (tgt := 195) hx hb d_MO_act_166 (by decide) ?_
                exact em_vret hx hb hr hlocks hP hD hK hS (ev_370, tp_371, lk_372, ss_373, so_374, rs_375, pt_376, ot_377, one_378, two_379, bss_380, wts_381, snd_382, nbr_383, lts_384, mrk, wlk) [2, 3, 4, 5, 6, 7, 8, 9, 0, 1, 10, 11] (by decide) rfl ⟨rfl, ⟨hsnd_387, hmrk, (show ∃ G' : Nat → Prop, MI df G' trm one_378 two_379 spn tp_371 lk_372 rs_375 pt_376 ∧ ev_370 ≤ 40 ∧ me bss_380 wts_381 ev_370 tp_371 0 ∧ ot_377 ≤ ot + 12 ∧ (ss_373 = ss + 1 ∨ (ss_373 = ss ∧ ¬ so_374 = 0 ∧ ot_377 = ot) ∨ (ss_373 = ss ∧ so_374 = so ∧ ot_377 = ot ∧ ms pt_376 ev_370 snd_382 tp_371 < ms pt ev snd tp)) from ⟨Gc, hMI_388, hev_389, hme_390, hot_391, hPv_392⟩)⟩⟩ d_MO_act_195
              · skip
                exact hbad.elim
        · skip
          exact absurd (hb_1.symm.trans hb_352) (by decide)
      · skip
        exact hbad.elim
    · skip
      have hl : lv_has ls 4 [(2, .int 10), (1, .int (wkind lk)), (0, .ref h0)] := hl
      refine lv_aload_n hx hb d_MO_act_25 rfl (lv_at hl 2 rfl) ?_
      refine va_get (D := D) (ci := 8) (v := .int (nI tp)) (C := rn_MO) (T := fl_MO) (N := 55) hx hb hG in_MO hown hK hP 0 rfl rfl 38 (by decide) (hG _ k_1229) (fun _ h9 => h9) rfl d_MO_act_26 ?_
      refine lv_aload_n hx hb d_MO_act_29 rfl (lv_at hl 2 rfl) ?_
      refine em_call (wr := [((f 20), .inl (cL, 400, .inr (.inl one))), ((f 21), .inl (cL, 400, .inr (.inl two))), ((f 27), .inl (cZ, 41, .inl snd)), ((f 28), .inl (cI, 41, .inl nbr)), ((f 29), .inl (cI, 200, .inl lts)), ((f 22), .inl (cZ, 400, .inl mrk)), ((f 23), .inl (cI, 810, .inl wlk)), ((f 24), .inl (cI, 150, .inl spn)), ((f 18), .inl (cL, 9, .inr (.inl trm)))]) (em_runV (As := []) (rest := [.int (nI tp)]) ⟨hx, hb, hml, hown, hG⟩ (mo_below l D cI cL cZ cC f h0 tn rm ln lx at_ bd fs dp on os bn df th tp mo_ ev ss so lk rs pt ot cl bss wts _ hme hev hnt) (cwV 0 hG (gd_V k_1573 k_1575 k_90 k_116 k_1576) rfl rfl rfl (by decide +kernel) ⟨Nat.le_of_ble_eq_true rfl, Nat.le_of_ble_eq_true rfl⟩) (tw_V (q0 := 0) hP hD hK hE hst hS rfl rfl [0, 3, 4] rfl (by decide)) rfl rfl hl.1 rfl (lv_room (Nat.le_of_ble_eq_true rfl)) d_MO_act_30 ⟨Nat.le_of_ble_eq_true rfl, Nat.le_of_ble_eq_true rfl⟩) hP hD hS hA [0, 3, 4] [1, 2, 5, 6, 7, 8, 9, 10, 11] rfl rfl (by decide) (by decide) (fun v u H locs hok hP hD hS => ?_) (fun x C u H locs hbad hxx hP hD hS => ?_)
      · skip
        obtain ⟨r_394, rfl, hp_395⟩ := hok
        have hres_396 : (∃ mq : Nat, r_394 = nI mq ∧ mq ≤ tp ∧ (ev = 0 → mq = 0) ∧ (1 ≤ ev → bss (ev - 1) = nI mq) ∧ me bss wts ev mq 0) := hp_395
        obtain ⟨mb, rfl, hm1, hm2, hm3, hm4⟩ := hres_396
        have hP : va_P D classes [((f 20), .inl (cL, 400, .inr (.inl one))), ((f 21), .inl (cL, 400, .inr (.inl two))), ((f 27), .inl (cZ, 41, .inl snd)), ((f 28), .inl (cI, 41, .inl nbr)), ((f 29), .inl (cI, 200, .inl lts)), ((f 22), .inl (cZ, 400, .inl mrk)), ((f 23), .inl (cI, 810, .inl wlk)), ((f 24), .inl (cI, 150, .inl spn)), ((f 18), .inl (cL, 9, .inr (.inl trm))), (h0, .inr (8, mS f tn rm ln lx at_ bd fs dp on os bn df th tp mo_ ev ss so lk rs pt ot cl)), ((f 25), .inl (cI, 41, .inl bss)), ((f 26), .inl (cI, 41, .inl wts))] H := hP
        have hD : va_D A [((f 20), .inl (cL, 400, .inr (.inl one))), ((f 21), .inl (cL, 400, .inr (.inl two))), ((f 27), .inl (cZ, 41, .inl snd)), ((f 28), .inl (cI, 41, .inl nbr)), ((f 29), .inl (cI, 200, .inl lts)), ((f 22), .inl (cZ, 400, .inl mrk)), ((f 23), .inl (cI, 810, .inl wlk)), ((f 24), .inl (cI, 150, .inl spn)), ((f 18), .inl (cL, 9, .inr (.inl trm))), (h0, .inr (8, mS f tn rm ln lx at_ bd fs dp on os bn df th tp mo_ ev ss so lk rs pt ot cl)), ((f 25), .inl (cI, 41, .inl bss)), ((f 26), .inl (cI, 41, .inl wts))] := hD
        refine W.eq (g2 := F0 m 33 ls [.int (nI mb), .int (nI tp)]) rfl ?_
        refine lw_isub (a := tp) (b := mb) hx hb d_MO_act_33 (by omega) ?_
        refine lv_istore_n (lv' := [(3, .int (nI (tp - mb))), (2, .int 10), (1, .int (wkind lk)), (0, .ref h0)]) hx hb d_MO_act_34 rfl hl (Nat.le_of_ble_eq_true rfl) rfl (fun ls hl => ?_)
        refine lv_iload_n hx hb d_MO_act_35 rfl (lv_at hl 2 rfl) ?_
        refine lv_iconst (v := 1) hx hb d_MO_act_36 (by decide) ?_
        refine lv_icmp_ne (tgt := 69) hx hb d_MO_act_37 (by decide) (fun hb_397 => ?_) (fun hb_397 => ?_)
        · skip
          refine lv_iload_n hx hb d_MO_act_69 rfl (lv_at hl 2 rfl) ?_
          refine lv_if_eq (tgt := 85) hx hb d_MO_act_70 (by decide) (fun hb_398 => ?_) (fun hb_398 => ?_)
          · skip
            exact absurd (hb_1.symm.trans hb_398) (by decide)
          · skip
            refine lv_iload_n hx hb d_MO_act_73 rfl (lv_at hl 1 rfl) ?_
            refine lv_bipush (v := 17) hx hb d_MO_act_74 (by decide) ?_
            refine lv_icmp_eq (tgt := 85) hx hb d_MO_act_76 (by decide) (fun hbr => absurd hbr (by decide)) (fun hbr => ?_)
            refine lv_iload_n hx hb d_MO_act_79 rfl (lv_at hl 1 rfl) ?_
            refine lv_bipush (v := 20) hx hb d_MO_act_80 (by decide) ?_
            refine lv_icmp_le (tgt := 106) hx hb d_MO_act_82 (by decide) (fun hbr => ?_) (fun hbr => absurd (by decide) hbr)
            refine lv_iload_n hx hb d_MO_act_106 rfl (lv_at hl 1 rfl) ?_
            refine lv_bipush (v := 16) hx hb d_MO_act_107 (by decide) ?_
            refine lv_icmp_ne (tgt := 152) hx hb d_MO_act_109 (by decide) (fun hbr => ?_) (fun hbr => absurd hbr (by decide))
            refine lv_iload_n hx hb d_MO_act_152 rfl (lv_at hl 0 rfl) ?_
            refine lv_iload_n hx hb d_MO_act_153 rfl (lv_at hl 1 rfl) ?_
            refine W.callR (W.runS (As := [.int 10]) (rest := [.int (nI (tp - mb))]) ⟨hx, hb, hml, hown, hG⟩ (mo_needs l D cI cL cZ cC 10 ) (cwS 1 hG (gd_S k_1621 k_1622 k_116 k_1623) rfl rfl rfl (by decide +kernel) ⟨Nat.le_of_ble_eq_true rfl, Nat.le_of_ble_eq_true rfl⟩) (wq_S hP hK [] rfl) rfl rfl hl.1 rfl (lv_room (Nat.le_of_ble_eq_true rfl)) d_MO_act_154 ⟨Nat.le_of_ble_eq_true rfl, Nat.le_of_ble_eq_true rfl⟩) ?_
            refine W.eq (g2 := F0 m 157 ls [.int (mneeds (10 : Int32)), .int (nI (tp - mb))]) rfl ?_
            refine W.eq (g2 := F0 m 157 ls [.int 3, .int (nI (tp - mb))]) (by rw [show mneeds 10 = 3 by decide]) ?_
            refine lv_icmp_ge (tgt := 169) hx hb d_MO_act_157 (by decide) (fun hb_399 => ?_) (fun hb_399 => ?_)
            · skip
              have hn_400 : 3 ≤ (tp - mb) := (nI_leI (a := 3) (b := tp - mb) (by omega) (by omega)).mp hb_399
              refine lv_iload_n hx hb d_MO_act_169 rfl (lv_at hl 1 rfl) ?_
              refine lv_bipush (v := 10) hx hb d_MO_act_170 (by decide) ?_
              refine lv_icmp_ge (tgt := 183) hx hb d_MO_act_172 (by decide) (fun hbr => ?_) (fun hbr => absurd (by decide) hbr)
              refine lv_aload_n hx hb d_MO_act_183 rfl (lv_at hl 3 rfl) ?_
              refine lv_iload_n hx hb d_MO_act_184 rfl (lv_at hl 1 rfl) ?_
              refine lv_aload_n hx hb d_MO_act_185 rfl (lv_at hl 3 rfl) ?_
              refine lv_iconst (v := 0) hx hb d_MO_act_186 (by decide) ?_
              refine em_call (wr := [((f 27), .inl (cZ, 41, .inl snd)), ((f 28), .inl (cI, 41, .inl nbr)), ((f 29), .inl (cI, 200, .inl lts)), ((f 22), .inl (cZ, 400, .inl mrk)), ((f 23), .inl (cI, 810, .inl wlk)), ((f 25), .inl (cI, 41, .inl bss)), ((f 26), .inl (cI, 41, .inl wts))]) (em_runV (As := [.int (nI 0)]) (rest := [.int 10, .ref h0]) ⟨hx, hb, hml, hown, hG⟩ (mo_argument l D cI cL cZ cC f h0 tn rm ln lx at_ bd fs dp on os bn df th tp mo_ ev ss so lk rs pt ot cl two spn trm one Gc 0 _ (by omega) (by omega) hHG hsp hnt) (cwV 1 hG (gd_V k_1581 k_1583 k_92 k_116 k_1584) rfl rfl rfl (by decide +kernel) ⟨Nat.le_of_ble_eq_true rfl, Nat.le_of_ble_eq_true rfl⟩) (tw_V (q0 := 9) hP hD hK hE hst hS rfl rfl [9, 1, 7, 8, 0] rfl (by decide)) rfl rfl hl.1 rfl (lv_room (Nat.le_of_ble_eq_true rfl)) d_MO_act_187 ⟨Nat.le_of_ble_eq_true rfl, Nat.le_of_ble_eq_true rfl⟩) hP hD hS hA [9, 1, 7, 8, 0] [2, 3, 4, 5, 6, 10, 11] rfl rfl (by decide) (by decide) (fun v u H locs hok hP hD hS => ?_) (fun x C u H locs hbad hxx hP hD hS => ?_)
              · skip
                obtain ⟨r_401, rfl, hp_402⟩ := hok
                have hres_403 : (okh df Gc r_401) := hp_402
                have hP : va_P D classes [((f 27), .inl (cZ, 41, .inl snd)), ((f 28), .inl (cI, 41, .inl nbr)), ((f 29), .inl (cI, 200, .inl lts)), ((f 22), .inl (cZ, 400, .inl mrk)), ((f 23), .inl (cI, 810, .inl wlk)), ((f 25), .inl (cI, 41, .inl bss)), ((f 26), .inl (cI, 41, .inl wts)), (h0, .inr (8, mS f tn rm ln lx at_ bd fs dp on os bn df th tp mo_ ev ss so lk rs pt ot cl)), ((f 21), .inl (cL, 400, .inr (.inl two))), ((f 24), .inl (cI, 150, .inl spn)), ((f 18), .inl (cL, 9, .inr (.inl trm))), ((f 20), .inl (cL, 400, .inr (.inl one)))] H := hP
                have hD : va_D A [((f 27), .inl (cZ, 41, .inl snd)), ((f 28), .inl (cI, 41, .inl nbr)), ((f 29), .inl (cI, 200, .inl lts)), ((f 22), .inl (cZ, 400, .inl mrk)), ((f 23), .inl (cI, 810, .inl wlk)), ((f 25), .inl (cI, 41, .inl bss)), ((f 26), .inl (cI, 41, .inl wts)), (h0, .inr (8, mS f tn rm ln lx at_ bd fs dp on os bn df th tp mo_ ev ss so lk rs pt ot cl)), ((f 21), .inl (cL, 400, .inr (.inl two))), ((f 24), .inl (cI, 150, .inl spn)), ((f 18), .inl (cL, 9, .inr (.inl trm))), ((f 20), .inl (cL, 400, .inr (.inl one)))] := hD
                refine W.eq (g2 := F0 m 190 ls [.long r_401, .int 10, .ref h0]) rfl ?_
                refine lv_iconst (v := 0) hx hb d_MO_act_190 (by decide) ?_
                refine lv_iconst (v := 0) hx hb d_MO_act_191 (by decide) ?_
                refine em_call (wr := [((f 29), .inl (cI, 200, .inl lts)), ((f 22), .inl (cZ, 400, .inl mrk)), ((f 23), .inl (cI, 810, .inl wlk)), ((f 21), .inl (cL, 400, .inr (.inl two))), ((f 24), .inl (cI, 150, .inl spn)), ((f 18), .inl (cL, 9, .inr (.inl trm))), ((f 20), .inl (cL, 400, .inr (.inl one)))]) (em_runV (As := [.int (nI 10), .long r_401, .int 0, .int 0]) (rest := []) ⟨hx, hb, hml, hown, hG⟩ (mo_eval0 l D cI cL cZ cC f h0 tn rm ln lx at_ bd fs dp on os bn df th tp mo_ ev ss so lk rs pt ot cl bss wts snd nbr 10 r_401 0 _ hsnd (by decide) (by decide) (by decide) (by decide) (hm4.mono (by have hq := nd_or 10; omega)) hev hnt) (cwV 4 hG (gd_V k_1600 k_1602 k_96 k_116 k_1603) rfl rfl rfl (by decide +kernel) ⟨Nat.le_of_ble_eq_true rfl, Nat.le_of_ble_eq_true rfl⟩) (tw_V (q0 := 7) hP hD hK hE hst hS rfl rfl [7, 5, 6, 0, 1] rfl (by decide)) rfl rfl hl.1 rfl (lv_room (Nat.le_of_ble_eq_true rfl)) d_MO_act_192 ⟨Nat.le_of_ble_eq_true rfl, Nat.le_of_ble_eq_true rfl⟩) hP hD hS hA [7, 5, 6, 0, 1] [2, 3, 4, 8, 9, 10, 11] rfl rfl (by decide) (by decide) (fun v u H locs hok hP hD hS => ?_) (fun x C u H locs hbad hxx hP hD hS => ?_)
                · skip
                  obtain ⟨so_404, ev_405, lk_406, bss_407, wts_408, snd_409, nbr_410⟩ := u
                  obtain ⟨rfl, hp_412⟩ := hok
                  obtain ⟨hsnd_413, hme_414, hev_415, hE_416⟩ : (bln snd_409) ∧ (me bss_407 wts_408 ev_405 tp 0) ∧ (ev_405 ≤ 40) ∧ (((¬ so_404 = 0 ∧ ev_405 = ev ∧ lk_406 = lk) ∨ (so_404 = so ∧ ev_405 = ev + 1 ∧ lk_406 = r_401 ∧ fz snd_409 ev_405 = fz snd ev + 1))) := hp_412
                  have hP : va_P D classes [((f 29), .inl (cI, 200, .inl lts)), ((f 22), .inl (cZ, 400, .inl mrk)), ((f 23), .inl (cI, 810, .inl wlk)), ((f 21), .inl (cL, 400, .inr (.inl two))), ((f 24), .inl (cI, 150, .inl spn)), ((f 18), .inl (cL, 9, .inr (.inl trm))), ((f 20), .inl (cL, 400, .inr (.inl one))), (h0, .inr (8, mS f tn rm ln lx at_ bd fs dp on os bn df th tp mo_ ev_405 ss so_404 lk_406 rs pt ot cl)), ((f 25), .inl (cI, 41, .inl bss_407)), ((f 26), .inl (cI, 41, .inl wts_408)), ((f 27), .inl (cZ, 41, .inl snd_409)), ((f 28), .inl (cI, 41, .inl nbr_410))] H := hP
                  have hD : va_D A [((f 29), .inl (cI, 200, .inl lts)), ((f 22), .inl (cZ, 400, .inl mrk)), ((f 23), .inl (cI, 810, .inl wlk)), ((f 21), .inl (cL, 400, .inr (.inl two))), ((f 24), .inl (cI, 150, .inl spn)), ((f 18), .inl (cL, 9, .inr (.inl trm))), ((f 20), .inl (cL, 400, .inr (.inl one))), (h0, .inr (8, mS f tn rm ln lx at_ bd fs dp on os bn df th tp mo_ ev_405 ss so_404 lk_406 rs pt ot cl)), ((f 25), .inl (cI, 41, .inl bss_407)), ((f 26), .inl (cI, 41, .inl wts_408)), ((f 27), .inl (cZ, 41, .inl snd_409)), ((f 28), .inl (cI, 41, .inl nbr_410))] := hD
                  refine W.eq (g2 := F0 m 195 ls []) rfl ?_
                  exact em_vret hx hb hr hlocks hP hD hK hS (ev_405, tp, lk_406, ss, so_404, rs, pt, ot, one, two, bss_407, wts_408, snd_409, nbr_410, lts, mrk, wlk) [7, 6, 3, 8, 9, 10, 11, 0, 1, 2, 4, 5] (by decide) rfl ⟨rfl, ⟨hsnd_413, hmrk, (show ∃ G' : Nat → Prop, MI df G' trm one two spn tp lk_406 rs pt ∧ ev_405 ≤ 40 ∧ me bss_407 wts_408 ev_405 tp 0 ∧ ot ≤ ot + 12 ∧ (ss = ss + 1 ∨ (ss = ss ∧ ¬ so_404 = 0 ∧ ot = ot) ∨ (ss = ss ∧ so_404 = so ∧ ot = ot ∧ ms pt ev_405 snd_409 tp < ms pt ev snd tp)) from ⟨Gc, ⟨hHG, (by rcases hE_416 with ⟨_, _, q⟩ | ⟨_, _, q, _⟩; rw [q]; exact hlk; rw [q]; exact hres_403), hrs, htp, hsp⟩, hev_415, hme_414, by omega, (by rcases hE_416 with ⟨q, _, _⟩ | ⟨q1, q2, q3, q4⟩; exact Or.inr (Or.inl ⟨rfl, q, rfl⟩); exact Or.inr (Or.inr ⟨rfl, q1, rfl, by unfold ms; omega⟩))⟩)⟩⟩ d_MO_act_195
                · skip
                  exact hbad.elim
              · skip
                exact hbad.elim
            · skip
              have hn_418 : ¬ 3 ≤ (tp - mb) := fun h => hb_399 ((nI_leI (a := 3) (b := tp - mb) (by omega) (by omega)).mpr h)
              refine lv_aload_n hx hb d_MO_act_160 rfl (lv_at hl 3 rfl) ?_
              refine lv_iconst (v := 0) hx hb d_MO_act_161 (by decide) ?_
              refine lv_iconst (v := 1) hx hb d_MO_act_162 (by decide) ?_
              refine em_call (wr := [((f 22), .inl (cZ, 400, .inl mrk)), ((f 23), .inl (cI, 810, .inl wlk))]) (em_runV (As := [.int 0, .int 1]) (rest := []) ⟨hx, hb, hml, hown, hG⟩ (mo_val01 l D cI cL cZ cC f h0 tn rm ln lx at_ bd fs dp on os bn df th tp mo_ ev ss so lk rs pt ot cl one two bss wts snd nbr lts spn trm Gc mb _ hsnd hMI hev hm1 hm2 hm3 hm4 hot hnt) (cwV 2 hG (gd_V k_1577 k_1579 k_91 k_116 k_1580) rfl rfl rfl (by decide +kernel) ⟨Nat.le_of_ble_eq_true rfl, Nat.le_of_ble_eq_true rfl⟩) (tw_V (q0 := 9) hP hD hK hE hst hS rfl rfl [9, 0, 1, 10, 11, 2, 3, 4, 7, 8] rfl (by decide)) rfl rfl hl.1 rfl (lv_room (Nat.le_of_ble_eq_true rfl)) d_MO_act_163 ⟨Nat.le_of_ble_eq_true rfl, Nat.le_of_ble_eq_true rfl⟩) hP hD hS hA [9, 0, 1, 10, 11, 2, 3, 4, 7, 8] [5, 6] rfl rfl (by decide) (by decide) (fun v u H locs hok hP hD hS => ?_) (fun x C u H locs hbad hxx hP hD hS => ?_)
              · skip
                obtain ⟨ev_419, tp_420, lk_421, ss_422, so_423, rs_424, pt_425, ot_426, one_427, two_428, bss_429, wts_430, snd_431, nbr_432, lts_433⟩ := u
                obtain ⟨rfl, hp_435⟩ := hok
                obtain ⟨hsnd_436, hMI_437, hev_438, hme_439, hot_440, hPv_441⟩ : (bln snd_431) ∧ (MI df Gc trm one_427 two_428 spn tp_420 lk_421 rs_424 pt_425) ∧ (ev_419 ≤ 40) ∧ (me bss_429 wts_430 ev_419 tp_420 0) ∧ (ot_426 ≤ ot + 12) ∧ ((ss_422 = ss + 1 ∨ (ss_422 = ss ∧ ¬ so_423 = 0 ∧ ot_426 = ot) ∨ (ss_422 = ss ∧ so_423 = so ∧ ot_426 = ot ∧ ms pt_425 ev_419 snd_431 tp_420 < ms pt ev snd tp))) := hp_435
                have hP : va_P D classes [((f 22), .inl (cZ, 400, .inl mrk)), ((f 23), .inl (cI, 810, .inl wlk)), (h0, .inr (8, mS f tn rm ln lx at_ bd fs dp on os bn df th tp_420 mo_ ev_419 ss_422 so_423 lk_421 rs_424 pt_425 ot_426 cl)), ((f 20), .inl (cL, 400, .inr (.inl one_427))), ((f 21), .inl (cL, 400, .inr (.inl two_428))), ((f 25), .inl (cI, 41, .inl bss_429)), ((f 26), .inl (cI, 41, .inl wts_430)), ((f 27), .inl (cZ, 41, .inl snd_431)), ((f 28), .inl (cI, 41, .inl nbr_432)), ((f 29), .inl (cI, 200, .inl lts_433)), ((f 24), .inl (cI, 150, .inl spn)), ((f 18), .inl (cL, 9, .inr (.inl trm)))] H := hP
                have hD : va_D A [((f 22), .inl (cZ, 400, .inl mrk)), ((f 23), .inl (cI, 810, .inl wlk)), (h0, .inr (8, mS f tn rm ln lx at_ bd fs dp on os bn df th tp_420 mo_ ev_419 ss_422 so_423 lk_421 rs_424 pt_425 ot_426 cl)), ((f 20), .inl (cL, 400, .inr (.inl one_427))), ((f 21), .inl (cL, 400, .inr (.inl two_428))), ((f 25), .inl (cI, 41, .inl bss_429)), ((f 26), .inl (cI, 41, .inl wts_430)), ((f 27), .inl (cZ, 41, .inl snd_431)), ((f 28), .inl (cI, 41, .inl nbr_432)), ((f 29), .inl (cI, 200, .inl lts_433)), ((f 24), .inl (cI, 150, .inl spn)), ((f 18), .inl (cL, 9, .inr (.inl trm)))] := hD
                refine W.eq (g2 := F0 m 166 ls []) rfl ?_
                refine lv_goto (tgt := 195) hx hb d_MO_act_166 (by decide) ?_
                exact em_vret hx hb hr hlocks hP hD hK hS (ev_419, tp_420, lk_421, ss_422, so_423, rs_424, pt_425, ot_426, one_427, two_428, bss_429, wts_430, snd_431, nbr_432, lts_433, mrk, wlk) [2, 3, 4, 5, 6, 7, 8, 9, 0, 1, 10, 11] (by decide) rfl ⟨rfl, ⟨hsnd_436, hmrk, (show ∃ G' : Nat → Prop, MI df G' trm one_427 two_428 spn tp_420 lk_421 rs_424 pt_425 ∧ ev_419 ≤ 40 ∧ me bss_429 wts_430 ev_419 tp_420 0 ∧ ot_426 ≤ ot + 12 ∧ (ss_422 = ss + 1 ∨ (ss_422 = ss ∧ ¬ so_423 = 0 ∧ ot_426 = ot) ∨ (ss_422 = ss ∧ so_423 = so ∧ ot_426 = ot ∧ ms pt_425 ev_419 snd_431 tp_420 < ms pt ev snd tp)) from ⟨Gc, hMI_437, hev_438, hme_439, hot_440, hPv_441⟩)⟩⟩ d_MO_act_195
              · skip
                exact hbad.elim
        · skip
          exact absurd (hb_1.symm.trans hb_397) (by decide)
      · skip
        exact hbad.elim
    · skip
      have hl : lv_has ls 4 [(2, .int 11), (1, .int (wkind lk)), (0, .ref h0)] := hl
      refine lv_aload_n hx hb d_MO_act_25 rfl (lv_at hl 2 rfl) ?_
      refine va_get (D := D) (ci := 8) (v := .int (nI tp)) (C := rn_MO) (T := fl_MO) (N := 55) hx hb hG in_MO hown hK hP 0 rfl rfl 38 (by decide) (hG _ k_1229) (fun _ h9 => h9) rfl d_MO_act_26 ?_
      refine lv_aload_n hx hb d_MO_act_29 rfl (lv_at hl 2 rfl) ?_
      refine em_call (wr := [((f 20), .inl (cL, 400, .inr (.inl one))), ((f 21), .inl (cL, 400, .inr (.inl two))), ((f 27), .inl (cZ, 41, .inl snd)), ((f 28), .inl (cI, 41, .inl nbr)), ((f 29), .inl (cI, 200, .inl lts)), ((f 22), .inl (cZ, 400, .inl mrk)), ((f 23), .inl (cI, 810, .inl wlk)), ((f 24), .inl (cI, 150, .inl spn)), ((f 18), .inl (cL, 9, .inr (.inl trm)))]) (em_runV (As := []) (rest := [.int (nI tp)]) ⟨hx, hb, hml, hown, hG⟩ (mo_below l D cI cL cZ cC f h0 tn rm ln lx at_ bd fs dp on os bn df th tp mo_ ev ss so lk rs pt ot cl bss wts _ hme hev hnt) (cwV 0 hG (gd_V k_1573 k_1575 k_90 k_116 k_1576) rfl rfl rfl (by decide +kernel) ⟨Nat.le_of_ble_eq_true rfl, Nat.le_of_ble_eq_true rfl⟩) (tw_V (q0 := 0) hP hD hK hE hst hS rfl rfl [0, 3, 4] rfl (by decide)) rfl rfl hl.1 rfl (lv_room (Nat.le_of_ble_eq_true rfl)) d_MO_act_30 ⟨Nat.le_of_ble_eq_true rfl, Nat.le_of_ble_eq_true rfl⟩) hP hD hS hA [0, 3, 4] [1, 2, 5, 6, 7, 8, 9, 10, 11] rfl rfl (by decide) (by decide) (fun v u H locs hok hP hD hS => ?_) (fun x C u H locs hbad hxx hP hD hS => ?_)
      · skip
        obtain ⟨r_443, rfl, hp_444⟩ := hok
        have hres_445 : (∃ mq : Nat, r_443 = nI mq ∧ mq ≤ tp ∧ (ev = 0 → mq = 0) ∧ (1 ≤ ev → bss (ev - 1) = nI mq) ∧ me bss wts ev mq 0) := hp_444
        obtain ⟨mb, rfl, hm1, hm2, hm3, hm4⟩ := hres_445
        have hP : va_P D classes [((f 20), .inl (cL, 400, .inr (.inl one))), ((f 21), .inl (cL, 400, .inr (.inl two))), ((f 27), .inl (cZ, 41, .inl snd)), ((f 28), .inl (cI, 41, .inl nbr)), ((f 29), .inl (cI, 200, .inl lts)), ((f 22), .inl (cZ, 400, .inl mrk)), ((f 23), .inl (cI, 810, .inl wlk)), ((f 24), .inl (cI, 150, .inl spn)), ((f 18), .inl (cL, 9, .inr (.inl trm))), (h0, .inr (8, mS f tn rm ln lx at_ bd fs dp on os bn df th tp mo_ ev ss so lk rs pt ot cl)), ((f 25), .inl (cI, 41, .inl bss)), ((f 26), .inl (cI, 41, .inl wts))] H := hP
        have hD : va_D A [((f 20), .inl (cL, 400, .inr (.inl one))), ((f 21), .inl (cL, 400, .inr (.inl two))), ((f 27), .inl (cZ, 41, .inl snd)), ((f 28), .inl (cI, 41, .inl nbr)), ((f 29), .inl (cI, 200, .inl lts)), ((f 22), .inl (cZ, 400, .inl mrk)), ((f 23), .inl (cI, 810, .inl wlk)), ((f 24), .inl (cI, 150, .inl spn)), ((f 18), .inl (cL, 9, .inr (.inl trm))), (h0, .inr (8, mS f tn rm ln lx at_ bd fs dp on os bn df th tp mo_ ev ss so lk rs pt ot cl)), ((f 25), .inl (cI, 41, .inl bss)), ((f 26), .inl (cI, 41, .inl wts))] := hD
        refine W.eq (g2 := F0 m 33 ls [.int (nI mb), .int (nI tp)]) rfl ?_
        refine lw_isub (a := tp) (b := mb) hx hb d_MO_act_33 (by omega) ?_
        refine lv_istore_n (lv' := [(3, .int (nI (tp - mb))), (2, .int 11), (1, .int (wkind lk)), (0, .ref h0)]) hx hb d_MO_act_34 rfl hl (Nat.le_of_ble_eq_true rfl) rfl (fun ls hl => ?_)
        refine lv_iload_n hx hb d_MO_act_35 rfl (lv_at hl 2 rfl) ?_
        refine lv_iconst (v := 1) hx hb d_MO_act_36 (by decide) ?_
        refine lv_icmp_ne (tgt := 69) hx hb d_MO_act_37 (by decide) (fun hb_446 => ?_) (fun hb_446 => ?_)
        · skip
          refine lv_iload_n hx hb d_MO_act_69 rfl (lv_at hl 2 rfl) ?_
          refine lv_if_eq (tgt := 85) hx hb d_MO_act_70 (by decide) (fun hb_447 => ?_) (fun hb_447 => ?_)
          · skip
            exact absurd (hb_1.symm.trans hb_447) (by decide)
          · skip
            refine lv_iload_n hx hb d_MO_act_73 rfl (lv_at hl 1 rfl) ?_
            refine lv_bipush (v := 17) hx hb d_MO_act_74 (by decide) ?_
            refine lv_icmp_eq (tgt := 85) hx hb d_MO_act_76 (by decide) (fun hbr => absurd hbr (by decide)) (fun hbr => ?_)
            refine lv_iload_n hx hb d_MO_act_79 rfl (lv_at hl 1 rfl) ?_
            refine lv_bipush (v := 20) hx hb d_MO_act_80 (by decide) ?_
            refine lv_icmp_le (tgt := 106) hx hb d_MO_act_82 (by decide) (fun hbr => ?_) (fun hbr => absurd (by decide) hbr)
            refine lv_iload_n hx hb d_MO_act_106 rfl (lv_at hl 1 rfl) ?_
            refine lv_bipush (v := 16) hx hb d_MO_act_107 (by decide) ?_
            refine lv_icmp_ne (tgt := 152) hx hb d_MO_act_109 (by decide) (fun hbr => ?_) (fun hbr => absurd hbr (by decide))
            refine lv_iload_n hx hb d_MO_act_152 rfl (lv_at hl 0 rfl) ?_
            refine lv_iload_n hx hb d_MO_act_153 rfl (lv_at hl 1 rfl) ?_
            refine W.callR (W.runS (As := [.int 11]) (rest := [.int (nI (tp - mb))]) ⟨hx, hb, hml, hown, hG⟩ (mo_needs l D cI cL cZ cC 11 ) (cwS 1 hG (gd_S k_1621 k_1622 k_116 k_1623) rfl rfl rfl (by decide +kernel) ⟨Nat.le_of_ble_eq_true rfl, Nat.le_of_ble_eq_true rfl⟩) (wq_S hP hK [] rfl) rfl rfl hl.1 rfl (lv_room (Nat.le_of_ble_eq_true rfl)) d_MO_act_154 ⟨Nat.le_of_ble_eq_true rfl, Nat.le_of_ble_eq_true rfl⟩) ?_
            refine W.eq (g2 := F0 m 157 ls [.int (mneeds (11 : Int32)), .int (nI (tp - mb))]) rfl ?_
            refine W.eq (g2 := F0 m 157 ls [.int 2, .int (nI (tp - mb))]) (by rw [show mneeds 11 = 2 by decide]) ?_
            refine lv_icmp_ge (tgt := 169) hx hb d_MO_act_157 (by decide) (fun hb_448 => ?_) (fun hb_448 => ?_)
            · skip
              have hn_449 : 2 ≤ (tp - mb) := (nI_leI (a := 2) (b := tp - mb) (by omega) (by omega)).mp hb_448
              refine lv_iload_n hx hb d_MO_act_169 rfl (lv_at hl 1 rfl) ?_
              refine lv_bipush (v := 10) hx hb d_MO_act_170 (by decide) ?_
              refine lv_icmp_ge (tgt := 183) hx hb d_MO_act_172 (by decide) (fun hbr => ?_) (fun hbr => absurd (by decide) hbr)
              refine lv_aload_n hx hb d_MO_act_183 rfl (lv_at hl 3 rfl) ?_
              refine lv_iload_n hx hb d_MO_act_184 rfl (lv_at hl 1 rfl) ?_
              refine lv_aload_n hx hb d_MO_act_185 rfl (lv_at hl 3 rfl) ?_
              refine lv_iconst (v := 0) hx hb d_MO_act_186 (by decide) ?_
              refine em_call (wr := [((f 27), .inl (cZ, 41, .inl snd)), ((f 28), .inl (cI, 41, .inl nbr)), ((f 29), .inl (cI, 200, .inl lts)), ((f 22), .inl (cZ, 400, .inl mrk)), ((f 23), .inl (cI, 810, .inl wlk)), ((f 25), .inl (cI, 41, .inl bss)), ((f 26), .inl (cI, 41, .inl wts))]) (em_runV (As := [.int (nI 0)]) (rest := [.int 11, .ref h0]) ⟨hx, hb, hml, hown, hG⟩ (mo_argument l D cI cL cZ cC f h0 tn rm ln lx at_ bd fs dp on os bn df th tp mo_ ev ss so lk rs pt ot cl two spn trm one Gc 0 _ (by omega) (by omega) hHG hsp hnt) (cwV 1 hG (gd_V k_1581 k_1583 k_92 k_116 k_1584) rfl rfl rfl (by decide +kernel) ⟨Nat.le_of_ble_eq_true rfl, Nat.le_of_ble_eq_true rfl⟩) (tw_V (q0 := 9) hP hD hK hE hst hS rfl rfl [9, 1, 7, 8, 0] rfl (by decide)) rfl rfl hl.1 rfl (lv_room (Nat.le_of_ble_eq_true rfl)) d_MO_act_187 ⟨Nat.le_of_ble_eq_true rfl, Nat.le_of_ble_eq_true rfl⟩) hP hD hS hA [9, 1, 7, 8, 0] [2, 3, 4, 5, 6, 10, 11] rfl rfl (by decide) (by decide) (fun v u H locs hok hP hD hS => ?_) (fun x C u H locs hbad hxx hP hD hS => ?_)
              · skip
                obtain ⟨r_450, rfl, hp_451⟩ := hok
                have hres_452 : (okh df Gc r_450) := hp_451
                have hP : va_P D classes [((f 27), .inl (cZ, 41, .inl snd)), ((f 28), .inl (cI, 41, .inl nbr)), ((f 29), .inl (cI, 200, .inl lts)), ((f 22), .inl (cZ, 400, .inl mrk)), ((f 23), .inl (cI, 810, .inl wlk)), ((f 25), .inl (cI, 41, .inl bss)), ((f 26), .inl (cI, 41, .inl wts)), (h0, .inr (8, mS f tn rm ln lx at_ bd fs dp on os bn df th tp mo_ ev ss so lk rs pt ot cl)), ((f 21), .inl (cL, 400, .inr (.inl two))), ((f 24), .inl (cI, 150, .inl spn)), ((f 18), .inl (cL, 9, .inr (.inl trm))), ((f 20), .inl (cL, 400, .inr (.inl one)))] H := hP
                have hD : va_D A [((f 27), .inl (cZ, 41, .inl snd)), ((f 28), .inl (cI, 41, .inl nbr)), ((f 29), .inl (cI, 200, .inl lts)), ((f 22), .inl (cZ, 400, .inl mrk)), ((f 23), .inl (cI, 810, .inl wlk)), ((f 25), .inl (cI, 41, .inl bss)), ((f 26), .inl (cI, 41, .inl wts)), (h0, .inr (8, mS f tn rm ln lx at_ bd fs dp on os bn df th tp mo_ ev ss so lk rs pt ot cl)), ((f 21), .inl (cL, 400, .inr (.inl two))), ((f 24), .inl (cI, 150, .inl spn)), ((f 18), .inl (cL, 9, .inr (.inl trm))), ((f 20), .inl (cL, 400, .inr (.inl one)))] := hD
                refine W.eq (g2 := F0 m 190 ls [.long r_450, .int 11, .ref h0]) rfl ?_
                refine lv_iconst (v := 0) hx hb d_MO_act_190 (by decide) ?_
                refine lv_iconst (v := 0) hx hb d_MO_act_191 (by decide) ?_
                refine em_call (wr := [((f 29), .inl (cI, 200, .inl lts)), ((f 22), .inl (cZ, 400, .inl mrk)), ((f 23), .inl (cI, 810, .inl wlk)), ((f 21), .inl (cL, 400, .inr (.inl two))), ((f 24), .inl (cI, 150, .inl spn)), ((f 18), .inl (cL, 9, .inr (.inl trm))), ((f 20), .inl (cL, 400, .inr (.inl one)))]) (em_runV (As := [.int (nI 11), .long r_450, .int 0, .int 0]) (rest := []) ⟨hx, hb, hml, hown, hG⟩ (mo_eval0 l D cI cL cZ cC f h0 tn rm ln lx at_ bd fs dp on os bn df th tp mo_ ev ss so lk rs pt ot cl bss wts snd nbr 11 r_450 0 _ hsnd (by decide) (by decide) (by decide) (by decide) (hm4.mono (by have hq := nd_or 11; omega)) hev hnt) (cwV 4 hG (gd_V k_1600 k_1602 k_96 k_116 k_1603) rfl rfl rfl (by decide +kernel) ⟨Nat.le_of_ble_eq_true rfl, Nat.le_of_ble_eq_true rfl⟩) (tw_V (q0 := 7) hP hD hK hE hst hS rfl rfl [7, 5, 6, 0, 1] rfl (by decide)) rfl rfl hl.1 rfl (lv_room (Nat.le_of_ble_eq_true rfl)) d_MO_act_192 ⟨Nat.le_of_ble_eq_true rfl, Nat.le_of_ble_eq_true rfl⟩) hP hD hS hA [7, 5, 6, 0, 1] [2, 3, 4, 8, 9, 10, 11] rfl rfl (by decide) (by decide) (fun v u H locs hok hP hD hS => ?_) (fun x C u H locs hbad hxx hP hD hS => ?_)
                · skip
                  obtain ⟨so_453, ev_454, lk_455, bss_456, wts_457, snd_458, nbr_459⟩ := u
                  obtain ⟨rfl, hp_461⟩ := hok
                  obtain ⟨hsnd_462, hme_463, hev_464, hE_465⟩ : (bln snd_458) ∧ (me bss_456 wts_457 ev_454 tp 0) ∧ (ev_454 ≤ 40) ∧ (((¬ so_453 = 0 ∧ ev_454 = ev ∧ lk_455 = lk) ∨ (so_453 = so ∧ ev_454 = ev + 1 ∧ lk_455 = r_450 ∧ fz snd_458 ev_454 = fz snd ev + 1))) := hp_461
                  have hP : va_P D classes [((f 29), .inl (cI, 200, .inl lts)), ((f 22), .inl (cZ, 400, .inl mrk)), ((f 23), .inl (cI, 810, .inl wlk)), ((f 21), .inl (cL, 400, .inr (.inl two))), ((f 24), .inl (cI, 150, .inl spn)), ((f 18), .inl (cL, 9, .inr (.inl trm))), ((f 20), .inl (cL, 400, .inr (.inl one))), (h0, .inr (8, mS f tn rm ln lx at_ bd fs dp on os bn df th tp mo_ ev_454 ss so_453 lk_455 rs pt ot cl)), ((f 25), .inl (cI, 41, .inl bss_456)), ((f 26), .inl (cI, 41, .inl wts_457)), ((f 27), .inl (cZ, 41, .inl snd_458)), ((f 28), .inl (cI, 41, .inl nbr_459))] H := hP
                  have hD : va_D A [((f 29), .inl (cI, 200, .inl lts)), ((f 22), .inl (cZ, 400, .inl mrk)), ((f 23), .inl (cI, 810, .inl wlk)), ((f 21), .inl (cL, 400, .inr (.inl two))), ((f 24), .inl (cI, 150, .inl spn)), ((f 18), .inl (cL, 9, .inr (.inl trm))), ((f 20), .inl (cL, 400, .inr (.inl one))), (h0, .inr (8, mS f tn rm ln lx at_ bd fs dp on os bn df th tp mo_ ev_454 ss so_453 lk_455 rs pt ot cl)), ((f 25), .inl (cI, 41, .inl bss_456)), ((f 26), .inl (cI, 41, .inl wts_457)), ((f 27), .inl (cZ, 41, .inl snd_458)), ((f 28), .inl (cI, 41, .inl nbr_459))] := hD
                  refine W.eq (g2 := F0 m 195 ls []) rfl ?_
                  exact em_vret hx hb hr hlocks hP hD hK hS (ev_454, tp, lk_455, ss, so_453, rs, pt, ot, one, two, bss_456, wts_457, snd_458, nbr_459, lts, mrk, wlk) [7, 6, 3, 8, 9, 10, 11, 0, 1, 2, 4, 5] (by decide) rfl ⟨rfl, ⟨hsnd_462, hmrk, (show ∃ G' : Nat → Prop, MI df G' trm one two spn tp lk_455 rs pt ∧ ev_454 ≤ 40 ∧ me bss_456 wts_457 ev_454 tp 0 ∧ ot ≤ ot + 12 ∧ (ss = ss + 1 ∨ (ss = ss ∧ ¬ so_453 = 0 ∧ ot = ot) ∨ (ss = ss ∧ so_453 = so ∧ ot = ot ∧ ms pt ev_454 snd_458 tp < ms pt ev snd tp)) from ⟨Gc, ⟨hHG, (by rcases hE_465 with ⟨_, _, q⟩ | ⟨_, _, q, _⟩; rw [q]; exact hlk; rw [q]; exact hres_452), hrs, htp, hsp⟩, hev_464, hme_463, by omega, (by rcases hE_465 with ⟨q, _, _⟩ | ⟨q1, q2, q3, q4⟩; exact Or.inr (Or.inl ⟨rfl, q, rfl⟩); exact Or.inr (Or.inr ⟨rfl, q1, rfl, by unfold ms; omega⟩))⟩)⟩⟩ d_MO_act_195
                · skip
                  exact hbad.elim
              · skip
                exact hbad.elim
            · skip
              have hn_467 : ¬ 2 ≤ (tp - mb) := fun h => hb_448 ((nI_leI (a := 2) (b := tp - mb) (by omega) (by omega)).mpr h)
              refine lv_aload_n hx hb d_MO_act_160 rfl (lv_at hl 3 rfl) ?_
              refine lv_iconst (v := 0) hx hb d_MO_act_161 (by decide) ?_
              refine lv_iconst (v := 1) hx hb d_MO_act_162 (by decide) ?_
              refine em_call (wr := [((f 22), .inl (cZ, 400, .inl mrk)), ((f 23), .inl (cI, 810, .inl wlk))]) (em_runV (As := [.int 0, .int 1]) (rest := []) ⟨hx, hb, hml, hown, hG⟩ (mo_val01 l D cI cL cZ cC f h0 tn rm ln lx at_ bd fs dp on os bn df th tp mo_ ev ss so lk rs pt ot cl one two bss wts snd nbr lts spn trm Gc mb _ hsnd hMI hev hm1 hm2 hm3 hm4 hot hnt) (cwV 2 hG (gd_V k_1577 k_1579 k_91 k_116 k_1580) rfl rfl rfl (by decide +kernel) ⟨Nat.le_of_ble_eq_true rfl, Nat.le_of_ble_eq_true rfl⟩) (tw_V (q0 := 9) hP hD hK hE hst hS rfl rfl [9, 0, 1, 10, 11, 2, 3, 4, 7, 8] rfl (by decide)) rfl rfl hl.1 rfl (lv_room (Nat.le_of_ble_eq_true rfl)) d_MO_act_163 ⟨Nat.le_of_ble_eq_true rfl, Nat.le_of_ble_eq_true rfl⟩) hP hD hS hA [9, 0, 1, 10, 11, 2, 3, 4, 7, 8] [5, 6] rfl rfl (by decide) (by decide) (fun v u H locs hok hP hD hS => ?_) (fun x C u H locs hbad hxx hP hD hS => ?_)
              · skip
                obtain ⟨ev_468, tp_469, lk_470, ss_471, so_472, rs_473, pt_474, ot_475, one_476, two_477, bss_478, wts_479, snd_480, nbr_481, lts_482⟩ := u
                obtain ⟨rfl, hp_484⟩ := hok
                obtain ⟨hsnd_485, hMI_486, hev_487, hme_488, hot_489, hPv_490⟩ : (bln snd_480) ∧ (MI df Gc trm one_476 two_477 spn tp_469 lk_470 rs_473 pt_474) ∧ (ev_468 ≤ 40) ∧ (me bss_478 wts_479 ev_468 tp_469 0) ∧ (ot_475 ≤ ot + 12) ∧ ((ss_471 = ss + 1 ∨ (ss_471 = ss ∧ ¬ so_472 = 0 ∧ ot_475 = ot) ∨ (ss_471 = ss ∧ so_472 = so ∧ ot_475 = ot ∧ ms pt_474 ev_468 snd_480 tp_469 < ms pt ev snd tp))) := hp_484
                have hP : va_P D classes [((f 22), .inl (cZ, 400, .inl mrk)), ((f 23), .inl (cI, 810, .inl wlk)), (h0, .inr (8, mS f tn rm ln lx at_ bd fs dp on os bn df th tp_469 mo_ ev_468 ss_471 so_472 lk_470 rs_473 pt_474 ot_475 cl)), ((f 20), .inl (cL, 400, .inr (.inl one_476))), ((f 21), .inl (cL, 400, .inr (.inl two_477))), ((f 25), .inl (cI, 41, .inl bss_478)), ((f 26), .inl (cI, 41, .inl wts_479)), ((f 27), .inl (cZ, 41, .inl snd_480)), ((f 28), .inl (cI, 41, .inl nbr_481)), ((f 29), .inl (cI, 200, .inl lts_482)), ((f 24), .inl (cI, 150, .inl spn)), ((f 18), .inl (cL, 9, .inr (.inl trm)))] H := hP
                have hD : va_D A [((f 22), .inl (cZ, 400, .inl mrk)), ((f 23), .inl (cI, 810, .inl wlk)), (h0, .inr (8, mS f tn rm ln lx at_ bd fs dp on os bn df th tp_469 mo_ ev_468 ss_471 so_472 lk_470 rs_473 pt_474 ot_475 cl)), ((f 20), .inl (cL, 400, .inr (.inl one_476))), ((f 21), .inl (cL, 400, .inr (.inl two_477))), ((f 25), .inl (cI, 41, .inl bss_478)), ((f 26), .inl (cI, 41, .inl wts_479)), ((f 27), .inl (cZ, 41, .inl snd_480)), ((f 28), .inl (cI, 41, .inl nbr_481)), ((f 29), .inl (cI, 200, .inl lts_482)), ((f 24), .inl (cI, 150, .inl spn)), ((f 18), .inl (cL, 9, .inr (.inl trm)))] := hD
                refine W.eq (g2 := F0 m 166 ls []) rfl ?_
                refine lv_goto (tgt := 195) hx hb d_MO_act_166 (by decide) ?_
                exact em_vret hx hb hr hlocks hP hD hK hS (ev_468, tp_469, lk_470, ss_471, so_472, rs_473, pt_474, ot_475, one_476, two_477, bss_478, wts_479, snd_480, nbr_481, lts_482, mrk, wlk) [2, 3, 4, 5, 6, 7, 8, 9, 0, 1, 10, 11] (by decide) rfl ⟨rfl, ⟨hsnd_485, hmrk, (show ∃ G' : Nat → Prop, MI df G' trm one_476 two_477 spn tp_469 lk_470 rs_473 pt_474 ∧ ev_468 ≤ 40 ∧ me bss_478 wts_479 ev_468 tp_469 0 ∧ ot_475 ≤ ot + 12 ∧ (ss_471 = ss + 1 ∨ (ss_471 = ss ∧ ¬ so_472 = 0 ∧ ot_475 = ot) ∨ (ss_471 = ss ∧ so_472 = so ∧ ot_475 = ot ∧ ms pt_474 ev_468 snd_480 tp_469 < ms pt ev snd tp)) from ⟨Gc, hMI_486, hev_487, hme_488, hot_489, hPv_490⟩)⟩⟩ d_MO_act_195
              · skip
                exact hbad.elim
        · skip
          exact absurd (hb_1.symm.trans hb_446) (by decide)
      · skip
        exact hbad.elim
    · skip
      have hl : lv_has ls 4 [(2, .int 12), (1, .int (wkind lk)), (0, .ref h0)] := hl
      refine lv_aload_n hx hb d_MO_act_25 rfl (lv_at hl 2 rfl) ?_
      refine va_get (D := D) (ci := 8) (v := .int (nI tp)) (C := rn_MO) (T := fl_MO) (N := 55) hx hb hG in_MO hown hK hP 0 rfl rfl 38 (by decide) (hG _ k_1229) (fun _ h9 => h9) rfl d_MO_act_26 ?_
      refine lv_aload_n hx hb d_MO_act_29 rfl (lv_at hl 2 rfl) ?_
      refine em_call (wr := [((f 20), .inl (cL, 400, .inr (.inl one))), ((f 21), .inl (cL, 400, .inr (.inl two))), ((f 27), .inl (cZ, 41, .inl snd)), ((f 28), .inl (cI, 41, .inl nbr)), ((f 29), .inl (cI, 200, .inl lts)), ((f 22), .inl (cZ, 400, .inl mrk)), ((f 23), .inl (cI, 810, .inl wlk)), ((f 24), .inl (cI, 150, .inl spn)), ((f 18), .inl (cL, 9, .inr (.inl trm)))]) (em_runV (As := []) (rest := [.int (nI tp)]) ⟨hx, hb, hml, hown, hG⟩ (mo_below l D cI cL cZ cC f h0 tn rm ln lx at_ bd fs dp on os bn df th tp mo_ ev ss so lk rs pt ot cl bss wts _ hme hev hnt) (cwV 0 hG (gd_V k_1573 k_1575 k_90 k_116 k_1576) rfl rfl rfl (by decide +kernel) ⟨Nat.le_of_ble_eq_true rfl, Nat.le_of_ble_eq_true rfl⟩) (tw_V (q0 := 0) hP hD hK hE hst hS rfl rfl [0, 3, 4] rfl (by decide)) rfl rfl hl.1 rfl (lv_room (Nat.le_of_ble_eq_true rfl)) d_MO_act_30 ⟨Nat.le_of_ble_eq_true rfl, Nat.le_of_ble_eq_true rfl⟩) hP hD hS hA [0, 3, 4] [1, 2, 5, 6, 7, 8, 9, 10, 11] rfl rfl (by decide) (by decide) (fun v u H locs hok hP hD hS => ?_) (fun x C u H locs hbad hxx hP hD hS => ?_)
      · skip
        obtain ⟨r_492, rfl, hp_493⟩ := hok
        have hres_494 : (∃ mq : Nat, r_492 = nI mq ∧ mq ≤ tp ∧ (ev = 0 → mq = 0) ∧ (1 ≤ ev → bss (ev - 1) = nI mq) ∧ me bss wts ev mq 0) := hp_493
        obtain ⟨mb, rfl, hm1, hm2, hm3, hm4⟩ := hres_494
        have hP : va_P D classes [((f 20), .inl (cL, 400, .inr (.inl one))), ((f 21), .inl (cL, 400, .inr (.inl two))), ((f 27), .inl (cZ, 41, .inl snd)), ((f 28), .inl (cI, 41, .inl nbr)), ((f 29), .inl (cI, 200, .inl lts)), ((f 22), .inl (cZ, 400, .inl mrk)), ((f 23), .inl (cI, 810, .inl wlk)), ((f 24), .inl (cI, 150, .inl spn)), ((f 18), .inl (cL, 9, .inr (.inl trm))), (h0, .inr (8, mS f tn rm ln lx at_ bd fs dp on os bn df th tp mo_ ev ss so lk rs pt ot cl)), ((f 25), .inl (cI, 41, .inl bss)), ((f 26), .inl (cI, 41, .inl wts))] H := hP
        have hD : va_D A [((f 20), .inl (cL, 400, .inr (.inl one))), ((f 21), .inl (cL, 400, .inr (.inl two))), ((f 27), .inl (cZ, 41, .inl snd)), ((f 28), .inl (cI, 41, .inl nbr)), ((f 29), .inl (cI, 200, .inl lts)), ((f 22), .inl (cZ, 400, .inl mrk)), ((f 23), .inl (cI, 810, .inl wlk)), ((f 24), .inl (cI, 150, .inl spn)), ((f 18), .inl (cL, 9, .inr (.inl trm))), (h0, .inr (8, mS f tn rm ln lx at_ bd fs dp on os bn df th tp mo_ ev ss so lk rs pt ot cl)), ((f 25), .inl (cI, 41, .inl bss)), ((f 26), .inl (cI, 41, .inl wts))] := hD
        refine W.eq (g2 := F0 m 33 ls [.int (nI mb), .int (nI tp)]) rfl ?_
        refine lw_isub (a := tp) (b := mb) hx hb d_MO_act_33 (by omega) ?_
        refine lv_istore_n (lv' := [(3, .int (nI (tp - mb))), (2, .int 12), (1, .int (wkind lk)), (0, .ref h0)]) hx hb d_MO_act_34 rfl hl (Nat.le_of_ble_eq_true rfl) rfl (fun ls hl => ?_)
        refine lv_iload_n hx hb d_MO_act_35 rfl (lv_at hl 2 rfl) ?_
        refine lv_iconst (v := 1) hx hb d_MO_act_36 (by decide) ?_
        refine lv_icmp_ne (tgt := 69) hx hb d_MO_act_37 (by decide) (fun hb_495 => ?_) (fun hb_495 => ?_)
        · skip
          refine lv_iload_n hx hb d_MO_act_69 rfl (lv_at hl 2 rfl) ?_
          refine lv_if_eq (tgt := 85) hx hb d_MO_act_70 (by decide) (fun hb_496 => ?_) (fun hb_496 => ?_)
          · skip
            exact absurd (hb_1.symm.trans hb_496) (by decide)
          · skip
            refine lv_iload_n hx hb d_MO_act_73 rfl (lv_at hl 1 rfl) ?_
            refine lv_bipush (v := 17) hx hb d_MO_act_74 (by decide) ?_
            refine lv_icmp_eq (tgt := 85) hx hb d_MO_act_76 (by decide) (fun hbr => absurd hbr (by decide)) (fun hbr => ?_)
            refine lv_iload_n hx hb d_MO_act_79 rfl (lv_at hl 1 rfl) ?_
            refine lv_bipush (v := 20) hx hb d_MO_act_80 (by decide) ?_
            refine lv_icmp_le (tgt := 106) hx hb d_MO_act_82 (by decide) (fun hbr => ?_) (fun hbr => absurd (by decide) hbr)
            refine lv_iload_n hx hb d_MO_act_106 rfl (lv_at hl 1 rfl) ?_
            refine lv_bipush (v := 16) hx hb d_MO_act_107 (by decide) ?_
            refine lv_icmp_ne (tgt := 152) hx hb d_MO_act_109 (by decide) (fun hbr => ?_) (fun hbr => absurd hbr (by decide))
            refine lv_iload_n hx hb d_MO_act_152 rfl (lv_at hl 0 rfl) ?_
            refine lv_iload_n hx hb d_MO_act_153 rfl (lv_at hl 1 rfl) ?_
            refine W.callR (W.runS (As := [.int 12]) (rest := [.int (nI (tp - mb))]) ⟨hx, hb, hml, hown, hG⟩ (mo_needs l D cI cL cZ cC 12 ) (cwS 1 hG (gd_S k_1621 k_1622 k_116 k_1623) rfl rfl rfl (by decide +kernel) ⟨Nat.le_of_ble_eq_true rfl, Nat.le_of_ble_eq_true rfl⟩) (wq_S hP hK [] rfl) rfl rfl hl.1 rfl (lv_room (Nat.le_of_ble_eq_true rfl)) d_MO_act_154 ⟨Nat.le_of_ble_eq_true rfl, Nat.le_of_ble_eq_true rfl⟩) ?_
            refine W.eq (g2 := F0 m 157 ls [.int (mneeds (12 : Int32)), .int (nI (tp - mb))]) rfl ?_
            refine W.eq (g2 := F0 m 157 ls [.int 2, .int (nI (tp - mb))]) (by rw [show mneeds 12 = 2 by decide]) ?_
            refine lv_icmp_ge (tgt := 169) hx hb d_MO_act_157 (by decide) (fun hb_497 => ?_) (fun hb_497 => ?_)
            · skip
              have hn_498 : 2 ≤ (tp - mb) := (nI_leI (a := 2) (b := tp - mb) (by omega) (by omega)).mp hb_497
              refine lv_iload_n hx hb d_MO_act_169 rfl (lv_at hl 1 rfl) ?_
              refine lv_bipush (v := 10) hx hb d_MO_act_170 (by decide) ?_
              refine lv_icmp_ge (tgt := 183) hx hb d_MO_act_172 (by decide) (fun hbr => ?_) (fun hbr => absurd (by decide) hbr)
              refine lv_aload_n hx hb d_MO_act_183 rfl (lv_at hl 3 rfl) ?_
              refine lv_iload_n hx hb d_MO_act_184 rfl (lv_at hl 1 rfl) ?_
              refine lv_aload_n hx hb d_MO_act_185 rfl (lv_at hl 3 rfl) ?_
              refine lv_iconst (v := 0) hx hb d_MO_act_186 (by decide) ?_
              refine em_call (wr := [((f 27), .inl (cZ, 41, .inl snd)), ((f 28), .inl (cI, 41, .inl nbr)), ((f 29), .inl (cI, 200, .inl lts)), ((f 22), .inl (cZ, 400, .inl mrk)), ((f 23), .inl (cI, 810, .inl wlk)), ((f 25), .inl (cI, 41, .inl bss)), ((f 26), .inl (cI, 41, .inl wts))]) (em_runV (As := [.int (nI 0)]) (rest := [.int 12, .ref h0]) ⟨hx, hb, hml, hown, hG⟩ (mo_argument l D cI cL cZ cC f h0 tn rm ln lx at_ bd fs dp on os bn df th tp mo_ ev ss so lk rs pt ot cl two spn trm one Gc 0 _ (by omega) (by omega) hHG hsp hnt) (cwV 1 hG (gd_V k_1581 k_1583 k_92 k_116 k_1584) rfl rfl rfl (by decide +kernel) ⟨Nat.le_of_ble_eq_true rfl, Nat.le_of_ble_eq_true rfl⟩) (tw_V (q0 := 9) hP hD hK hE hst hS rfl rfl [9, 1, 7, 8, 0] rfl (by decide)) rfl rfl hl.1 rfl (lv_room (Nat.le_of_ble_eq_true rfl)) d_MO_act_187 ⟨Nat.le_of_ble_eq_true rfl, Nat.le_of_ble_eq_true rfl⟩) hP hD hS hA [9, 1, 7, 8, 0] [2, 3, 4, 5, 6, 10, 11] rfl rfl (by decide) (by decide) (fun v u H locs hok hP hD hS => ?_) (fun x C u H locs hbad hxx hP hD hS => ?_)
              · skip
                obtain ⟨r_499, rfl, hp_500⟩ := hok
                have hres_501 : (okh df Gc r_499) := hp_500
                have hP : va_P D classes [((f 27), .inl (cZ, 41, .inl snd)), ((f 28), .inl (cI, 41, .inl nbr)), ((f 29), .inl (cI, 200, .inl lts)), ((f 22), .inl (cZ, 400, .inl mrk)), ((f 23), .inl (cI, 810, .inl wlk)), ((f 25), .inl (cI, 41, .inl bss)), ((f 26), .inl (cI, 41, .inl wts)), (h0, .inr (8, mS f tn rm ln lx at_ bd fs dp on os bn df th tp mo_ ev ss so lk rs pt ot cl)), ((f 21), .inl (cL, 400, .inr (.inl two))), ((f 24), .inl (cI, 150, .inl spn)), ((f 18), .inl (cL, 9, .inr (.inl trm))), ((f 20), .inl (cL, 400, .inr (.inl one)))] H := hP
                have hD : va_D A [((f 27), .inl (cZ, 41, .inl snd)), ((f 28), .inl (cI, 41, .inl nbr)), ((f 29), .inl (cI, 200, .inl lts)), ((f 22), .inl (cZ, 400, .inl mrk)), ((f 23), .inl (cI, 810, .inl wlk)), ((f 25), .inl (cI, 41, .inl bss)), ((f 26), .inl (cI, 41, .inl wts)), (h0, .inr (8, mS f tn rm ln lx at_ bd fs dp on os bn df th tp mo_ ev ss so lk rs pt ot cl)), ((f 21), .inl (cL, 400, .inr (.inl two))), ((f 24), .inl (cI, 150, .inl spn)), ((f 18), .inl (cL, 9, .inr (.inl trm))), ((f 20), .inl (cL, 400, .inr (.inl one)))] := hD
                refine W.eq (g2 := F0 m 190 ls [.long r_499, .int 12, .ref h0]) rfl ?_
                refine lv_iconst (v := 0) hx hb d_MO_act_190 (by decide) ?_
                refine lv_iconst (v := 0) hx hb d_MO_act_191 (by decide) ?_
                refine em_call (wr := [((f 29), .inl (cI, 200, .inl lts)), ((f 22), .inl (cZ, 400, .inl mrk)), ((f 23), .inl (cI, 810, .inl wlk)), ((f 21), .inl (cL, 400, .inr (.inl two))), ((f 24), .inl (cI, 150, .inl spn)), ((f 18), .inl (cL, 9, .inr (.inl trm))), ((f 20), .inl (cL, 400, .inr (.inl one)))]) (em_runV (As := [.int (nI 12), .long r_499, .int 0, .int 0]) (rest := []) ⟨hx, hb, hml, hown, hG⟩ (mo_eval0 l D cI cL cZ cC f h0 tn rm ln lx at_ bd fs dp on os bn df th tp mo_ ev ss so lk rs pt ot cl bss wts snd nbr 12 r_499 0 _ hsnd (by decide) (by decide) (by decide) (by decide) (hm4.mono (by have hq := nd_or 12; omega)) hev hnt) (cwV 4 hG (gd_V k_1600 k_1602 k_96 k_116 k_1603) rfl rfl rfl (by decide +kernel) ⟨Nat.le_of_ble_eq_true rfl, Nat.le_of_ble_eq_true rfl⟩) (tw_V (q0 := 7) hP hD hK hE hst hS rfl rfl [7, 5, 6, 0, 1] rfl (by decide)) rfl rfl hl.1 rfl (lv_room (Nat.le_of_ble_eq_true rfl)) d_MO_act_192 ⟨Nat.le_of_ble_eq_true rfl, Nat.le_of_ble_eq_true rfl⟩) hP hD hS hA [7, 5, 6, 0, 1] [2, 3, 4, 8, 9, 10, 11] rfl rfl (by decide) (by decide) (fun v u H locs hok hP hD hS => ?_) (fun x C u H locs hbad hxx hP hD hS => ?_)
                · skip
                  obtain ⟨so_502, ev_503, lk_504, bss_505, wts_506, snd_507, nbr_508⟩ := u
                  obtain ⟨rfl, hp_510⟩ := hok
                  obtain ⟨hsnd_511, hme_512, hev_513, hE_514⟩ : (bln snd_507) ∧ (me bss_505 wts_506 ev_503 tp 0) ∧ (ev_503 ≤ 40) ∧ (((¬ so_502 = 0 ∧ ev_503 = ev ∧ lk_504 = lk) ∨ (so_502 = so ∧ ev_503 = ev + 1 ∧ lk_504 = r_499 ∧ fz snd_507 ev_503 = fz snd ev + 1))) := hp_510
                  have hP : va_P D classes [((f 29), .inl (cI, 200, .inl lts)), ((f 22), .inl (cZ, 400, .inl mrk)), ((f 23), .inl (cI, 810, .inl wlk)), ((f 21), .inl (cL, 400, .inr (.inl two))), ((f 24), .inl (cI, 150, .inl spn)), ((f 18), .inl (cL, 9, .inr (.inl trm))), ((f 20), .inl (cL, 400, .inr (.inl one))), (h0, .inr (8, mS f tn rm ln lx at_ bd fs dp on os bn df th tp mo_ ev_503 ss so_502 lk_504 rs pt ot cl)), ((f 25), .inl (cI, 41, .inl bss_505)), ((f 26), .inl (cI, 41, .inl wts_506)), ((f 27), .inl (cZ, 41, .inl snd_507)), ((f 28), .inl (cI, 41, .inl nbr_508))] H := hP
                  have hD : va_D A [((f 29), .inl (cI, 200, .inl lts)), ((f 22), .inl (cZ, 400, .inl mrk)), ((f 23), .inl (cI, 810, .inl wlk)), ((f 21), .inl (cL, 400, .inr (.inl two))), ((f 24), .inl (cI, 150, .inl spn)), ((f 18), .inl (cL, 9, .inr (.inl trm))), ((f 20), .inl (cL, 400, .inr (.inl one))), (h0, .inr (8, mS f tn rm ln lx at_ bd fs dp on os bn df th tp mo_ ev_503 ss so_502 lk_504 rs pt ot cl)), ((f 25), .inl (cI, 41, .inl bss_505)), ((f 26), .inl (cI, 41, .inl wts_506)), ((f 27), .inl (cZ, 41, .inl snd_507)), ((f 28), .inl (cI, 41, .inl nbr_508))] := hD
                  refine W.eq (g2 := F0 m 195 ls []) rfl ?_
                  exact em_vret hx hb hr hlocks hP hD hK hS (ev_503, tp, lk_504, ss, so_502, rs, pt, ot, one, two, bss_505, wts_506, snd_507, nbr_508, lts, mrk, wlk) [7, 6, 3, 8, 9, 10, 11, 0, 1, 2, 4, 5] (by decide) rfl ⟨rfl, ⟨hsnd_511, hmrk, (show ∃ G' : Nat → Prop, MI df G' trm one two spn tp lk_504 rs pt ∧ ev_503 ≤ 40 ∧ me bss_505 wts_506 ev_503 tp 0 ∧ ot ≤ ot + 12 ∧ (ss = ss + 1 ∨ (ss = ss ∧ ¬ so_502 = 0 ∧ ot = ot) ∨ (ss = ss ∧ so_502 = so ∧ ot = ot ∧ ms pt ev_503 snd_507 tp < ms pt ev snd tp)) from ⟨Gc, ⟨hHG, (by rcases hE_514 with ⟨_, _, q⟩ | ⟨_, _, q, _⟩; rw [q]; exact hlk; rw [q]; exact hres_501), hrs, htp, hsp⟩, hev_513, hme_512, by omega, (by rcases hE_514 with ⟨q, _, _⟩ | ⟨q1, q2, q3, q4⟩; exact Or.inr (Or.inl ⟨rfl, q, rfl⟩); exact Or.inr (Or.inr ⟨rfl, q1, rfl, by unfold ms; omega⟩))⟩)⟩⟩ d_MO_act_195
                · skip
                  exact hbad.elim
              · skip
                exact hbad.elim
            · skip
              have hn_516 : ¬ 2 ≤ (tp - mb) := fun h => hb_497 ((nI_leI (a := 2) (b := tp - mb) (by omega) (by omega)).mpr h)
              refine lv_aload_n hx hb d_MO_act_160 rfl (lv_at hl 3 rfl) ?_
              refine lv_iconst (v := 0) hx hb d_MO_act_161 (by decide) ?_
              refine lv_iconst (v := 1) hx hb d_MO_act_162 (by decide) ?_
              refine em_call (wr := [((f 22), .inl (cZ, 400, .inl mrk)), ((f 23), .inl (cI, 810, .inl wlk))]) (em_runV (As := [.int 0, .int 1]) (rest := []) ⟨hx, hb, hml, hown, hG⟩ (mo_val01 l D cI cL cZ cC f h0 tn rm ln lx at_ bd fs dp on os bn df th tp mo_ ev ss so lk rs pt ot cl one two bss wts snd nbr lts spn trm Gc mb _ hsnd hMI hev hm1 hm2 hm3 hm4 hot hnt) (cwV 2 hG (gd_V k_1577 k_1579 k_91 k_116 k_1580) rfl rfl rfl (by decide +kernel) ⟨Nat.le_of_ble_eq_true rfl, Nat.le_of_ble_eq_true rfl⟩) (tw_V (q0 := 9) hP hD hK hE hst hS rfl rfl [9, 0, 1, 10, 11, 2, 3, 4, 7, 8] rfl (by decide)) rfl rfl hl.1 rfl (lv_room (Nat.le_of_ble_eq_true rfl)) d_MO_act_163 ⟨Nat.le_of_ble_eq_true rfl, Nat.le_of_ble_eq_true rfl⟩) hP hD hS hA [9, 0, 1, 10, 11, 2, 3, 4, 7, 8] [5, 6] rfl rfl (by decide) (by decide) (fun v u H locs hok hP hD hS => ?_) (fun x C u H locs hbad hxx hP hD hS => ?_)
              · skip
                obtain ⟨ev_517, tp_518, lk_519, ss_520, so_521, rs_522, pt_523, ot_524, one_525, two_526, bss_527, wts_528, snd_529, nbr_530, lts_531⟩ := u
                obtain ⟨rfl, hp_533⟩ := hok
                obtain ⟨hsnd_534, hMI_535, hev_536, hme_537, hot_538, hPv_539⟩ : (bln snd_529) ∧ (MI df Gc trm one_525 two_526 spn tp_518 lk_519 rs_522 pt_523) ∧ (ev_517 ≤ 40) ∧ (me bss_527 wts_528 ev_517 tp_518 0) ∧ (ot_524 ≤ ot + 12) ∧ ((ss_520 = ss + 1 ∨ (ss_520 = ss ∧ ¬ so_521 = 0 ∧ ot_524 = ot) ∨ (ss_520 = ss ∧ so_521 = so ∧ ot_524 = ot ∧ ms pt_523 ev_517 snd_529 tp_518 < ms pt ev snd tp))) := hp_533
                have hP : va_P D classes [((f 22), .inl (cZ, 400, .inl mrk)), ((f 23), .inl (cI, 810, .inl wlk)), (h0, .inr (8, mS f tn rm ln lx at_ bd fs dp on os bn df th tp_518 mo_ ev_517 ss_520 so_521 lk_519 rs_522 pt_523 ot_524 cl)), ((f 20), .inl (cL, 400, .inr (.inl one_525))), ((f 21), .inl (cL, 400, .inr (.inl two_526))), ((f 25), .inl (cI, 41, .inl bss_527)), ((f 26), .inl (cI, 41, .inl wts_528)), ((f 27), .inl (cZ, 41, .inl snd_529)), ((f 28), .inl (cI, 41, .inl nbr_530)), ((f 29), .inl (cI, 200, .inl lts_531)), ((f 24), .inl (cI, 150, .inl spn)), ((f 18), .inl (cL, 9, .inr (.inl trm)))] H := hP
                have hD : va_D A [((f 22), .inl (cZ, 400, .inl mrk)), ((f 23), .inl (cI, 810, .inl wlk)), (h0, .inr (8, mS f tn rm ln lx at_ bd fs dp on os bn df th tp_518 mo_ ev_517 ss_520 so_521 lk_519 rs_522 pt_523 ot_524 cl)), ((f 20), .inl (cL, 400, .inr (.inl one_525))), ((f 21), .inl (cL, 400, .inr (.inl two_526))), ((f 25), .inl (cI, 41, .inl bss_527)), ((f 26), .inl (cI, 41, .inl wts_528)), ((f 27), .inl (cZ, 41, .inl snd_529)), ((f 28), .inl (cI, 41, .inl nbr_530)), ((f 29), .inl (cI, 200, .inl lts_531)), ((f 24), .inl (cI, 150, .inl spn)), ((f 18), .inl (cL, 9, .inr (.inl trm)))] := hD
                refine W.eq (g2 := F0 m 166 ls []) rfl ?_
                refine lv_goto (tgt := 195) hx hb d_MO_act_166 (by decide) ?_
                exact em_vret hx hb hr hlocks hP hD hK hS (ev_517, tp_518, lk_519, ss_520, so_521, rs_522, pt_523, ot_524, one_525, two_526, bss_527, wts_528, snd_529, nbr_530, lts_531, mrk, wlk) [2, 3, 4, 5, 6, 7, 8, 9, 0, 1, 10, 11] (by decide) rfl ⟨rfl, ⟨hsnd_534, hmrk, (show ∃ G' : Nat → Prop, MI df G' trm one_525 two_526 spn tp_518 lk_519 rs_522 pt_523 ∧ ev_517 ≤ 40 ∧ me bss_527 wts_528 ev_517 tp_518 0 ∧ ot_524 ≤ ot + 12 ∧ (ss_520 = ss + 1 ∨ (ss_520 = ss ∧ ¬ so_521 = 0 ∧ ot_524 = ot) ∨ (ss_520 = ss ∧ so_521 = so ∧ ot_524 = ot ∧ ms pt_523 ev_517 snd_529 tp_518 < ms pt ev snd tp)) from ⟨Gc, hMI_535, hev_536, hme_537, hot_538, hPv_539⟩)⟩⟩ d_MO_act_195
              · skip
                exact hbad.elim
        · skip
          exact absurd (hb_1.symm.trans hb_495) (by decide)
      · skip
        exact hbad.elim
    · skip
      have hl : lv_has ls 4 [(2, .int 13), (1, .int (wkind lk)), (0, .ref h0)] := hl
      refine lv_aload_n hx hb d_MO_act_25 rfl (lv_at hl 2 rfl) ?_
      refine va_get (D := D) (ci := 8) (v := .int (nI tp)) (C := rn_MO) (T := fl_MO) (N := 55) hx hb hG in_MO hown hK hP 0 rfl rfl 38 (by decide) (hG _ k_1229) (fun _ h9 => h9) rfl d_MO_act_26 ?_
      refine lv_aload_n hx hb d_MO_act_29 rfl (lv_at hl 2 rfl) ?_
      refine em_call (wr := [((f 20), .inl (cL, 400, .inr (.inl one))), ((f 21), .inl (cL, 400, .inr (.inl two))), ((f 27), .inl (cZ, 41, .inl snd)), ((f 28), .inl (cI, 41, .inl nbr)), ((f 29), .inl (cI, 200, .inl lts)), ((f 22), .inl (cZ, 400, .inl mrk)), ((f 23), .inl (cI, 810, .inl wlk)), ((f 24), .inl (cI, 150, .inl spn)), ((f 18), .inl (cL, 9, .inr (.inl trm)))]) (em_runV (As := []) (rest := [.int (nI tp)]) ⟨hx, hb, hml, hown, hG⟩ (mo_below l D cI cL cZ cC f h0 tn rm ln lx at_ bd fs dp on os bn df th tp mo_ ev ss so lk rs pt ot cl bss wts _ hme hev hnt) (cwV 0 hG (gd_V k_1573 k_1575 k_90 k_116 k_1576) rfl rfl rfl (by decide +kernel) ⟨Nat.le_of_ble_eq_true rfl, Nat.le_of_ble_eq_true rfl⟩) (tw_V (q0 := 0) hP hD hK hE hst hS rfl rfl [0, 3, 4] rfl (by decide)) rfl rfl hl.1 rfl (lv_room (Nat.le_of_ble_eq_true rfl)) d_MO_act_30 ⟨Nat.le_of_ble_eq_true rfl, Nat.le_of_ble_eq_true rfl⟩) hP hD hS hA [0, 3, 4] [1, 2, 5, 6, 7, 8, 9, 10, 11] rfl rfl (by decide) (by decide) (fun v u H locs hok hP hD hS => ?_) (fun x C u H locs hbad hxx hP hD hS => ?_)
      · skip
        obtain ⟨r_541, rfl, hp_542⟩ := hok
        have hres_543 : (∃ mq : Nat, r_541 = nI mq ∧ mq ≤ tp ∧ (ev = 0 → mq = 0) ∧ (1 ≤ ev → bss (ev - 1) = nI mq) ∧ me bss wts ev mq 0) := hp_542
        obtain ⟨mb, rfl, hm1, hm2, hm3, hm4⟩ := hres_543
        have hP : va_P D classes [((f 20), .inl (cL, 400, .inr (.inl one))), ((f 21), .inl (cL, 400, .inr (.inl two))), ((f 27), .inl (cZ, 41, .inl snd)), ((f 28), .inl (cI, 41, .inl nbr)), ((f 29), .inl (cI, 200, .inl lts)), ((f 22), .inl (cZ, 400, .inl mrk)), ((f 23), .inl (cI, 810, .inl wlk)), ((f 24), .inl (cI, 150, .inl spn)), ((f 18), .inl (cL, 9, .inr (.inl trm))), (h0, .inr (8, mS f tn rm ln lx at_ bd fs dp on os bn df th tp mo_ ev ss so lk rs pt ot cl)), ((f 25), .inl (cI, 41, .inl bss)), ((f 26), .inl (cI, 41, .inl wts))] H := hP
        have hD : va_D A [((f 20), .inl (cL, 400, .inr (.inl one))), ((f 21), .inl (cL, 400, .inr (.inl two))), ((f 27), .inl (cZ, 41, .inl snd)), ((f 28), .inl (cI, 41, .inl nbr)), ((f 29), .inl (cI, 200, .inl lts)), ((f 22), .inl (cZ, 400, .inl mrk)), ((f 23), .inl (cI, 810, .inl wlk)), ((f 24), .inl (cI, 150, .inl spn)), ((f 18), .inl (cL, 9, .inr (.inl trm))), (h0, .inr (8, mS f tn rm ln lx at_ bd fs dp on os bn df th tp mo_ ev ss so lk rs pt ot cl)), ((f 25), .inl (cI, 41, .inl bss)), ((f 26), .inl (cI, 41, .inl wts))] := hD
        refine W.eq (g2 := F0 m 33 ls [.int (nI mb), .int (nI tp)]) rfl ?_
        refine lw_isub (a := tp) (b := mb) hx hb d_MO_act_33 (by omega) ?_
        refine lv_istore_n (lv' := [(3, .int (nI (tp - mb))), (2, .int 13), (1, .int (wkind lk)), (0, .ref h0)]) hx hb d_MO_act_34 rfl hl (Nat.le_of_ble_eq_true rfl) rfl (fun ls hl => ?_)
        refine lv_iload_n hx hb d_MO_act_35 rfl (lv_at hl 2 rfl) ?_
        refine lv_iconst (v := 1) hx hb d_MO_act_36 (by decide) ?_
        refine lv_icmp_ne (tgt := 69) hx hb d_MO_act_37 (by decide) (fun hb_544 => ?_) (fun hb_544 => ?_)
        · skip
          refine lv_iload_n hx hb d_MO_act_69 rfl (lv_at hl 2 rfl) ?_
          refine lv_if_eq (tgt := 85) hx hb d_MO_act_70 (by decide) (fun hb_545 => ?_) (fun hb_545 => ?_)
          · skip
            exact absurd (hb_1.symm.trans hb_545) (by decide)
          · skip
            refine lv_iload_n hx hb d_MO_act_73 rfl (lv_at hl 1 rfl) ?_
            refine lv_bipush (v := 17) hx hb d_MO_act_74 (by decide) ?_
            refine lv_icmp_eq (tgt := 85) hx hb d_MO_act_76 (by decide) (fun hbr => absurd hbr (by decide)) (fun hbr => ?_)
            refine lv_iload_n hx hb d_MO_act_79 rfl (lv_at hl 1 rfl) ?_
            refine lv_bipush (v := 20) hx hb d_MO_act_80 (by decide) ?_
            refine lv_icmp_le (tgt := 106) hx hb d_MO_act_82 (by decide) (fun hbr => ?_) (fun hbr => absurd (by decide) hbr)
            refine lv_iload_n hx hb d_MO_act_106 rfl (lv_at hl 1 rfl) ?_
            refine lv_bipush (v := 16) hx hb d_MO_act_107 (by decide) ?_
            refine lv_icmp_ne (tgt := 152) hx hb d_MO_act_109 (by decide) (fun hbr => ?_) (fun hbr => absurd hbr (by decide))
            refine lv_iload_n hx hb d_MO_act_152 rfl (lv_at hl 0 rfl) ?_
            refine lv_iload_n hx hb d_MO_act_153 rfl (lv_at hl 1 rfl) ?_
            refine W.callR (W.runS (As := [.int 13]) (rest := [.int (nI (tp - mb))]) ⟨hx, hb, hml, hown, hG⟩ (mo_needs l D cI cL cZ cC 13 ) (cwS 1 hG (gd_S k_1621 k_1622 k_116 k_1623) rfl rfl rfl (by decide +kernel) ⟨Nat.le_of_ble_eq_true rfl, Nat.le_of_ble_eq_true rfl⟩) (wq_S hP hK [] rfl) rfl rfl hl.1 rfl (lv_room (Nat.le_of_ble_eq_true rfl)) d_MO_act_154 ⟨Nat.le_of_ble_eq_true rfl, Nat.le_of_ble_eq_true rfl⟩) ?_
            refine W.eq (g2 := F0 m 157 ls [.int (mneeds (13 : Int32)), .int (nI (tp - mb))]) rfl ?_
            refine W.eq (g2 := F0 m 157 ls [.int 2, .int (nI (tp - mb))]) (by rw [show mneeds 13 = 2 by decide]) ?_
            refine lv_icmp_ge (tgt := 169) hx hb d_MO_act_157 (by decide) (fun hb_546 => ?_) (fun hb_546 => ?_)
            · skip
              have hn_547 : 2 ≤ (tp - mb) := (nI_leI (a := 2) (b := tp - mb) (by omega) (by omega)).mp hb_546
              refine lv_iload_n hx hb d_MO_act_169 rfl (lv_at hl 1 rfl) ?_
              refine lv_bipush (v := 10) hx hb d_MO_act_170 (by decide) ?_
              refine lv_icmp_ge (tgt := 183) hx hb d_MO_act_172 (by decide) (fun hbr => ?_) (fun hbr => absurd (by decide) hbr)
              refine lv_aload_n hx hb d_MO_act_183 rfl (lv_at hl 3 rfl) ?_
              refine lv_iload_n hx hb d_MO_act_184 rfl (lv_at hl 1 rfl) ?_
              refine lv_aload_n hx hb d_MO_act_185 rfl (lv_at hl 3 rfl) ?_
              refine lv_iconst (v := 0) hx hb d_MO_act_186 (by decide) ?_
              refine em_call (wr := [((f 27), .inl (cZ, 41, .inl snd)), ((f 28), .inl (cI, 41, .inl nbr)), ((f 29), .inl (cI, 200, .inl lts)), ((f 22), .inl (cZ, 400, .inl mrk)), ((f 23), .inl (cI, 810, .inl wlk)), ((f 25), .inl (cI, 41, .inl bss)), ((f 26), .inl (cI, 41, .inl wts))]) (em_runV (As := [.int (nI 0)]) (rest := [.int 13, .ref h0]) ⟨hx, hb, hml, hown, hG⟩ (mo_argument l D cI cL cZ cC f h0 tn rm ln lx at_ bd fs dp on os bn df th tp mo_ ev ss so lk rs pt ot cl two spn trm one Gc 0 _ (by omega) (by omega) hHG hsp hnt) (cwV 1 hG (gd_V k_1581 k_1583 k_92 k_116 k_1584) rfl rfl rfl (by decide +kernel) ⟨Nat.le_of_ble_eq_true rfl, Nat.le_of_ble_eq_true rfl⟩) (tw_V (q0 := 9) hP hD hK hE hst hS rfl rfl [9, 1, 7, 8, 0] rfl (by decide)) rfl rfl hl.1 rfl (lv_room (Nat.le_of_ble_eq_true rfl)) d_MO_act_187 ⟨Nat.le_of_ble_eq_true rfl, Nat.le_of_ble_eq_true rfl⟩) hP hD hS hA [9, 1, 7, 8, 0] [2, 3, 4, 5, 6, 10, 11] rfl rfl (by decide) (by decide) (fun v u H locs hok hP hD hS => ?_) (fun x C u H locs hbad hxx hP hD hS => ?_)
              · skip
                obtain ⟨r_548, rfl, hp_549⟩ := hok
                have hres_550 : (okh df Gc r_548) := hp_549
                have hP : va_P D classes [((f 27), .inl (cZ, 41, .inl snd)), ((f 28), .inl (cI, 41, .inl nbr)), ((f 29), .inl (cI, 200, .inl lts)), ((f 22), .inl (cZ, 400, .inl mrk)), ((f 23), .inl (cI, 810, .inl wlk)), ((f 25), .inl (cI, 41, .inl bss)), ((f 26), .inl (cI, 41, .inl wts)), (h0, .inr (8, mS f tn rm ln lx at_ bd fs dp on os bn df th tp mo_ ev ss so lk rs pt ot cl)), ((f 21), .inl (cL, 400, .inr (.inl two))), ((f 24), .inl (cI, 150, .inl spn)), ((f 18), .inl (cL, 9, .inr (.inl trm))), ((f 20), .inl (cL, 400, .inr (.inl one)))] H := hP
                have hD : va_D A [((f 27), .inl (cZ, 41, .inl snd)), ((f 28), .inl (cI, 41, .inl nbr)), ((f 29), .inl (cI, 200, .inl lts)), ((f 22), .inl (cZ, 400, .inl mrk)), ((f 23), .inl (cI, 810, .inl wlk)), ((f 25), .inl (cI, 41, .inl bss)), ((f 26), .inl (cI, 41, .inl wts)), (h0, .inr (8, mS f tn rm ln lx at_ bd fs dp on os bn df th tp mo_ ev ss so lk rs pt ot cl)), ((f 21), .inl (cL, 400, .inr (.inl two))), ((f 24), .inl (cI, 150, .inl spn)), ((f 18), .inl (cL, 9, .inr (.inl trm))), ((f 20), .inl (cL, 400, .inr (.inl one)))] := hD
                refine W.eq (g2 := F0 m 190 ls [.long r_548, .int 13, .ref h0]) rfl ?_
                refine lv_iconst (v := 0) hx hb d_MO_act_190 (by decide) ?_
                refine lv_iconst (v := 0) hx hb d_MO_act_191 (by decide) ?_
                refine em_call (wr := [((f 29), .inl (cI, 200, .inl lts)), ((f 22), .inl (cZ, 400, .inl mrk)), ((f 23), .inl (cI, 810, .inl wlk)), ((f 21), .inl (cL, 400, .inr (.inl two))), ((f 24), .inl (cI, 150, .inl spn)), ((f 18), .inl (cL, 9, .inr (.inl trm))), ((f 20), .inl (cL, 400, .inr (.inl one)))]) (em_runV (As := [.int (nI 13), .long r_548, .int 0, .int 0]) (rest := []) ⟨hx, hb, hml, hown, hG⟩ (mo_eval0 l D cI cL cZ cC f h0 tn rm ln lx at_ bd fs dp on os bn df th tp mo_ ev ss so lk rs pt ot cl bss wts snd nbr 13 r_548 0 _ hsnd (by decide) (by decide) (by decide) (by decide) (hm4.mono (by have hq := nd_or 13; omega)) hev hnt) (cwV 4 hG (gd_V k_1600 k_1602 k_96 k_116 k_1603) rfl rfl rfl (by decide +kernel) ⟨Nat.le_of_ble_eq_true rfl, Nat.le_of_ble_eq_true rfl⟩) (tw_V (q0 := 7) hP hD hK hE hst hS rfl rfl [7, 5, 6, 0, 1] rfl (by decide)) rfl rfl hl.1 rfl (lv_room (Nat.le_of_ble_eq_true rfl)) d_MO_act_192 ⟨Nat.le_of_ble_eq_true rfl, Nat.le_of_ble_eq_true rfl⟩) hP hD hS hA [7, 5, 6, 0, 1] [2, 3, 4, 8, 9, 10, 11] rfl rfl (by decide) (by decide) (fun v u H locs hok hP hD hS => ?_) (fun x C u H locs hbad hxx hP hD hS => ?_)
                · skip
                  obtain ⟨so_551, ev_552, lk_553, bss_554, wts_555, snd_556, nbr_557⟩ := u
                  obtain ⟨rfl, hp_559⟩ := hok
                  obtain ⟨hsnd_560, hme_561, hev_562, hE_563⟩ : (bln snd_556) ∧ (me bss_554 wts_555 ev_552 tp 0) ∧ (ev_552 ≤ 40) ∧ (((¬ so_551 = 0 ∧ ev_552 = ev ∧ lk_553 = lk) ∨ (so_551 = so ∧ ev_552 = ev + 1 ∧ lk_553 = r_548 ∧ fz snd_556 ev_552 = fz snd ev + 1))) := hp_559
                  have hP : va_P D classes [((f 29), .inl (cI, 200, .inl lts)), ((f 22), .inl (cZ, 400, .inl mrk)), ((f 23), .inl (cI, 810, .inl wlk)), ((f 21), .inl (cL, 400, .inr (.inl two))), ((f 24), .inl (cI, 150, .inl spn)), ((f 18), .inl (cL, 9, .inr (.inl trm))), ((f 20), .inl (cL, 400, .inr (.inl one))), (h0, .inr (8, mS f tn rm ln lx at_ bd fs dp on os bn df th tp mo_ ev_552 ss so_551 lk_553 rs pt ot cl)), ((f 25), .inl (cI, 41, .inl bss_554)), ((f 26), .inl (cI, 41, .inl wts_555)), ((f 27), .inl (cZ, 41, .inl snd_556)), ((f 28), .inl (cI, 41, .inl nbr_557))] H := hP
                  have hD : va_D A [((f 29), .inl (cI, 200, .inl lts)), ((f 22), .inl (cZ, 400, .inl mrk)), ((f 23), .inl (cI, 810, .inl wlk)), ((f 21), .inl (cL, 400, .inr (.inl two))), ((f 24), .inl (cI, 150, .inl spn)), ((f 18), .inl (cL, 9, .inr (.inl trm))), ((f 20), .inl (cL, 400, .inr (.inl one))), (h0, .inr (8, mS f tn rm ln lx at_ bd fs dp on os bn df th tp mo_ ev_552 ss so_551 lk_553 rs pt ot cl)), ((f 25), .inl (cI, 41, .inl bss_554)), ((f 26), .inl (cI, 41, .inl wts_555)), ((f 27), .inl (cZ, 41, .inl snd_556)), ((f 28), .inl (cI, 41, .inl nbr_557))] := hD
                  refine W.eq (g2 := F0 m 195 ls []) rfl ?_
                  exact em_vret hx hb hr hlocks hP hD hK hS (ev_552, tp, lk_553, ss, so_551, rs, pt, ot, one, two, bss_554, wts_555, snd_556, nbr_557, lts, mrk, wlk) [7, 6, 3, 8, 9, 10, 11, 0, 1, 2, 4, 5] (by decide) rfl ⟨rfl, ⟨hsnd_560, hmrk, (show ∃ G' : Nat → Prop, MI df G' trm one two spn tp lk_553 rs pt ∧ ev_552 ≤ 40 ∧ me bss_554 wts_555 ev_552 tp 0 ∧ ot ≤ ot + 12 ∧ (ss = ss + 1 ∨ (ss = ss ∧ ¬ so_551 = 0 ∧ ot = ot) ∨ (ss = ss ∧ so_551 = so ∧ ot = ot ∧ ms pt ev_552 snd_556 tp < ms pt ev snd tp)) from ⟨Gc, ⟨hHG, (by rcases hE_563 with ⟨_, _, q⟩ | ⟨_, _, q, _⟩; rw [q]; exact hlk; rw [q]; exact hres_550), hrs, htp, hsp⟩, hev_562, hme_561, by omega, (by rcases hE_563 with ⟨q, _, _⟩ | ⟨q1, q2, q3, q4⟩; exact Or.inr (Or.inl ⟨rfl, q, rfl⟩); exact Or.inr (Or.inr ⟨rfl, q1, rfl, by unfold ms; omega⟩))⟩)⟩⟩ d_MO_act_195
                · skip
                  exact hbad.elim
              · skip
                exact hbad.elim
            · skip
              have hn_565 : ¬ 2 ≤ (tp - mb) := fun h => hb_546 ((nI_leI (a := 2) (b := tp - mb) (by omega) (by omega)).mpr h)
              refine lv_aload_n hx hb d_MO_act_160 rfl (lv_at hl 3 rfl) ?_
              refine lv_iconst (v := 0) hx hb d_MO_act_161 (by decide) ?_
              refine lv_iconst (v := 1) hx hb d_MO_act_162 (by decide) ?_
              refine em_call (wr := [((f 22), .inl (cZ, 400, .inl mrk)), ((f 23), .inl (cI, 810, .inl wlk))]) (em_runV (As := [.int 0, .int 1]) (rest := []) ⟨hx, hb, hml, hown, hG⟩ (mo_val01 l D cI cL cZ cC f h0 tn rm ln lx at_ bd fs dp on os bn df th tp mo_ ev ss so lk rs pt ot cl one two bss wts snd nbr lts spn trm Gc mb _ hsnd hMI hev hm1 hm2 hm3 hm4 hot hnt) (cwV 2 hG (gd_V k_1577 k_1579 k_91 k_116 k_1580) rfl rfl rfl (by decide +kernel) ⟨Nat.le_of_ble_eq_true rfl, Nat.le_of_ble_eq_true rfl⟩) (tw_V (q0 := 9) hP hD hK hE hst hS rfl rfl [9, 0, 1, 10, 11, 2, 3, 4, 7, 8] rfl (by decide)) rfl rfl hl.1 rfl (lv_room (Nat.le_of_ble_eq_true rfl)) d_MO_act_163 ⟨Nat.le_of_ble_eq_true rfl, Nat.le_of_ble_eq_true rfl⟩) hP hD hS hA [9, 0, 1, 10, 11, 2, 3, 4, 7, 8] [5, 6] rfl rfl (by decide) (by decide) (fun v u H locs hok hP hD hS => ?_) (fun x C u H locs hbad hxx hP hD hS => ?_)
              · skip
                obtain ⟨ev_566, tp_567, lk_568, ss_569, so_570, rs_571, pt_572, ot_573, one_574, two_575, bss_576, wts_577, snd_578, nbr_579, lts_580⟩ := u
                obtain ⟨rfl, hp_582⟩ := hok
                obtain ⟨hsnd_583, hMI_584, hev_585, hme_586, hot_587, hPv_588⟩ : (bln snd_578) ∧ (MI df Gc trm one_574 two_575 spn tp_567 lk_568 rs_571 pt_572) ∧ (ev_566 ≤ 40) ∧ (me bss_576 wts_577 ev_566 tp_567 0) ∧ (ot_573 ≤ ot + 12) ∧ ((ss_569 = ss + 1 ∨ (ss_569 = ss ∧ ¬ so_570 = 0 ∧ ot_573 = ot) ∨ (ss_569 = ss ∧ so_570 = so ∧ ot_573 = ot ∧ ms pt_572 ev_566 snd_578 tp_567 < ms pt ev snd tp))) := hp_582
                have hP : va_P D classes [((f 22), .inl (cZ, 400, .inl mrk)), ((f 23), .inl (cI, 810, .inl wlk)), (h0, .inr (8, mS f tn rm ln lx at_ bd fs dp on os bn df th tp_567 mo_ ev_566 ss_569 so_570 lk_568 rs_571 pt_572 ot_573 cl)), ((f 20), .inl (cL, 400, .inr (.inl one_574))), ((f 21), .inl (cL, 400, .inr (.inl two_575))), ((f 25), .inl (cI, 41, .inl bss_576)), ((f 26), .inl (cI, 41, .inl wts_577)), ((f 27), .inl (cZ, 41, .inl snd_578)), ((f 28), .inl (cI, 41, .inl nbr_579)), ((f 29), .inl (cI, 200, .inl lts_580)), ((f 24), .inl (cI, 150, .inl spn)), ((f 18), .inl (cL, 9, .inr (.inl trm)))] H := hP
                have hD : va_D A [((f 22), .inl (cZ, 400, .inl mrk)), ((f 23), .inl (cI, 810, .inl wlk)), (h0, .inr (8, mS f tn rm ln lx at_ bd fs dp on os bn df th tp_567 mo_ ev_566 ss_569 so_570 lk_568 rs_571 pt_572 ot_573 cl)), ((f 20), .inl (cL, 400, .inr (.inl one_574))), ((f 21), .inl (cL, 400, .inr (.inl two_575))), ((f 25), .inl (cI, 41, .inl bss_576)), ((f 26), .inl (cI, 41, .inl wts_577)), ((f 27), .inl (cZ, 41, .inl snd_578)), ((f 28), .inl (cI, 41, .inl nbr_579)), ((f 29), .inl (cI, 200, .inl lts_580)), ((f 24), .inl (cI, 150, .inl spn)), ((f 18), .inl (cL, 9, .inr (.inl trm)))] := hD
                refine W.eq (g2 := F0 m 166 ls []) rfl ?_
                refine lv_goto (tgt := 195) hx hb d_MO_act_166 (by decide) ?_
                exact em_vret hx hb hr hlocks hP hD hK hS (ev_566, tp_567, lk_568, ss_569, so_570, rs_571, pt_572, ot_573, one_574, two_575, bss_576, wts_577, snd_578, nbr_579, lts_580, mrk, wlk) [2, 3, 4, 5, 6, 7, 8, 9, 0, 1, 10, 11] (by decide) rfl ⟨rfl, ⟨hsnd_583, hmrk, (show ∃ G' : Nat → Prop, MI df G' trm one_574 two_575 spn tp_567 lk_568 rs_571 pt_572 ∧ ev_566 ≤ 40 ∧ me bss_576 wts_577 ev_566 tp_567 0 ∧ ot_573 ≤ ot + 12 ∧ (ss_569 = ss + 1 ∨ (ss_569 = ss ∧ ¬ so_570 = 0 ∧ ot_573 = ot) ∨ (ss_569 = ss ∧ so_570 = so ∧ ot_573 = ot ∧ ms pt_572 ev_566 snd_578 tp_567 < ms pt ev snd tp)) from ⟨Gc, hMI_584, hev_585, hme_586, hot_587, hPv_588⟩)⟩⟩ d_MO_act_195
              · skip
                exact hbad.elim
        · skip
          exact absurd (hb_1.symm.trans hb_544) (by decide)
      · skip
        exact hbad.elim
    · skip
      have hl : lv_has ls 4 [(2, .int 14), (1, .int (wkind lk)), (0, .ref h0)] := hl
      refine lv_aload_n hx hb d_MO_act_25 rfl (lv_at hl 2 rfl) ?_
      refine va_get (D := D) (ci := 8) (v := .int (nI tp)) (C := rn_MO) (T := fl_MO) (N := 55) hx hb hG in_MO hown hK hP 0 rfl rfl 38 (by decide) (hG _ k_1229) (fun _ h9 => h9) rfl d_MO_act_26 ?_
      refine lv_aload_n hx hb d_MO_act_29 rfl (lv_at hl 2 rfl) ?_
      refine em_call (wr := [((f 20), .inl (cL, 400, .inr (.inl one))), ((f 21), .inl (cL, 400, .inr (.inl two))), ((f 27), .inl (cZ, 41, .inl snd)), ((f 28), .inl (cI, 41, .inl nbr)), ((f 29), .inl (cI, 200, .inl lts)), ((f 22), .inl (cZ, 400, .inl mrk)), ((f 23), .inl (cI, 810, .inl wlk)), ((f 24), .inl (cI, 150, .inl spn)), ((f 18), .inl (cL, 9, .inr (.inl trm)))]) (em_runV (As := []) (rest := [.int (nI tp)]) ⟨hx, hb, hml, hown, hG⟩ (mo_below l D cI cL cZ cC f h0 tn rm ln lx at_ bd fs dp on os bn df th tp mo_ ev ss so lk rs pt ot cl bss wts _ hme hev hnt) (cwV 0 hG (gd_V k_1573 k_1575 k_90 k_116 k_1576) rfl rfl rfl (by decide +kernel) ⟨Nat.le_of_ble_eq_true rfl, Nat.le_of_ble_eq_true rfl⟩) (tw_V (q0 := 0) hP hD hK hE hst hS rfl rfl [0, 3, 4] rfl (by decide)) rfl rfl hl.1 rfl (lv_room (Nat.le_of_ble_eq_true rfl)) d_MO_act_30 ⟨Nat.le_of_ble_eq_true rfl, Nat.le_of_ble_eq_true rfl⟩) hP hD hS hA [0, 3, 4] [1, 2, 5, 6, 7, 8, 9, 10, 11] rfl rfl (by decide) (by decide) (fun v u H locs hok hP hD hS => ?_) (fun x C u H locs hbad hxx hP hD hS => ?_)
      · skip
        obtain ⟨r_590, rfl, hp_591⟩ := hok
        have hres_592 : (∃ mq : Nat, r_590 = nI mq ∧ mq ≤ tp ∧ (ev = 0 → mq = 0) ∧ (1 ≤ ev → bss (ev - 1) = nI mq) ∧ me bss wts ev mq 0) := hp_591
        obtain ⟨mb, rfl, hm1, hm2, hm3, hm4⟩ := hres_592
        have hP : va_P D classes [((f 20), .inl (cL, 400, .inr (.inl one))), ((f 21), .inl (cL, 400, .inr (.inl two))), ((f 27), .inl (cZ, 41, .inl snd)), ((f 28), .inl (cI, 41, .inl nbr)), ((f 29), .inl (cI, 200, .inl lts)), ((f 22), .inl (cZ, 400, .inl mrk)), ((f 23), .inl (cI, 810, .inl wlk)), ((f 24), .inl (cI, 150, .inl spn)), ((f 18), .inl (cL, 9, .inr (.inl trm))), (h0, .inr (8, mS f tn rm ln lx at_ bd fs dp on os bn df th tp mo_ ev ss so lk rs pt ot cl)), ((f 25), .inl (cI, 41, .inl bss)), ((f 26), .inl (cI, 41, .inl wts))] H := hP
        have hD : va_D A [((f 20), .inl (cL, 400, .inr (.inl one))), ((f 21), .inl (cL, 400, .inr (.inl two))), ((f 27), .inl (cZ, 41, .inl snd)), ((f 28), .inl (cI, 41, .inl nbr)), ((f 29), .inl (cI, 200, .inl lts)), ((f 22), .inl (cZ, 400, .inl mrk)), ((f 23), .inl (cI, 810, .inl wlk)), ((f 24), .inl (cI, 150, .inl spn)), ((f 18), .inl (cL, 9, .inr (.inl trm))), (h0, .inr (8, mS f tn rm ln lx at_ bd fs dp on os bn df th tp mo_ ev ss so lk rs pt ot cl)), ((f 25), .inl (cI, 41, .inl bss)), ((f 26), .inl (cI, 41, .inl wts))] := hD
        refine W.eq (g2 := F0 m 33 ls [.int (nI mb), .int (nI tp)]) rfl ?_
        refine lw_isub (a := tp) (b := mb) hx hb d_MO_act_33 (by omega) ?_
        refine lv_istore_n (lv' := [(3, .int (nI (tp - mb))), (2, .int 14), (1, .int (wkind lk)), (0, .ref h0)]) hx hb d_MO_act_34 rfl hl (Nat.le_of_ble_eq_true rfl) rfl (fun ls hl => ?_)
        refine lv_iload_n hx hb d_MO_act_35 rfl (lv_at hl 2 rfl) ?_
        refine lv_iconst (v := 1) hx hb d_MO_act_36 (by decide) ?_
        refine lv_icmp_ne (tgt := 69) hx hb d_MO_act_37 (by decide) (fun hb_593 => ?_) (fun hb_593 => ?_)
        · skip
          refine lv_iload_n hx hb d_MO_act_69 rfl (lv_at hl 2 rfl) ?_
          refine lv_if_eq (tgt := 85) hx hb d_MO_act_70 (by decide) (fun hb_594 => ?_) (fun hb_594 => ?_)
          · skip
            exact absurd (hb_1.symm.trans hb_594) (by decide)
          · skip
            refine lv_iload_n hx hb d_MO_act_73 rfl (lv_at hl 1 rfl) ?_
            refine lv_bipush (v := 17) hx hb d_MO_act_74 (by decide) ?_
            refine lv_icmp_eq (tgt := 85) hx hb d_MO_act_76 (by decide) (fun hbr => absurd hbr (by decide)) (fun hbr => ?_)
            refine lv_iload_n hx hb d_MO_act_79 rfl (lv_at hl 1 rfl) ?_
            refine lv_bipush (v := 20) hx hb d_MO_act_80 (by decide) ?_
            refine lv_icmp_le (tgt := 106) hx hb d_MO_act_82 (by decide) (fun hbr => ?_) (fun hbr => absurd (by decide) hbr)
            refine lv_iload_n hx hb d_MO_act_106 rfl (lv_at hl 1 rfl) ?_
            refine lv_bipush (v := 16) hx hb d_MO_act_107 (by decide) ?_
            refine lv_icmp_ne (tgt := 152) hx hb d_MO_act_109 (by decide) (fun hbr => ?_) (fun hbr => absurd hbr (by decide))
            refine lv_iload_n hx hb d_MO_act_152 rfl (lv_at hl 0 rfl) ?_
            refine lv_iload_n hx hb d_MO_act_153 rfl (lv_at hl 1 rfl) ?_
            refine W.callR (W.runS (As := [.int 14]) (rest := [.int (nI (tp - mb))]) ⟨hx, hb, hml, hown, hG⟩ (mo_needs l D cI cL cZ cC 14 ) (cwS 1 hG (gd_S k_1621 k_1622 k_116 k_1623) rfl rfl rfl (by decide +kernel) ⟨Nat.le_of_ble_eq_true rfl, Nat.le_of_ble_eq_true rfl⟩) (wq_S hP hK [] rfl) rfl rfl hl.1 rfl (lv_room (Nat.le_of_ble_eq_true rfl)) d_MO_act_154 ⟨Nat.le_of_ble_eq_true rfl, Nat.le_of_ble_eq_true rfl⟩) ?_
            refine W.eq (g2 := F0 m 157 ls [.int (mneeds (14 : Int32)), .int (nI (tp - mb))]) rfl ?_
            refine W.eq (g2 := F0 m 157 ls [.int 2, .int (nI (tp - mb))]) (by rw [show mneeds 14 = 2 by decide]) ?_
            refine lv_icmp_ge (tgt := 169) hx hb d_MO_act_157 (by decide) (fun hb_595 => ?_) (fun hb_595 => ?_)
            · skip
              have hn_596 : 2 ≤ (tp - mb) := (nI_leI (a := 2) (b := tp - mb) (by omega) (by omega)).mp hb_595
              refine lv_iload_n hx hb d_MO_act_169 rfl (lv_at hl 1 rfl) ?_
              refine lv_bipush (v := 10) hx hb d_MO_act_170 (by decide) ?_
              refine lv_icmp_ge (tgt := 183) hx hb d_MO_act_172 (by decide) (fun hbr => ?_) (fun hbr => absurd (by decide) hbr)
              refine lv_aload_n hx hb d_MO_act_183 rfl (lv_at hl 3 rfl) ?_
              refine lv_iload_n hx hb d_MO_act_184 rfl (lv_at hl 1 rfl) ?_
              refine lv_aload_n hx hb d_MO_act_185 rfl (lv_at hl 3 rfl) ?_
              refine lv_iconst (v := 0) hx hb d_MO_act_186 (by decide) ?_
              refine em_call (wr := [((f 27), .inl (cZ, 41, .inl snd)), ((f 28), .inl (cI, 41, .inl nbr)), ((f 29), .inl (cI, 200, .inl lts)), ((f 22), .inl (cZ, 400, .inl mrk)), ((f 23), .inl (cI, 810, .inl wlk)), ((f 25), .inl (cI, 41, .inl bss)), ((f 26), .inl (cI, 41, .inl wts))]) (em_runV (As := [.int (nI 0)]) (rest := [.int 14, .ref h0]) ⟨hx, hb, hml, hown, hG⟩ (mo_argument l D cI cL cZ cC f h0 tn rm ln lx at_ bd fs dp on os bn df th tp mo_ ev ss so lk rs pt ot cl two spn trm one Gc 0 _ (by omega) (by omega) hHG hsp hnt) (cwV 1 hG (gd_V k_1581 k_1583 k_92 k_116 k_1584) rfl rfl rfl (by decide +kernel) ⟨Nat.le_of_ble_eq_true rfl, Nat.le_of_ble_eq_true rfl⟩) (tw_V (q0 := 9) hP hD hK hE hst hS rfl rfl [9, 1, 7, 8, 0] rfl (by decide)) rfl rfl hl.1 rfl (lv_room (Nat.le_of_ble_eq_true rfl)) d_MO_act_187 ⟨Nat.le_of_ble_eq_true rfl, Nat.le_of_ble_eq_true rfl⟩) hP hD hS hA [9, 1, 7, 8, 0] [2, 3, 4, 5, 6, 10, 11] rfl rfl (by decide) (by decide) (fun v u H locs hok hP hD hS => ?_) (fun x C u H locs hbad hxx hP hD hS => ?_)
              · skip
                obtain ⟨r_597, rfl, hp_598⟩ := hok
                have hres_599 : (okh df Gc r_597) := hp_598
                have hP : va_P D classes [((f 27), .inl (cZ, 41, .inl snd)), ((f 28), .inl (cI, 41, .inl nbr)), ((f 29), .inl (cI, 200, .inl lts)), ((f 22), .inl (cZ, 400, .inl mrk)), ((f 23), .inl (cI, 810, .inl wlk)), ((f 25), .inl (cI, 41, .inl bss)), ((f 26), .inl (cI, 41, .inl wts)), (h0, .inr (8, mS f tn rm ln lx at_ bd fs dp on os bn df th tp mo_ ev ss so lk rs pt ot cl)), ((f 21), .inl (cL, 400, .inr (.inl two))), ((f 24), .inl (cI, 150, .inl spn)), ((f 18), .inl (cL, 9, .inr (.inl trm))), ((f 20), .inl (cL, 400, .inr (.inl one)))] H := hP
                have hD : va_D A [((f 27), .inl (cZ, 41, .inl snd)), ((f 28), .inl (cI, 41, .inl nbr)), ((f 29), .inl (cI, 200, .inl lts)), ((f 22), .inl (cZ, 400, .inl mrk)), ((f 23), .inl (cI, 810, .inl wlk)), ((f 25), .inl (cI, 41, .inl bss)), ((f 26), .inl (cI, 41, .inl wts)), (h0, .inr (8, mS f tn rm ln lx at_ bd fs dp on os bn df th tp mo_ ev ss so lk rs pt ot cl)), ((f 21), .inl (cL, 400, .inr (.inl two))), ((f 24), .inl (cI, 150, .inl spn)), ((f 18), .inl (cL, 9, .inr (.inl trm))), ((f 20), .inl (cL, 400, .inr (.inl one)))] := hD
                refine W.eq (g2 := F0 m 190 ls [.long r_597, .int 14, .ref h0]) rfl ?_
                refine lv_iconst (v := 0) hx hb d_MO_act_190 (by decide) ?_
                refine lv_iconst (v := 0) hx hb d_MO_act_191 (by decide) ?_
                refine em_call (wr := [((f 29), .inl (cI, 200, .inl lts)), ((f 22), .inl (cZ, 400, .inl mrk)), ((f 23), .inl (cI, 810, .inl wlk)), ((f 21), .inl (cL, 400, .inr (.inl two))), ((f 24), .inl (cI, 150, .inl spn)), ((f 18), .inl (cL, 9, .inr (.inl trm))), ((f 20), .inl (cL, 400, .inr (.inl one)))]) (em_runV (As := [.int (nI 14), .long r_597, .int 0, .int 0]) (rest := []) ⟨hx, hb, hml, hown, hG⟩ (mo_eval0 l D cI cL cZ cC f h0 tn rm ln lx at_ bd fs dp on os bn df th tp mo_ ev ss so lk rs pt ot cl bss wts snd nbr 14 r_597 0 _ hsnd (by decide) (by decide) (by decide) (by decide) (hm4.mono (by have hq := nd_or 14; omega)) hev hnt) (cwV 4 hG (gd_V k_1600 k_1602 k_96 k_116 k_1603) rfl rfl rfl (by decide +kernel) ⟨Nat.le_of_ble_eq_true rfl, Nat.le_of_ble_eq_true rfl⟩) (tw_V (q0 := 7) hP hD hK hE hst hS rfl rfl [7, 5, 6, 0, 1] rfl (by decide)) rfl rfl hl.1 rfl (lv_room (Nat.le_of_ble_eq_true rfl)) d_MO_act_192 ⟨Nat.le_of_ble_eq_true rfl, Nat.le_of_ble_eq_true rfl⟩) hP hD hS hA [7, 5, 6, 0, 1] [2, 3, 4, 8, 9, 10, 11] rfl rfl (by decide) (by decide) (fun v u H locs hok hP hD hS => ?_) (fun x C u H locs hbad hxx hP hD hS => ?_)
                · skip
                  obtain ⟨so_600, ev_601, lk_602, bss_603, wts_604, snd_605, nbr_606⟩ := u
                  obtain ⟨rfl, hp_608⟩ := hok
                  obtain ⟨hsnd_609, hme_610, hev_611, hE_612⟩ : (bln snd_605) ∧ (me bss_603 wts_604 ev_601 tp 0) ∧ (ev_601 ≤ 40) ∧ (((¬ so_600 = 0 ∧ ev_601 = ev ∧ lk_602 = lk) ∨ (so_600 = so ∧ ev_601 = ev + 1 ∧ lk_602 = r_597 ∧ fz snd_605 ev_601 = fz snd ev + 1))) := hp_608
                  have hP : va_P D classes [((f 29), .inl (cI, 200, .inl lts)), ((f 22), .inl (cZ, 400, .inl mrk)), ((f 23), .inl (cI, 810, .inl wlk)), ((f 21), .inl (cL, 400, .inr (.inl two))), ((f 24), .inl (cI, 150, .inl spn)), ((f 18), .inl (cL, 9, .inr (.inl trm))), ((f 20), .inl (cL, 400, .inr (.inl one))), (h0, .inr (8, mS f tn rm ln lx at_ bd fs dp on os bn df th tp mo_ ev_601 ss so_600 lk_602 rs pt ot cl)), ((f 25), .inl (cI, 41, .inl bss_603)), ((f 26), .inl (cI, 41, .inl wts_604)), ((f 27), .inl (cZ, 41, .inl snd_605)), ((f 28), .inl (cI, 41, .inl nbr_606))] H := hP
                  have hD : va_D A [((f 29), .inl (cI, 200, .inl lts)), ((f 22), .inl (cZ, 400, .inl mrk)), ((f 23), .inl (cI, 810, .inl wlk)), ((f 21), .inl (cL, 400, .inr (.inl two))), ((f 24), .inl (cI, 150, .inl spn)), ((f 18), .inl (cL, 9, .inr (.inl trm))), ((f 20), .inl (cL, 400, .inr (.inl one))), (h0, .inr (8, mS f tn rm ln lx at_ bd fs dp on os bn df th tp mo_ ev_601 ss so_600 lk_602 rs pt ot cl)), ((f 25), .inl (cI, 41, .inl bss_603)), ((f 26), .inl (cI, 41, .inl wts_604)), ((f 27), .inl (cZ, 41, .inl snd_605)), ((f 28), .inl (cI, 41, .inl nbr_606))] := hD
                  refine W.eq (g2 := F0 m 195 ls []) rfl ?_
                  exact em_vret hx hb hr hlocks hP hD hK hS (ev_601, tp, lk_602, ss, so_600, rs, pt, ot, one, two, bss_603, wts_604, snd_605, nbr_606, lts, mrk, wlk) [7, 6, 3, 8, 9, 10, 11, 0, 1, 2, 4, 5] (by decide) rfl ⟨rfl, ⟨hsnd_609, hmrk, (show ∃ G' : Nat → Prop, MI df G' trm one two spn tp lk_602 rs pt ∧ ev_601 ≤ 40 ∧ me bss_603 wts_604 ev_601 tp 0 ∧ ot ≤ ot + 12 ∧ (ss = ss + 1 ∨ (ss = ss ∧ ¬ so_600 = 0 ∧ ot = ot) ∨ (ss = ss ∧ so_600 = so ∧ ot = ot ∧ ms pt ev_601 snd_605 tp < ms pt ev snd tp)) from ⟨Gc, ⟨hHG, (by rcases hE_612 with ⟨_, _, q⟩ | ⟨_, _, q, _⟩; rw [q]; exact hlk; rw [q]; exact hres_599), hrs, htp, hsp⟩, hev_611, hme_610, by omega, (by rcases hE_612 with ⟨q, _, _⟩ | ⟨q1, q2, q3, q4⟩; exact Or.inr (Or.inl ⟨rfl, q, rfl⟩); exact Or.inr (Or.inr ⟨rfl, q1, rfl, by unfold ms; omega⟩))⟩)⟩⟩ d_MO_act_195
                · skip
                  exact hbad.elim
              · skip
                exact hbad.elim
            · skip
              have hn_614 : ¬ 2 ≤ (tp - mb) := fun h => hb_595 ((nI_leI (a := 2) (b := tp - mb) (by omega) (by omega)).mpr h)
              refine lv_aload_n hx hb d_MO_act_160 rfl (lv_at hl 3 rfl) ?_
              refine lv_iconst (v := 0) hx hb d_MO_act_161 (by decide) ?_
              refine lv_iconst (v := 1) hx hb d_MO_act_162 (by decide) ?_
              refine em_call (wr := [((f 22), .inl (cZ, 400, .inl mrk)), ((f 23), .inl (cI, 810, .inl wlk))]) (em_runV (As := [.int 0, .int 1]) (rest := []) ⟨hx, hb, hml, hown, hG⟩ (mo_val01 l D cI cL cZ cC f h0 tn rm ln lx at_ bd fs dp on os bn df th tp mo_ ev ss so lk rs pt ot cl one two bss wts snd nbr lts spn trm Gc mb _ hsnd hMI hev hm1 hm2 hm3 hm4 hot hnt) (cwV 2 hG (gd_V k_1577 k_1579 k_91 k_116 k_1580) rfl rfl rfl (by decide +kernel) ⟨Nat.le_of_ble_eq_true rfl, Nat.le_of_ble_eq_true rfl⟩) (tw_V (q0 := 9) hP hD hK hE hst hS rfl rfl [9, 0, 1, 10, 11, 2, 3, 4, 7, 8] rfl (by decide)) rfl rfl hl.1 rfl (lv_room (Nat.le_of_ble_eq_true rfl)) d_MO_act_163 ⟨Nat.le_of_ble_eq_true rfl, Nat.le_of_ble_eq_true rfl⟩) hP hD hS hA [9, 0, 1, 10, 11, 2, 3, 4, 7, 8] [5, 6] rfl rfl (by decide) (by decide) (fun v u H locs hok hP hD hS => ?_) (fun x C u H locs hbad hxx hP hD hS => ?_)
              · skip
                obtain ⟨ev_615, tp_616, lk_617, ss_618, so_619, rs_620, pt_621, ot_622, one_623, two_624, bss_625, wts_626, snd_627, nbr_628, lts_629⟩ := u
                obtain ⟨rfl, hp_631⟩ := hok
                obtain ⟨hsnd_632, hMI_633, hev_634, hme_635, hot_636, hPv_637⟩ : (bln snd_627) ∧ (MI df Gc trm one_623 two_624 spn tp_616 lk_617 rs_620 pt_621) ∧ (ev_615 ≤ 40) ∧ (me bss_625 wts_626 ev_615 tp_616 0) ∧ (ot_622 ≤ ot + 12) ∧ ((ss_618 = ss + 1 ∨ (ss_618 = ss ∧ ¬ so_619 = 0 ∧ ot_622 = ot) ∨ (ss_618 = ss ∧ so_619 = so ∧ ot_622 = ot ∧ ms pt_621 ev_615 snd_627 tp_616 < ms pt ev snd tp))) := hp_631
                have hP : va_P D classes [((f 22), .inl (cZ, 400, .inl mrk)), ((f 23), .inl (cI, 810, .inl wlk)), (h0, .inr (8, mS f tn rm ln lx at_ bd fs dp on os bn df th tp_616 mo_ ev_615 ss_618 so_619 lk_617 rs_620 pt_621 ot_622 cl)), ((f 20), .inl (cL, 400, .inr (.inl one_623))), ((f 21), .inl (cL, 400, .inr (.inl two_624))), ((f 25), .inl (cI, 41, .inl bss_625)), ((f 26), .inl (cI, 41, .inl wts_626)), ((f 27), .inl (cZ, 41, .inl snd_627)), ((f 28), .inl (cI, 41, .inl nbr_628)), ((f 29), .inl (cI, 200, .inl lts_629)), ((f 24), .inl (cI, 150, .inl spn)), ((f 18), .inl (cL, 9, .inr (.inl trm)))] H := hP
                have hD : va_D A [((f 22), .inl (cZ, 400, .inl mrk)), ((f 23), .inl (cI, 810, .inl wlk)), (h0, .inr (8, mS f tn rm ln lx at_ bd fs dp on os bn df th tp_616 mo_ ev_615 ss_618 so_619 lk_617 rs_620 pt_621 ot_622 cl)), ((f 20), .inl (cL, 400, .inr (.inl one_623))), ((f 21), .inl (cL, 400, .inr (.inl two_624))), ((f 25), .inl (cI, 41, .inl bss_625)), ((f 26), .inl (cI, 41, .inl wts_626)), ((f 27), .inl (cZ, 41, .inl snd_627)), ((f 28), .inl (cI, 41, .inl nbr_628)), ((f 29), .inl (cI, 200, .inl lts_629)), ((f 24), .inl (cI, 150, .inl spn)), ((f 18), .inl (cL, 9, .inr (.inl trm)))] := hD
                refine W.eq (g2 := F0 m 166 ls []) rfl ?_
                refine lv_goto (tgt := 195) hx hb d_MO_act_166 (by decide) ?_
                exact em_vret hx hb hr hlocks hP hD hK hS (ev_615, tp_616, lk_617, ss_618, so_619, rs_620, pt_621, ot_622, one_623, two_624, bss_625, wts_626, snd_627, nbr_628, lts_629, mrk, wlk) [2, 3, 4, 5, 6, 7, 8, 9, 0, 1, 10, 11] (by decide) rfl ⟨rfl, ⟨hsnd_632, hmrk, (show ∃ G' : Nat → Prop, MI df G' trm one_623 two_624 spn tp_616 lk_617 rs_620 pt_621 ∧ ev_615 ≤ 40 ∧ me bss_625 wts_626 ev_615 tp_616 0 ∧ ot_622 ≤ ot + 12 ∧ (ss_618 = ss + 1 ∨ (ss_618 = ss ∧ ¬ so_619 = 0 ∧ ot_622 = ot) ∨ (ss_618 = ss ∧ so_619 = so ∧ ot_622 = ot ∧ ms pt_621 ev_615 snd_627 tp_616 < ms pt ev snd tp)) from ⟨Gc, hMI_633, hev_634, hme_635, hot_636, hPv_637⟩)⟩⟩ d_MO_act_195
              · skip
                exact hbad.elim
        · skip
          exact absurd (hb_1.symm.trans hb_593) (by decide)
      · skip
        exact hbad.elim
    · skip
      have hl : lv_has ls 4 [(2, .int 15), (1, .int (wkind lk)), (0, .ref h0)] := hl
      refine lv_aload_n hx hb d_MO_act_25 rfl (lv_at hl 2 rfl) ?_
      refine va_get (D := D) (ci := 8) (v := .int (nI tp)) (C := rn_MO) (T := fl_MO) (N := 55) hx hb hG in_MO hown hK hP 0 rfl rfl 38 (by decide) (hG _ k_1229) (fun _ h9 => h9) rfl d_MO_act_26 ?_
      refine lv_aload_n hx hb d_MO_act_29 rfl (lv_at hl 2 rfl) ?_
      refine em_call (wr := [((f 20), .inl (cL, 400, .inr (.inl one))), ((f 21), .inl (cL, 400, .inr (.inl two))), ((f 27), .inl (cZ, 41, .inl snd)), ((f 28), .inl (cI, 41, .inl nbr)), ((f 29), .inl (cI, 200, .inl lts)), ((f 22), .inl (cZ, 400, .inl mrk)), ((f 23), .inl (cI, 810, .inl wlk)), ((f 24), .inl (cI, 150, .inl spn)), ((f 18), .inl (cL, 9, .inr (.inl trm)))]) (em_runV (As := []) (rest := [.int (nI tp)]) ⟨hx, hb, hml, hown, hG⟩ (mo_below l D cI cL cZ cC f h0 tn rm ln lx at_ bd fs dp on os bn df th tp mo_ ev ss so lk rs pt ot cl bss wts _ hme hev hnt) (cwV 0 hG (gd_V k_1573 k_1575 k_90 k_116 k_1576) rfl rfl rfl (by decide +kernel) ⟨Nat.le_of_ble_eq_true rfl, Nat.le_of_ble_eq_true rfl⟩) (tw_V (q0 := 0) hP hD hK hE hst hS rfl rfl [0, 3, 4] rfl (by decide)) rfl rfl hl.1 rfl (lv_room (Nat.le_of_ble_eq_true rfl)) d_MO_act_30 ⟨Nat.le_of_ble_eq_true rfl, Nat.le_of_ble_eq_true rfl⟩) hP hD hS hA [0, 3, 4] [1, 2, 5, 6, 7, 8, 9, 10, 11] rfl rfl (by decide) (by decide) (fun v u H locs hok hP hD hS => ?_) (fun x C u H locs hbad hxx hP hD hS => ?_)
      · skip
        obtain ⟨r_639, rfl, hp_640⟩ := hok
        have hres_641 : (∃ mq : Nat, r_639 = nI mq ∧ mq ≤ tp ∧ (ev = 0 → mq = 0) ∧ (1 ≤ ev → bss (ev - 1) = nI mq) ∧ me bss wts ev mq 0) := hp_640
        obtain ⟨mb, rfl, hm1, hm2, hm3, hm4⟩ := hres_641
        have hP : va_P D classes [((f 20), .inl (cL, 400, .inr (.inl one))), ((f 21), .inl (cL, 400, .inr (.inl two))), ((f 27), .inl (cZ, 41, .inl snd)), ((f 28), .inl (cI, 41, .inl nbr)), ((f 29), .inl (cI, 200, .inl lts)), ((f 22), .inl (cZ, 400, .inl mrk)), ((f 23), .inl (cI, 810, .inl wlk)), ((f 24), .inl (cI, 150, .inl spn)), ((f 18), .inl (cL, 9, .inr (.inl trm))), (h0, .inr (8, mS f tn rm ln lx at_ bd fs dp on os bn df th tp mo_ ev ss so lk rs pt ot cl)), ((f 25), .inl (cI, 41, .inl bss)), ((f 26), .inl (cI, 41, .inl wts))] H := hP
        have hD : va_D A [((f 20), .inl (cL, 400, .inr (.inl one))), ((f 21), .inl (cL, 400, .inr (.inl two))), ((f 27), .inl (cZ, 41, .inl snd)), ((f 28), .inl (cI, 41, .inl nbr)), ((f 29), .inl (cI, 200, .inl lts)), ((f 22), .inl (cZ, 400, .inl mrk)), ((f 23), .inl (cI, 810, .inl wlk)), ((f 24), .inl (cI, 150, .inl spn)), ((f 18), .inl (cL, 9, .inr (.inl trm))), (h0, .inr (8, mS f tn rm ln lx at_ bd fs dp on os bn df th tp mo_ ev ss so lk rs pt ot cl)), ((f 25), .inl (cI, 41, .inl bss)), ((f 26), .inl (cI, 41, .inl wts))] := hD
        refine W.eq (g2 := F0 m 33 ls [.int (nI mb), .int (nI tp)]) rfl ?_
        refine lw_isub (a := tp) (b := mb) hx hb d_MO_act_33 (by omega) ?_
        refine lv_istore_n (lv' := [(3, .int (nI (tp - mb))), (2, .int 15), (1, .int (wkind lk)), (0, .ref h0)]) hx hb d_MO_act_34 rfl hl (Nat.le_of_ble_eq_true rfl) rfl (fun ls hl => ?_)
        refine lv_iload_n hx hb d_MO_act_35 rfl (lv_at hl 2 rfl) ?_
        refine lv_iconst (v := 1) hx hb d_MO_act_36 (by decide) ?_
        refine lv_icmp_ne (tgt := 69) hx hb d_MO_act_37 (by decide) (fun hb_642 => ?_) (fun hb_642 => ?_)
        · skip
          refine lv_iload_n hx hb d_MO_act_69 rfl (lv_at hl 2 rfl) ?_
          refine lv_if_eq (tgt := 85) hx hb d_MO_act_70 (by decide) (fun hb_643 => ?_) (fun hb_643 => ?_)
          · skip
            exact absurd (hb_1.symm.trans hb_643) (by decide)
          · skip
            refine lv_iload_n hx hb d_MO_act_73 rfl (lv_at hl 1 rfl) ?_
            refine lv_bipush (v := 17) hx hb d_MO_act_74 (by decide) ?_
            refine lv_icmp_eq (tgt := 85) hx hb d_MO_act_76 (by decide) (fun hbr => absurd hbr (by decide)) (fun hbr => ?_)
            refine lv_iload_n hx hb d_MO_act_79 rfl (lv_at hl 1 rfl) ?_
            refine lv_bipush (v := 20) hx hb d_MO_act_80 (by decide) ?_
            refine lv_icmp_le (tgt := 106) hx hb d_MO_act_82 (by decide) (fun hbr => ?_) (fun hbr => absurd (by decide) hbr)
            refine lv_iload_n hx hb d_MO_act_106 rfl (lv_at hl 1 rfl) ?_
            refine lv_bipush (v := 16) hx hb d_MO_act_107 (by decide) ?_
            refine lv_icmp_ne (tgt := 152) hx hb d_MO_act_109 (by decide) (fun hbr => ?_) (fun hbr => absurd hbr (by decide))
            refine lv_iload_n hx hb d_MO_act_152 rfl (lv_at hl 0 rfl) ?_
            refine lv_iload_n hx hb d_MO_act_153 rfl (lv_at hl 1 rfl) ?_
            refine W.callR (W.runS (As := [.int 15]) (rest := [.int (nI (tp - mb))]) ⟨hx, hb, hml, hown, hG⟩ (mo_needs l D cI cL cZ cC 15 ) (cwS 1 hG (gd_S k_1621 k_1622 k_116 k_1623) rfl rfl rfl (by decide +kernel) ⟨Nat.le_of_ble_eq_true rfl, Nat.le_of_ble_eq_true rfl⟩) (wq_S hP hK [] rfl) rfl rfl hl.1 rfl (lv_room (Nat.le_of_ble_eq_true rfl)) d_MO_act_154 ⟨Nat.le_of_ble_eq_true rfl, Nat.le_of_ble_eq_true rfl⟩) ?_
            refine W.eq (g2 := F0 m 157 ls [.int (mneeds (15 : Int32)), .int (nI (tp - mb))]) rfl ?_
            refine W.eq (g2 := F0 m 157 ls [.int 2, .int (nI (tp - mb))]) (by rw [show mneeds 15 = 2 by decide]) ?_
            refine lv_icmp_ge (tgt := 169) hx hb d_MO_act_157 (by decide) (fun hb_644 => ?_) (fun hb_644 => ?_)
            · skip
              have hn_645 : 2 ≤ (tp - mb) := (nI_leI (a := 2) (b := tp - mb) (by omega) (by omega)).mp hb_644
              refine lv_iload_n hx hb d_MO_act_169 rfl (lv_at hl 1 rfl) ?_
              refine lv_bipush (v := 10) hx hb d_MO_act_170 (by decide) ?_
              refine lv_icmp_ge (tgt := 183) hx hb d_MO_act_172 (by decide) (fun hbr => ?_) (fun hbr => absurd (by decide) hbr)
              refine lv_aload_n hx hb d_MO_act_183 rfl (lv_at hl 3 rfl) ?_
              refine lv_iload_n hx hb d_MO_act_184 rfl (lv_at hl 1 rfl) ?_
              refine lv_aload_n hx hb d_MO_act_185 rfl (lv_at hl 3 rfl) ?_
              refine lv_iconst (v := 0) hx hb d_MO_act_186 (by decide) ?_
              refine em_call (wr := [((f 27), .inl (cZ, 41, .inl snd)), ((f 28), .inl (cI, 41, .inl nbr)), ((f 29), .inl (cI, 200, .inl lts)), ((f 22), .inl (cZ, 400, .inl mrk)), ((f 23), .inl (cI, 810, .inl wlk)), ((f 25), .inl (cI, 41, .inl bss)), ((f 26), .inl (cI, 41, .inl wts))]) (em_runV (As := [.int (nI 0)]) (rest := [.int 15, .ref h0]) ⟨hx, hb, hml, hown, hG⟩ (mo_argument l D cI cL cZ cC f h0 tn rm ln lx at_ bd fs dp on os bn df th tp mo_ ev ss so lk rs pt ot cl two spn trm one Gc 0 _ (by omega) (by omega) hHG hsp hnt) (cwV 1 hG (gd_V k_1581 k_1583 k_92 k_116 k_1584) rfl rfl rfl (by decide +kernel) ⟨Nat.le_of_ble_eq_true rfl, Nat.le_of_ble_eq_true rfl⟩) (tw_V (q0 := 9) hP hD hK hE hst hS rfl rfl [9, 1, 7, 8, 0] rfl (by decide)) rfl rfl hl.1 rfl (lv_room (Nat.le_of_ble_eq_true rfl)) d_MO_act_187 ⟨Nat.le_of_ble_eq_true rfl, Nat.le_of_ble_eq_true rfl⟩) hP hD hS hA [9, 1, 7, 8, 0] [2, 3, 4, 5, 6, 10, 11] rfl rfl (by decide) (by decide) (fun v u H locs hok hP hD hS => ?_) (fun x C u H locs hbad hxx hP hD hS => ?_)
              · skip
                obtain ⟨r_646, rfl, hp_647⟩ := hok
                have hres_648 : (okh df Gc r_646) := hp_647
                have hP : va_P D classes [((f 27), .inl (cZ, 41, .inl snd)), ((f 28), .inl (cI, 41, .inl nbr)), ((f 29), .inl (cI, 200, .inl lts)), ((f 22), .inl (cZ, 400, .inl mrk)), ((f 23), .inl (cI, 810, .inl wlk)), ((f 25), .inl (cI, 41, .inl bss)), ((f 26), .inl (cI, 41, .inl wts)), (h0, .inr (8, mS f tn rm ln lx at_ bd fs dp on os bn df th tp mo_ ev ss so lk rs pt ot cl)), ((f 21), .inl (cL, 400, .inr (.inl two))), ((f 24), .inl (cI, 150, .inl spn)), ((f 18), .inl (cL, 9, .inr (.inl trm))), ((f 20), .inl (cL, 400, .inr (.inl one)))] H := hP
                have hD : va_D A [((f 27), .inl (cZ, 41, .inl snd)), ((f 28), .inl (cI, 41, .inl nbr)), ((f 29), .inl (cI, 200, .inl lts)), ((f 22), .inl (cZ, 400, .inl mrk)), ((f 23), .inl (cI, 810, .inl wlk)), ((f 25), .inl (cI, 41, .inl bss)), ((f 26), .inl (cI, 41, .inl wts)), (h0, .inr (8, mS f tn rm ln lx at_ bd fs dp on os bn df th tp mo_ ev ss so lk rs pt ot cl)), ((f 21), .inl (cL, 400, .inr (.inl two))), ((f 24), .inl (cI, 150, .inl spn)), ((f 18), .inl (cL, 9, .inr (.inl trm))), ((f 20), .inl (cL, 400, .inr (.inl one)))] := hD
                refine W.eq (g2 := F0 m 190 ls [.long r_646, .int 15, .ref h0]) rfl ?_
                refine lv_iconst (v := 0) hx hb d_MO_act_190 (by decide) ?_
                refine lv_iconst (v := 0) hx hb d_MO_act_191 (by decide) ?_
                refine em_call (wr := [((f 29), .inl (cI, 200, .inl lts)), ((f 22), .inl (cZ, 400, .inl mrk)), ((f 23), .inl (cI, 810, .inl wlk)), ((f 21), .inl (cL, 400, .inr (.inl two))), ((f 24), .inl (cI, 150, .inl spn)), ((f 18), .inl (cL, 9, .inr (.inl trm))), ((f 20), .inl (cL, 400, .inr (.inl one)))]) (em_runV (As := [.int (nI 15), .long r_646, .int 0, .int 0]) (rest := []) ⟨hx, hb, hml, hown, hG⟩ (mo_eval0 l D cI cL cZ cC f h0 tn rm ln lx at_ bd fs dp on os bn df th tp mo_ ev ss so lk rs pt ot cl bss wts snd nbr 15 r_646 0 _ hsnd (by decide) (by decide) (by decide) (by decide) (hm4.mono (by have hq := nd_or 15; omega)) hev hnt) (cwV 4 hG (gd_V k_1600 k_1602 k_96 k_116 k_1603) rfl rfl rfl (by decide +kernel) ⟨Nat.le_of_ble_eq_true rfl, Nat.le_of_ble_eq_true rfl⟩) (tw_V (q0 := 7) hP hD hK hE hst hS rfl rfl [7, 5, 6, 0, 1] rfl (by decide)) rfl rfl hl.1 rfl (lv_room (Nat.le_of_ble_eq_true rfl)) d_MO_act_192 ⟨Nat.le_of_ble_eq_true rfl, Nat.le_of_ble_eq_true rfl⟩) hP hD hS hA [7, 5, 6, 0, 1] [2, 3, 4, 8, 9, 10, 11] rfl rfl (by decide) (by decide) (fun v u H locs hok hP hD hS => ?_) (fun x C u H locs hbad hxx hP hD hS => ?_)
                · skip
                  obtain ⟨so_649, ev_650, lk_651, bss_652, wts_653, snd_654, nbr_655⟩ := u
                  obtain ⟨rfl, hp_657⟩ := hok
                  obtain ⟨hsnd_658, hme_659, hev_660, hE_661⟩ : (bln snd_654) ∧ (me bss_652 wts_653 ev_650 tp 0) ∧ (ev_650 ≤ 40) ∧ (((¬ so_649 = 0 ∧ ev_650 = ev ∧ lk_651 = lk) ∨ (so_649 = so ∧ ev_650 = ev + 1 ∧ lk_651 = r_646 ∧ fz snd_654 ev_650 = fz snd ev + 1))) := hp_657
                  have hP : va_P D classes [((f 29), .inl (cI, 200, .inl lts)), ((f 22), .inl (cZ, 400, .inl mrk)), ((f 23), .inl (cI, 810, .inl wlk)), ((f 21), .inl (cL, 400, .inr (.inl two))), ((f 24), .inl (cI, 150, .inl spn)), ((f 18), .inl (cL, 9, .inr (.inl trm))), ((f 20), .inl (cL, 400, .inr (.inl one))), (h0, .inr (8, mS f tn rm ln lx at_ bd fs dp on os bn df th tp mo_ ev_650 ss so_649 lk_651 rs pt ot cl)), ((f 25), .inl (cI, 41, .inl bss_652)), ((f 26), .inl (cI, 41, .inl wts_653)), ((f 27), .inl (cZ, 41, .inl snd_654)), ((f 28), .inl (cI, 41, .inl nbr_655))] H := hP
                  have hD : va_D A [((f 29), .inl (cI, 200, .inl lts)), ((f 22), .inl (cZ, 400, .inl mrk)), ((f 23), .inl (cI, 810, .inl wlk)), ((f 21), .inl (cL, 400, .inr (.inl two))), ((f 24), .inl (cI, 150, .inl spn)), ((f 18), .inl (cL, 9, .inr (.inl trm))), ((f 20), .inl (cL, 400, .inr (.inl one))), (h0, .inr (8, mS f tn rm ln lx at_ bd fs dp on os bn df th tp mo_ ev_650 ss so_649 lk_651 rs pt ot cl)), ((f 25), .inl (cI, 41, .inl bss_652)), ((f 26), .inl (cI, 41, .inl wts_653)), ((f 27), .inl (cZ, 41, .inl snd_654)), ((f 28), .inl (cI, 41, .inl nbr_655))] := hD
                  refine W.eq (g2 := F0 m 195 ls []) rfl ?_
                  exact em_vret hx hb hr hlocks hP hD hK hS (ev_650, tp, lk_651, ss, so_649, rs, pt, ot, one, two, bss_652, wts_653, snd_654, nbr_655, lts, mrk, wlk) [7, 6, 3, 8, 9, 10, 11, 0, 1, 2, 4, 5] (by decide) rfl ⟨rfl, ⟨hsnd_658, hmrk, (show ∃ G' : Nat → Prop, MI df G' trm one two spn tp lk_651 rs pt ∧ ev_650 ≤ 40 ∧ me bss_652 wts_653 ev_650 tp 0 ∧ ot ≤ ot + 12 ∧ (ss = ss + 1 ∨ (ss = ss ∧ ¬ so_649 = 0 ∧ ot = ot) ∨ (ss = ss ∧ so_649 = so ∧ ot = ot ∧ ms pt ev_650 snd_654 tp < ms pt ev snd tp)) from ⟨Gc, ⟨hHG, (by rcases hE_661 with ⟨_, _, q⟩ | ⟨_, _, q, _⟩; rw [q]; exact hlk; rw [q]; exact hres_648), hrs, htp, hsp⟩, hev_660, hme_659, by omega, (by rcases hE_661 with ⟨q, _, _⟩ | ⟨q1, q2, q3, q4⟩; exact Or.inr (Or.inl ⟨rfl, q, rfl⟩); exact Or.inr (Or.inr ⟨rfl, q1, rfl, by unfold ms; omega⟩))⟩)⟩⟩ d_MO_act_195
                · skip
                  exact hbad.elim
              · skip
                exact hbad.elim
            · skip
              have hn_663 : ¬ 2 ≤ (tp - mb) := fun h => hb_644 ((nI_leI (a := 2) (b := tp - mb) (by omega) (by omega)).mpr h)
              refine lv_aload_n hx hb d_MO_act_160 rfl (lv_at hl 3 rfl) ?_
              refine lv_iconst (v := 0) hx hb d_MO_act_161 (by decide) ?_
              refine lv_iconst (v := 1) hx hb d_MO_act_162 (by decide) ?_
              refine em_call (wr := [((f 22), .inl (cZ, 400, .inl mrk)), ((f 23), .inl (cI, 810, .inl wlk))]) (em_runV (As := [.int 0, .int 1]) (rest := []) ⟨hx, hb, hml, hown, hG⟩ (mo_val01 l D cI cL cZ cC f h0 tn rm ln lx at_ bd fs dp on os bn df th tp mo_ ev ss so lk rs pt ot cl one two bss wts snd nbr lts spn trm Gc mb _ hsnd hMI hev hm1 hm2 hm3 hm4 hot hnt) (cwV 2 hG (gd_V k_1577 k_1579 k_91 k_116 k_1580) rfl rfl rfl (by decide +kernel) ⟨Nat.le_of_ble_eq_true rfl, Nat.le_of_ble_eq_true rfl⟩) (tw_V (q0 := 9) hP hD hK hE hst hS rfl rfl [9, 0, 1, 10, 11, 2, 3, 4, 7, 8] rfl (by decide)) rfl rfl hl.1 rfl (lv_room (Nat.le_of_ble_eq_true rfl)) d_MO_act_163 ⟨Nat.le_of_ble_eq_true rfl, Nat.le_of_ble_eq_true rfl⟩) hP hD hS hA [9, 0, 1, 10, 11, 2, 3, 4, 7, 8] [5, 6] rfl rfl (by decide) (by decide) (fun v u H locs hok hP hD hS => ?_) (fun x C u H locs hbad hxx hP hD hS => ?_)
              · skip
                obtain ⟨ev_664, tp_665, lk_666, ss_667, so_668, rs_669, pt_670, ot_671, one_672, two_673, bss_674, wts_675, snd_676, nbr_677, lts_678⟩ := u
                obtain ⟨rfl, hp_680⟩ := hok
                obtain ⟨hsnd_681, hMI_682, hev_683, hme_684, hot_685, hPv_686⟩ : (bln snd_676) ∧ (MI df Gc trm one_672 two_673 spn tp_665 lk_666 rs_669 pt_670) ∧ (ev_664 ≤ 40) ∧ (me bss_674 wts_675 ev_664 tp_665 0) ∧ (ot_671 ≤ ot + 12) ∧ ((ss_667 = ss + 1 ∨ (ss_667 = ss ∧ ¬ so_668 = 0 ∧ ot_671 = ot) ∨ (ss_667 = ss ∧ so_668 = so ∧ ot_671 = ot ∧ ms pt_670 ev_664 snd_676 tp_665 < ms pt ev snd tp))) := hp_680
                have hP : va_P D classes [((f 22), .inl (cZ, 400, .inl mrk)), ((f 23), .inl (cI, 810, .inl wlk)), (h0, .inr (8, mS f tn rm ln lx at_ bd fs dp on os bn df th tp_665 mo_ ev_664 ss_667 so_668 lk_666 rs_669 pt_670 ot_671 cl)), ((f 20), .inl (cL, 400, .inr (.inl one_672))), ((f 21), .inl (cL, 400, .inr (.inl two_673))), ((f 25), .inl (cI, 41, .inl bss_674)), ((f 26), .inl (cI, 41, .inl wts_675)), ((f 27), .inl (cZ, 41, .inl snd_676)), ((f 28), .inl (cI, 41, .inl nbr_677)), ((f 29), .inl (cI, 200, .inl lts_678)), ((f 24), .inl (cI, 150, .inl spn)), ((f 18), .inl (cL, 9, .inr (.inl trm)))] H := hP
                have hD : va_D A [((f 22), .inl (cZ, 400, .inl mrk)), ((f 23), .inl (cI, 810, .inl wlk)), (h0, .inr (8, mS f tn rm ln lx at_ bd fs dp on os bn df th tp_665 mo_ ev_664 ss_667 so_668 lk_666 rs_669 pt_670 ot_671 cl)), ((f 20), .inl (cL, 400, .inr (.inl one_672))), ((f 21), .inl (cL, 400, .inr (.inl two_673))), ((f 25), .inl (cI, 41, .inl bss_674)), ((f 26), .inl (cI, 41, .inl wts_675)), ((f 27), .inl (cZ, 41, .inl snd_676)), ((f 28), .inl (cI, 41, .inl nbr_677)), ((f 29), .inl (cI, 200, .inl lts_678)), ((f 24), .inl (cI, 150, .inl spn)), ((f 18), .inl (cL, 9, .inr (.inl trm)))] := hD
                refine W.eq (g2 := F0 m 166 ls []) rfl ?_
                refine lv_goto (tgt := 195) hx hb d_MO_act_166 (by decide) ?_
                exact em_vret hx hb hr hlocks hP hD hK hS (ev_664, tp_665, lk_666, ss_667, so_668, rs_669, pt_670, ot_671, one_672, two_673, bss_674, wts_675, snd_676, nbr_677, lts_678, mrk, wlk) [2, 3, 4, 5, 6, 7, 8, 9, 0, 1, 10, 11] (by decide) rfl ⟨rfl, ⟨hsnd_681, hmrk, (show ∃ G' : Nat → Prop, MI df G' trm one_672 two_673 spn tp_665 lk_666 rs_669 pt_670 ∧ ev_664 ≤ 40 ∧ me bss_674 wts_675 ev_664 tp_665 0 ∧ ot_671 ≤ ot + 12 ∧ (ss_667 = ss + 1 ∨ (ss_667 = ss ∧ ¬ so_668 = 0 ∧ ot_671 = ot) ∨ (ss_667 = ss ∧ so_668 = so ∧ ot_671 = ot ∧ ms pt_670 ev_664 snd_676 tp_665 < ms pt ev snd tp)) from ⟨Gc, hMI_682, hev_683, hme_684, hot_685, hPv_686⟩)⟩⟩ d_MO_act_195
              · skip
                exact hbad.elim
        · skip
          exact absurd (hb_1.symm.trans hb_642) (by decide)
      · skip
        exact hbad.elim
    · skip
      have hl : lv_has ls 4 [(2, .int 16), (1, .int (wkind lk)), (0, .ref h0)] := hl
      refine lv_aload_n hx hb d_MO_act_25 rfl (lv_at hl 2 rfl) ?_
      refine va_get (D := D) (ci := 8) (v := .int (nI tp)) (C := rn_MO) (T := fl_MO) (N := 55) hx hb hG in_MO hown hK hP 0 rfl rfl 38 (by decide) (hG _ k_1229) (fun _ h9 => h9) rfl d_MO_act_26 ?_
      refine lv_aload_n hx hb d_MO_act_29 rfl (lv_at hl 2 rfl) ?_
      refine em_call (wr := [((f 20), .inl (cL, 400, .inr (.inl one))), ((f 21), .inl (cL, 400, .inr (.inl two))), ((f 27), .inl (cZ, 41, .inl snd)), ((f 28), .inl (cI, 41, .inl nbr)), ((f 29), .inl (cI, 200, .inl lts)), ((f 22), .inl (cZ, 400, .inl mrk)), ((f 23), .inl (cI, 810, .inl wlk)), ((f 24), .inl (cI, 150, .inl spn)), ((f 18), .inl (cL, 9, .inr (.inl trm)))]) (em_runV (As := []) (rest := [.int (nI tp)]) ⟨hx, hb, hml, hown, hG⟩ (mo_below l D cI cL cZ cC f h0 tn rm ln lx at_ bd fs dp on os bn df th tp mo_ ev ss so lk rs pt ot cl bss wts _ hme hev hnt) (cwV 0 hG (gd_V k_1573 k_1575 k_90 k_116 k_1576) rfl rfl rfl (by decide +kernel) ⟨Nat.le_of_ble_eq_true rfl, Nat.le_of_ble_eq_true rfl⟩) (tw_V (q0 := 0) hP hD hK hE hst hS rfl rfl [0, 3, 4] rfl (by decide)) rfl rfl hl.1 rfl (lv_room (Nat.le_of_ble_eq_true rfl)) d_MO_act_30 ⟨Nat.le_of_ble_eq_true rfl, Nat.le_of_ble_eq_true rfl⟩) hP hD hS hA [0, 3, 4] [1, 2, 5, 6, 7, 8, 9, 10, 11] rfl rfl (by decide) (by decide) (fun v u H locs hok hP hD hS => ?_) (fun x C u H locs hbad hxx hP hD hS => ?_)
      · skip
        obtain ⟨r_688, rfl, hp_689⟩ := hok
        have hres_690 : (∃ mq : Nat, r_688 = nI mq ∧ mq ≤ tp ∧ (ev = 0 → mq = 0) ∧ (1 ≤ ev → bss (ev - 1) = nI mq) ∧ me bss wts ev mq 0) := hp_689
        obtain ⟨mb, rfl, hm1, hm2, hm3, hm4⟩ := hres_690
        have hP : va_P D classes [((f 20), .inl (cL, 400, .inr (.inl one))), ((f 21), .inl (cL, 400, .inr (.inl two))), ((f 27), .inl (cZ, 41, .inl snd)), ((f 28), .inl (cI, 41, .inl nbr)), ((f 29), .inl (cI, 200, .inl lts)), ((f 22), .inl (cZ, 400, .inl mrk)), ((f 23), .inl (cI, 810, .inl wlk)), ((f 24), .inl (cI, 150, .inl spn)), ((f 18), .inl (cL, 9, .inr (.inl trm))), (h0, .inr (8, mS f tn rm ln lx at_ bd fs dp on os bn df th tp mo_ ev ss so lk rs pt ot cl)), ((f 25), .inl (cI, 41, .inl bss)), ((f 26), .inl (cI, 41, .inl wts))] H := hP
        have hD : va_D A [((f 20), .inl (cL, 400, .inr (.inl one))), ((f 21), .inl (cL, 400, .inr (.inl two))), ((f 27), .inl (cZ, 41, .inl snd)), ((f 28), .inl (cI, 41, .inl nbr)), ((f 29), .inl (cI, 200, .inl lts)), ((f 22), .inl (cZ, 400, .inl mrk)), ((f 23), .inl (cI, 810, .inl wlk)), ((f 24), .inl (cI, 150, .inl spn)), ((f 18), .inl (cL, 9, .inr (.inl trm))), (h0, .inr (8, mS f tn rm ln lx at_ bd fs dp on os bn df th tp mo_ ev ss so lk rs pt ot cl)), ((f 25), .inl (cI, 41, .inl bss)), ((f 26), .inl (cI, 41, .inl wts))] := hD
        refine W.eq (g2 := F0 m 33 ls [.int (nI mb), .int (nI tp)]) rfl ?_
        refine lw_isub (a := tp) (b := mb) hx hb d_MO_act_33 (by omega) ?_
        refine lv_istore_n (lv' := [(3, .int (nI (tp - mb))), (2, .int 16), (1, .int (wkind lk)), (0, .ref h0)]) hx hb d_MO_act_34 rfl hl (Nat.le_of_ble_eq_true rfl) rfl (fun ls hl => ?_)
        refine lv_iload_n hx hb d_MO_act_35 rfl (lv_at hl 2 rfl) ?_
        refine lv_iconst (v := 1) hx hb d_MO_act_36 (by decide) ?_
        refine lv_icmp_ne (tgt := 69) hx hb d_MO_act_37 (by decide) (fun hb_691 => ?_) (fun hb_691 => ?_)
        · skip
          refine lv_iload_n hx hb d_MO_act_69 rfl (lv_at hl 2 rfl) ?_
          refine lv_if_eq (tgt := 85) hx hb d_MO_act_70 (by decide) (fun hb_692 => ?_) (fun hb_692 => ?_)
          · skip
            exact absurd (hb_1.symm.trans hb_692) (by decide)
          · skip
            refine lv_iload_n hx hb d_MO_act_73 rfl (lv_at hl 1 rfl) ?_
            refine lv_bipush (v := 17) hx hb d_MO_act_74 (by decide) ?_
            refine lv_icmp_eq (tgt := 85) hx hb d_MO_act_76 (by decide) (fun hbr => absurd hbr (by decide)) (fun hbr => ?_)
            refine lv_iload_n hx hb d_MO_act_79 rfl (lv_at hl 1 rfl) ?_
            refine lv_bipush (v := 20) hx hb d_MO_act_80 (by decide) ?_
            refine lv_icmp_le (tgt := 106) hx hb d_MO_act_82 (by decide) (fun hbr => ?_) (fun hbr => absurd (by decide) hbr)
            refine lv_iload_n hx hb d_MO_act_106 rfl (lv_at hl 1 rfl) ?_
            refine lv_bipush (v := 16) hx hb d_MO_act_107 (by decide) ?_
            refine lv_icmp_ne (tgt := 152) hx hb d_MO_act_109 (by decide) (fun hbr => absurd (by decide) hbr) (fun hbr => ?_)
            refine lv_iload_n hx hb d_MO_act_112 rfl (lv_at hl 0 rfl) ?_
            refine lv_iconst (v := 2) hx hb d_MO_act_113 (by decide) ?_
            refine lv_icmp_le (tgt := 125) hx hb d_MO_act_114 (by decide) (fun hb_693 => ?_) (fun hb_693 => ?_)
            · skip
              have hn_694 : (tp - mb) ≤ 2 := (nI_leI (a := tp - mb) (b := 2) (by omega) (by omega)).mp hb_693
              refine lv_aload_n hx hb d_MO_act_125 rfl (lv_at hl 3 rfl) ?_
              refine lv_iload_n hx hb d_MO_act_126 rfl (lv_at hl 0 rfl) ?_
              refine lv_iconst (v := 2) hx hb d_MO_act_127 (by decide) ?_
              refine lv_icmp_ne (tgt := 135) hx hb d_MO_act_128 (by decide) (fun hb_695 => ?_) (fun hb_695 => ?_)
              · skip
                have hn_696 : ¬ (tp - mb) = 2 := fun h => hb_695 ((nI_eq (a := tp - mb) (b := 2) (by omega) (by omega)).mpr h)
                refine lv_iconst (v := 0) hx hb d_MO_act_135 (by decide) ?_
                refine lv_iload_n hx hb d_MO_act_136 rfl (lv_at hl 0 rfl) ?_
                refine lv_iconst (v := 2) hx hb d_MO_act_137 (by decide) ?_
                refine lv_icmp_ge (tgt := 145) hx hb d_MO_act_138 (by decide) (fun hb_697 => ?_) (fun hb_697 => ?_)
                · skip
                  have hn_698 : 2 ≤ (tp - mb) := (nI_leI (a := 2) (b := tp - mb) (by omega) (by omega)).mp hb_697
                  exfalso; omega
                · skip
                  have hn_699 : ¬ 2 ≤ (tp - mb) := fun h => hb_697 ((nI_leI (a := 2) (b := tp - mb) (by omega) (by omega)).mpr h)
                  refine lv_iconst (v := 1) hx hb d_MO_act_141 (by decide) ?_
                  refine lv_goto (tgt := 146) hx hb d_MO_act_142 (by decide) ?_
                  refine em_call (wr := [((f 22), .inl (cZ, 400, .inl mrk)), ((f 23), .inl (cI, 810, .inl wlk))]) (em_runV (As := [.int 0, .int 1]) (rest := []) ⟨hx, hb, hml, hown, hG⟩ (mo_val01 l D cI cL cZ cC f h0 tn rm ln lx at_ bd fs dp on os bn df th tp mo_ ev ss so lk rs pt ot cl one two bss wts snd nbr lts spn trm Gc mb _ hsnd hMI hev hm1 hm2 hm3 hm4 hot hnt) (cwV 2 hG (gd_V k_1577 k_1579 k_91 k_116 k_1580) rfl rfl rfl (by decide +kernel) ⟨Nat.le_of_ble_eq_true rfl, Nat.le_of_ble_eq_true rfl⟩) (tw_V (q0 := 9) hP hD hK hE hst hS rfl rfl [9, 0, 1, 10, 11, 2, 3, 4, 7, 8] rfl (by decide)) rfl rfl hl.1 rfl (lv_room (Nat.le_of_ble_eq_true rfl)) d_MO_act_146 ⟨Nat.le_of_ble_eq_true rfl, Nat.le_of_ble_eq_true rfl⟩) hP hD hS hA [9, 0, 1, 10, 11, 2, 3, 4, 7, 8] [5, 6] rfl rfl (by decide) (by decide) (fun v u H locs hok hP hD hS => ?_) (fun x C u H locs hbad hxx hP hD hS => ?_)
                  · skip
                    obtain ⟨ev_700, tp_701, lk_702, ss_703, so_704, rs_705, pt_706, ot_707, one_708, two_709, bss_710, wts_711, snd_712, nbr_713, lts_714⟩ := u
                    obtain ⟨rfl, hp_716⟩ := hok
                    obtain ⟨hsnd_717, hMI_718, hev_719, hme_720, hot_721, hPv_722⟩ : (bln snd_712) ∧ (MI df Gc trm one_708 two_709 spn tp_701 lk_702 rs_705 pt_706) ∧ (ev_700 ≤ 40) ∧ (me bss_710 wts_711 ev_700 tp_701 0) ∧ (ot_707 ≤ ot + 12) ∧ ((ss_703 = ss + 1 ∨ (ss_703 = ss ∧ ¬ so_704 = 0 ∧ ot_707 = ot) ∨ (ss_703 = ss ∧ so_704 = so ∧ ot_707 = ot ∧ ms pt_706 ev_700 snd_712 tp_701 < ms pt ev snd tp))) := hp_716
                    have hP : va_P D classes [((f 22), .inl (cZ, 400, .inl mrk)), ((f 23), .inl (cI, 810, .inl wlk)), (h0, .inr (8, mS f tn rm ln lx at_ bd fs dp on os bn df th tp_701 mo_ ev_700 ss_703 so_704 lk_702 rs_705 pt_706 ot_707 cl)), ((f 20), .inl (cL, 400, .inr (.inl one_708))), ((f 21), .inl (cL, 400, .inr (.inl two_709))), ((f 25), .inl (cI, 41, .inl bss_710)), ((f 26), .inl (cI, 41, .inl wts_711)), ((f 27), .inl (cZ, 41, .inl snd_712)), ((f 28), .inl (cI, 41, .inl nbr_713)), ((f 29), .inl (cI, 200, .inl lts_714)), ((f 24), .inl (cI, 150, .inl spn)), ((f 18), .inl (cL, 9, .inr (.inl trm)))] H := hP
                    have hD : va_D A [((f 22), .inl (cZ, 400, .inl mrk)), ((f 23), .inl (cI, 810, .inl wlk)), (h0, .inr (8, mS f tn rm ln lx at_ bd fs dp on os bn df th tp_701 mo_ ev_700 ss_703 so_704 lk_702 rs_705 pt_706 ot_707 cl)), ((f 20), .inl (cL, 400, .inr (.inl one_708))), ((f 21), .inl (cL, 400, .inr (.inl two_709))), ((f 25), .inl (cI, 41, .inl bss_710)), ((f 26), .inl (cI, 41, .inl wts_711)), ((f 27), .inl (cZ, 41, .inl snd_712)), ((f 28), .inl (cI, 41, .inl nbr_713)), ((f 29), .inl (cI, 200, .inl lts_714)), ((f 24), .inl (cI, 150, .inl spn)), ((f 18), .inl (cL, 9, .inr (.inl trm)))] := hD
                    refine W.eq (g2 := F0 m 149 ls []) rfl ?_
                    refine lv_goto (tgt := 195) hx hb d_MO_act_149 (by decide) ?_
                    exact em_vret hx hb hr hlocks hP hD hK hS (ev_700, tp_701, lk_702, ss_703, so_704, rs_705, pt_706, ot_707, one_708, two_709, bss_710, wts_711, snd_712, nbr_713, lts_714, mrk, wlk) [2, 3, 4, 5, 6, 7, 8, 9, 0, 1, 10, 11] (by decide) rfl ⟨rfl, ⟨hsnd_717, hmrk, (show ∃ G' : Nat → Prop, MI df G' trm one_708 two_709 spn tp_701 lk_702 rs_705 pt_706 ∧ ev_700 ≤ 40 ∧ me bss_710 wts_711 ev_700 tp_701 0 ∧ ot_707 ≤ ot + 12 ∧ (ss_703 = ss + 1 ∨ (ss_703 = ss ∧ ¬ so_704 = 0 ∧ ot_707 = ot) ∨ (ss_703 = ss ∧ so_704 = so ∧ ot_707 = ot ∧ ms pt_706 ev_700 snd_712 tp_701 < ms pt ev snd tp)) from ⟨Gc, hMI_718, hev_719, hme_720, hot_721, hPv_722⟩)⟩⟩ d_MO_act_195
                  · skip
                    exact hbad.elim
              · skip
                have hn_724 : (tp - mb) = 2 := (nI_eq (a := tp - mb) (b := 2) (by omega) (by omega)).mp hb_695
                refine lv_iconst (v := 1) hx hb d_MO_act_131 (by decide) ?_
                refine lv_goto (tgt := 136) hx hb d_MO_act_132 (by decide) ?_
                refine lv_iload_n hx hb d_MO_act_136 rfl (lv_at hl 0 rfl) ?_
                refine lv_iconst (v := 2) hx hb d_MO_act_137 (by decide) ?_
                refine lv_icmp_ge (tgt := 145) hx hb d_MO_act_138 (by decide) (fun hb_725 => ?_) (fun hb_725 => ?_)
                · skip
                  have hn_726 : 2 ≤ (tp - mb) := (nI_leI (a := 2) (b := tp - mb) (by omega) (by omega)).mp hb_725
                  refine lv_iconst (v := 0) hx hb d_MO_act_145 (by decide) ?_
                  refine em_call (wr := [((f 22), .inl (cZ, 400, .inl mrk)), ((f 23), .inl (cI, 810, .inl wlk))]) (em_runV (As := [.int 1, .int 0]) (rest := []) ⟨hx, hb, hml, hown, hG⟩ (mo_val10 l D cI cL cZ cC f h0 tn rm ln lx at_ bd fs dp on os bn df th tp mo_ ev ss so lk rs pt ot cl one two bss wts snd nbr lts spn trm Gc mb _ hsnd hMI hev hm1 hm2 hm3 hm4 hot (by omega) hnt) (cwV 2 hG (gd_V k_1577 k_1579 k_91 k_116 k_1580) rfl rfl rfl (by decide +kernel) ⟨Nat.le_of_ble_eq_true rfl, Nat.le_of_ble_eq_true rfl⟩) (tw_V (q0 := 9) hP hD hK hE hst hS rfl rfl [9, 0, 1, 10, 11, 2, 3, 4, 7, 8] rfl (by decide)) rfl rfl hl.1 rfl (lv_room (Nat.le_of_ble_eq_true rfl)) d_MO_act_146 ⟨Nat.le_of_ble_eq_true rfl, Nat.le_of_ble_eq_true rfl⟩) hP hD hS hA [9, 0, 1, 10, 11, 2, 3, 4, 7, 8] [5, 6] rfl rfl (by decide) (by decide) (fun v u H locs hok hP hD hS => ?_) (fun x C u H locs hbad hxx hP hD hS => ?_)
                  · skip
                    obtain ⟨ev_727, tp_728, lk_729, ss_730, so_731, rs_732, pt_733, ot_734, one_735, two_736, bss_737, wts_738, snd_739, nbr_740, lts_741⟩ := u
                    obtain ⟨rfl, hp_743⟩ := hok
                    obtain ⟨hsnd_744, hMI_745, hev_746, hme_747, hot_748, hPv_749⟩ : (bln snd_739) ∧ (MI df Gc trm one_735 two_736 spn tp_728 lk_729 rs_732 pt_733) ∧ (ev_727 ≤ 40) ∧ (me bss_737 wts_738 ev_727 tp_728 0) ∧ (ot_734 ≤ ot + 12) ∧ ((ss_730 = ss + 1 ∨ (ss_730 = ss ∧ ¬ so_731 = 0 ∧ ot_734 = ot) ∨ (ss_730 = ss ∧ so_731 = so ∧ ot_734 = ot ∧ ms pt_733 ev_727 snd_739 tp_728 < ms pt ev snd tp))) := hp_743
                    have hP : va_P D classes [((f 22), .inl (cZ, 400, .inl mrk)), ((f 23), .inl (cI, 810, .inl wlk)), (h0, .inr (8, mS f tn rm ln lx at_ bd fs dp on os bn df th tp_728 mo_ ev_727 ss_730 so_731 lk_729 rs_732 pt_733 ot_734 cl)), ((f 20), .inl (cL, 400, .inr (.inl one_735))), ((f 21), .inl (cL, 400, .inr (.inl two_736))), ((f 25), .inl (cI, 41, .inl bss_737)), ((f 26), .inl (cI, 41, .inl wts_738)), ((f 27), .inl (cZ, 41, .inl snd_739)), ((f 28), .inl (cI, 41, .inl nbr_740)), ((f 29), .inl (cI, 200, .inl lts_741)), ((f 24), .inl (cI, 150, .inl spn)), ((f 18), .inl (cL, 9, .inr (.inl trm)))] H := hP
                    have hD : va_D A [((f 22), .inl (cZ, 400, .inl mrk)), ((f 23), .inl (cI, 810, .inl wlk)), (h0, .inr (8, mS f tn rm ln lx at_ bd fs dp on os bn df th tp_728 mo_ ev_727 ss_730 so_731 lk_729 rs_732 pt_733 ot_734 cl)), ((f 20), .inl (cL, 400, .inr (.inl one_735))), ((f 21), .inl (cL, 400, .inr (.inl two_736))), ((f 25), .inl (cI, 41, .inl bss_737)), ((f 26), .inl (cI, 41, .inl wts_738)), ((f 27), .inl (cZ, 41, .inl snd_739)), ((f 28), .inl (cI, 41, .inl nbr_740)), ((f 29), .inl (cI, 200, .inl lts_741)), ((f 24), .inl (cI, 150, .inl spn)), ((f 18), .inl (cL, 9, .inr (.inl trm)))] := hD
                    refine W.eq (g2 := F0 m 149 ls []) rfl ?_
                    refine lv_goto (tgt := 195) hx hb d_MO_act_149 (by decide) ?_
                    exact em_vret hx hb hr hlocks hP hD hK hS (ev_727, tp_728, lk_729, ss_730, so_731, rs_732, pt_733, ot_734, one_735, two_736, bss_737, wts_738, snd_739, nbr_740, lts_741, mrk, wlk) [2, 3, 4, 5, 6, 7, 8, 9, 0, 1, 10, 11] (by decide) rfl ⟨rfl, ⟨hsnd_744, hmrk, (show ∃ G' : Nat → Prop, MI df G' trm one_735 two_736 spn tp_728 lk_729 rs_732 pt_733 ∧ ev_727 ≤ 40 ∧ me bss_737 wts_738 ev_727 tp_728 0 ∧ ot_734 ≤ ot + 12 ∧ (ss_730 = ss + 1 ∨ (ss_730 = ss ∧ ¬ so_731 = 0 ∧ ot_734 = ot) ∨ (ss_730 = ss ∧ so_731 = so ∧ ot_734 = ot ∧ ms pt_733 ev_727 snd_739 tp_728 < ms pt ev snd tp)) from ⟨Gc, hMI_745, hev_746, hme_747, hot_748, hPv_749⟩)⟩⟩ d_MO_act_195
                  · skip
                    exact hbad.elim
                · skip
                  have hn_751 : ¬ 2 ≤ (tp - mb) := fun h => hb_725 ((nI_leI (a := 2) (b := tp - mb) (by omega) (by omega)).mpr h)
                  exfalso; omega
            · skip
              have hn_752 : ¬ (tp - mb) ≤ 2 := fun h => hb_693 ((nI_leI (a := tp - mb) (b := 2) (by omega) (by omega)).mpr h)
              refine lv_aload_n hx hb d_MO_act_117 rfl (lv_at hl 3 rfl) ?_
              refine lv_iconst (v := 2) hx hb d_MO_act_118 (by decide) ?_
              refine va_put (D := D) (ci := 8) (v := .int 2) (ty := .int) (C := rn_MO) (T := fl_MO) (N := 55) hx hb hG in_MO tt_MO tk_MO nn_MO hown hK hP hD hS 9 rfl rfl 42 (by decide) (hG _ k_1233) (fun _ h9 => h9) rfl (by decide +kernel) rfl rfl (Nat.le_of_ble_eq_true rfl) d_MO_act_119 (fun H locs hP hD hS => ?_)
              have hP : va_P D classes [((f 20), .inl (cL, 400, .inr (.inl one))), ((f 21), .inl (cL, 400, .inr (.inl two))), ((f 27), .inl (cZ, 41, .inl snd)), ((f 28), .inl (cI, 41, .inl nbr)), ((f 29), .inl (cI, 200, .inl lts)), ((f 22), .inl (cZ, 400, .inl mrk)), ((f 23), .inl (cI, 810, .inl wlk)), ((f 24), .inl (cI, 150, .inl spn)), ((f 18), .inl (cL, 9, .inr (.inl trm))), (h0, .inr (8, mS f tn rm ln lx at_ bd fs dp on os bn df th tp mo_ ev ss 2 lk rs pt ot cl)), ((f 25), .inl (cI, 41, .inl bss)), ((f 26), .inl (cI, 41, .inl wts))] H := hP
              have hD : va_D A [((f 20), .inl (cL, 400, .inr (.inl one))), ((f 21), .inl (cL, 400, .inr (.inl two))), ((f 27), .inl (cZ, 41, .inl snd)), ((f 28), .inl (cI, 41, .inl nbr)), ((f 29), .inl (cI, 200, .inl lts)), ((f 22), .inl (cZ, 400, .inl mrk)), ((f 23), .inl (cI, 810, .inl wlk)), ((f 24), .inl (cI, 150, .inl spn)), ((f 18), .inl (cL, 9, .inr (.inl trm))), (h0, .inr (8, mS f tn rm ln lx at_ bd fs dp on os bn df th tp mo_ ev ss 2 lk rs pt ot cl)), ((f 25), .inl (cI, 41, .inl bss)), ((f 26), .inl (cI, 41, .inl wts))] := hD
              refine lv_goto (tgt := 195) hx hb d_MO_act_122 (by decide) ?_
              exact em_vret hx hb hr hlocks hP hD hK hS (ev, tp, lk, ss, 2, rs, pt, ot, one, two, bss, wts, snd, nbr, lts, mrk, wlk) [9, 0, 1, 10, 11, 2, 3, 4, 5, 6, 7, 8] (by decide) rfl ⟨rfl, ⟨hsnd, hmrk, (show ∃ G' : Nat → Prop, MI df G' trm one two spn tp lk rs pt ∧ ev ≤ 40 ∧ me bss wts ev tp 0 ∧ ot ≤ ot + 12 ∧ (ss = ss + 1 ∨ (ss = ss ∧ ¬ 2 = 0 ∧ ot = ot) ∨ (ss = ss ∧ 2 = so ∧ ot = ot ∧ ms pt ev snd tp < ms pt ev snd tp)) from ⟨Gc, hMI, hev, hme, by omega, Or.inr (Or.inl ⟨rfl, by decide, rfl⟩)⟩)⟩⟩ d_MO_act_195
        · skip
          exact absurd (hb_1.symm.trans hb_691) (by decide)
      · skip
        exact hbad.elim
    · skip
      have hl : lv_has ls 4 [(2, .int 17), (1, .int (wkind lk)), (0, .ref h0)] := hl
      refine lv_aload_n hx hb d_MO_act_25 rfl (lv_at hl 2 rfl) ?_
      refine va_get (D := D) (ci := 8) (v := .int (nI tp)) (C := rn_MO) (T := fl_MO) (N := 55) hx hb hG in_MO hown hK hP 0 rfl rfl 38 (by decide) (hG _ k_1229) (fun _ h9 => h9) rfl d_MO_act_26 ?_
      refine lv_aload_n hx hb d_MO_act_29 rfl (lv_at hl 2 rfl) ?_
      refine em_call (wr := [((f 20), .inl (cL, 400, .inr (.inl one))), ((f 21), .inl (cL, 400, .inr (.inl two))), ((f 27), .inl (cZ, 41, .inl snd)), ((f 28), .inl (cI, 41, .inl nbr)), ((f 29), .inl (cI, 200, .inl lts)), ((f 22), .inl (cZ, 400, .inl mrk)), ((f 23), .inl (cI, 810, .inl wlk)), ((f 24), .inl (cI, 150, .inl spn)), ((f 18), .inl (cL, 9, .inr (.inl trm)))]) (em_runV (As := []) (rest := [.int (nI tp)]) ⟨hx, hb, hml, hown, hG⟩ (mo_below l D cI cL cZ cC f h0 tn rm ln lx at_ bd fs dp on os bn df th tp mo_ ev ss so lk rs pt ot cl bss wts _ hme hev hnt) (cwV 0 hG (gd_V k_1573 k_1575 k_90 k_116 k_1576) rfl rfl rfl (by decide +kernel) ⟨Nat.le_of_ble_eq_true rfl, Nat.le_of_ble_eq_true rfl⟩) (tw_V (q0 := 0) hP hD hK hE hst hS rfl rfl [0, 3, 4] rfl (by decide)) rfl rfl hl.1 rfl (lv_room (Nat.le_of_ble_eq_true rfl)) d_MO_act_30 ⟨Nat.le_of_ble_eq_true rfl, Nat.le_of_ble_eq_true rfl⟩) hP hD hS hA [0, 3, 4] [1, 2, 5, 6, 7, 8, 9, 10, 11] rfl rfl (by decide) (by decide) (fun v u H locs hok hP hD hS => ?_) (fun x C u H locs hbad hxx hP hD hS => ?_)
      · skip
        obtain ⟨r_753, rfl, hp_754⟩ := hok
        have hres_755 : (∃ mq : Nat, r_753 = nI mq ∧ mq ≤ tp ∧ (ev = 0 → mq = 0) ∧ (1 ≤ ev → bss (ev - 1) = nI mq) ∧ me bss wts ev mq 0) := hp_754
        obtain ⟨mb, rfl, hm1, hm2, hm3, hm4⟩ := hres_755
        have hP : va_P D classes [((f 20), .inl (cL, 400, .inr (.inl one))), ((f 21), .inl (cL, 400, .inr (.inl two))), ((f 27), .inl (cZ, 41, .inl snd)), ((f 28), .inl (cI, 41, .inl nbr)), ((f 29), .inl (cI, 200, .inl lts)), ((f 22), .inl (cZ, 400, .inl mrk)), ((f 23), .inl (cI, 810, .inl wlk)), ((f 24), .inl (cI, 150, .inl spn)), ((f 18), .inl (cL, 9, .inr (.inl trm))), (h0, .inr (8, mS f tn rm ln lx at_ bd fs dp on os bn df th tp mo_ ev ss so lk rs pt ot cl)), ((f 25), .inl (cI, 41, .inl bss)), ((f 26), .inl (cI, 41, .inl wts))] H := hP
        have hD : va_D A [((f 20), .inl (cL, 400, .inr (.inl one))), ((f 21), .inl (cL, 400, .inr (.inl two))), ((f 27), .inl (cZ, 41, .inl snd)), ((f 28), .inl (cI, 41, .inl nbr)), ((f 29), .inl (cI, 200, .inl lts)), ((f 22), .inl (cZ, 400, .inl mrk)), ((f 23), .inl (cI, 810, .inl wlk)), ((f 24), .inl (cI, 150, .inl spn)), ((f 18), .inl (cL, 9, .inr (.inl trm))), (h0, .inr (8, mS f tn rm ln lx at_ bd fs dp on os bn df th tp mo_ ev ss so lk rs pt ot cl)), ((f 25), .inl (cI, 41, .inl bss)), ((f 26), .inl (cI, 41, .inl wts))] := hD
        refine W.eq (g2 := F0 m 33 ls [.int (nI mb), .int (nI tp)]) rfl ?_
        refine lw_isub (a := tp) (b := mb) hx hb d_MO_act_33 (by omega) ?_
        refine lv_istore_n (lv' := [(3, .int (nI (tp - mb))), (2, .int 17), (1, .int (wkind lk)), (0, .ref h0)]) hx hb d_MO_act_34 rfl hl (Nat.le_of_ble_eq_true rfl) rfl (fun ls hl => ?_)
        refine lv_iload_n hx hb d_MO_act_35 rfl (lv_at hl 2 rfl) ?_
        refine lv_iconst (v := 1) hx hb d_MO_act_36 (by decide) ?_
        refine lv_icmp_ne (tgt := 69) hx hb d_MO_act_37 (by decide) (fun hb_756 => ?_) (fun hb_756 => ?_)
        · skip
          refine lv_iload_n hx hb d_MO_act_69 rfl (lv_at hl 2 rfl) ?_
          refine lv_if_eq (tgt := 85) hx hb d_MO_act_70 (by decide) (fun hb_757 => ?_) (fun hb_757 => ?_)
          · skip
            exact absurd (hb_1.symm.trans hb_757) (by decide)
          · skip
            refine lv_iload_n hx hb d_MO_act_73 rfl (lv_at hl 1 rfl) ?_
            refine lv_bipush (v := 17) hx hb d_MO_act_74 (by decide) ?_
            refine lv_icmp_eq (tgt := 85) hx hb d_MO_act_76 (by decide) (fun hbr => ?_) (fun hbr => absurd (by decide) hbr)
            refine lv_iload_n hx hb d_MO_act_85 rfl (lv_at hl 0 rfl) ?_
            refine lv_if_le (tgt := 97) hx hb d_MO_act_86 (by decide) (fun hb_758 => ?_) (fun hb_758 => ?_)
            · skip
              have hn_759 : (tp - mb) ≤ 0 := (nI_leI (a := tp - mb) (b := 0) (by omega) (by omega)).mp hb_758
              refine lv_aload_n hx hb d_MO_act_97 rfl (lv_at hl 3 rfl) ?_
              refine lv_iconst (v := 0) hx hb d_MO_act_98 (by decide) ?_
              refine lv_iconst (v := 0) hx hb d_MO_act_99 (by decide) ?_
              refine em_call (wr := [((f 22), .inl (cZ, 400, .inl mrk)), ((f 23), .inl (cI, 810, .inl wlk))]) (em_runV (As := [.int 0, .int 0]) (rest := []) ⟨hx, hb, hml, hown, hG⟩ (mo_val00 l D cI cL cZ cC f h0 tn rm ln lx at_ bd fs dp on os bn df th tp mo_ ev ss so lk rs pt ot cl one two bss wts snd nbr lts spn trm Gc mb _ hsnd hMI hev hm1 hm2 hm3 hm4 hot hnt) (cwV 2 hG (gd_V k_1577 k_1579 k_91 k_116 k_1580) rfl rfl rfl (by decide +kernel) ⟨Nat.le_of_ble_eq_true rfl, Nat.le_of_ble_eq_true rfl⟩) (tw_V (q0 := 9) hP hD hK hE hst hS rfl rfl [9, 0, 1, 10, 11, 2, 3, 4, 7, 8] rfl (by decide)) rfl rfl hl.1 rfl (lv_room (Nat.le_of_ble_eq_true rfl)) d_MO_act_100 ⟨Nat.le_of_ble_eq_true rfl, Nat.le_of_ble_eq_true rfl⟩) hP hD hS hA [9, 0, 1, 10, 11, 2, 3, 4, 7, 8] [5, 6] rfl rfl (by decide) (by decide) (fun v u H locs hok hP hD hS => ?_) (fun x C u H locs hbad hxx hP hD hS => ?_)
              · skip
                obtain ⟨ev_760, tp_761, lk_762, ss_763, so_764, rs_765, pt_766, ot_767, one_768, two_769, bss_770, wts_771, snd_772, nbr_773, lts_774⟩ := u
                obtain ⟨rfl, hp_776⟩ := hok
                obtain ⟨hsnd_777, hMI_778, hev_779, hme_780, hot_781, hPv_782⟩ : (bln snd_772) ∧ (MI df Gc trm one_768 two_769 spn tp_761 lk_762 rs_765 pt_766) ∧ (ev_760 ≤ 40) ∧ (me bss_770 wts_771 ev_760 tp_761 0) ∧ (ot_767 ≤ ot + 12) ∧ ((ss_763 = ss + 1 ∨ (ss_763 = ss ∧ ¬ so_764 = 0 ∧ ot_767 = ot) ∨ (ss_763 = ss ∧ so_764 = so ∧ ot_767 = ot ∧ ms pt_766 ev_760 snd_772 tp_761 < ms pt ev snd tp))) := hp_776
                have hP : va_P D classes [((f 22), .inl (cZ, 400, .inl mrk)), ((f 23), .inl (cI, 810, .inl wlk)), (h0, .inr (8, mS f tn rm ln lx at_ bd fs dp on os bn df th tp_761 mo_ ev_760 ss_763 so_764 lk_762 rs_765 pt_766 ot_767 cl)), ((f 20), .inl (cL, 400, .inr (.inl one_768))), ((f 21), .inl (cL, 400, .inr (.inl two_769))), ((f 25), .inl (cI, 41, .inl bss_770)), ((f 26), .inl (cI, 41, .inl wts_771)), ((f 27), .inl (cZ, 41, .inl snd_772)), ((f 28), .inl (cI, 41, .inl nbr_773)), ((f 29), .inl (cI, 200, .inl lts_774)), ((f 24), .inl (cI, 150, .inl spn)), ((f 18), .inl (cL, 9, .inr (.inl trm)))] H := hP
                have hD : va_D A [((f 22), .inl (cZ, 400, .inl mrk)), ((f 23), .inl (cI, 810, .inl wlk)), (h0, .inr (8, mS f tn rm ln lx at_ bd fs dp on os bn df th tp_761 mo_ ev_760 ss_763 so_764 lk_762 rs_765 pt_766 ot_767 cl)), ((f 20), .inl (cL, 400, .inr (.inl one_768))), ((f 21), .inl (cL, 400, .inr (.inl two_769))), ((f 25), .inl (cI, 41, .inl bss_770)), ((f 26), .inl (cI, 41, .inl wts_771)), ((f 27), .inl (cZ, 41, .inl snd_772)), ((f 28), .inl (cI, 41, .inl nbr_773)), ((f 29), .inl (cI, 200, .inl lts_774)), ((f 24), .inl (cI, 150, .inl spn)), ((f 18), .inl (cL, 9, .inr (.inl trm)))] := hD
                refine W.eq (g2 := F0 m 103 ls []) rfl ?_
                refine lv_goto (tgt := 195) hx hb d_MO_act_103 (by decide) ?_
                exact em_vret hx hb hr hlocks hP hD hK hS (ev_760, tp_761, lk_762, ss_763, so_764, rs_765, pt_766, ot_767, one_768, two_769, bss_770, wts_771, snd_772, nbr_773, lts_774, mrk, wlk) [2, 3, 4, 5, 6, 7, 8, 9, 0, 1, 10, 11] (by decide) rfl ⟨rfl, ⟨hsnd_777, hmrk, (show ∃ G' : Nat → Prop, MI df G' trm one_768 two_769 spn tp_761 lk_762 rs_765 pt_766 ∧ ev_760 ≤ 40 ∧ me bss_770 wts_771 ev_760 tp_761 0 ∧ ot_767 ≤ ot + 12 ∧ (ss_763 = ss + 1 ∨ (ss_763 = ss ∧ ¬ so_764 = 0 ∧ ot_767 = ot) ∨ (ss_763 = ss ∧ so_764 = so ∧ ot_767 = ot ∧ ms pt_766 ev_760 snd_772 tp_761 < ms pt ev snd tp)) from ⟨Gc, hMI_778, hev_779, hme_780, hot_781, hPv_782⟩)⟩⟩ d_MO_act_195
              · skip
                exact hbad.elim
            · skip
              have hn_784 : ¬ (tp - mb) ≤ 0 := fun h => hb_758 ((nI_leI (a := tp - mb) (b := 0) (by omega) (by omega)).mpr h)
              refine lv_aload_n hx hb d_MO_act_89 rfl (lv_at hl 3 rfl) ?_
              refine lv_iconst (v := 2) hx hb d_MO_act_90 (by decide) ?_
              refine va_put (D := D) (ci := 8) (v := .int 2) (ty := .int) (C := rn_MO) (T := fl_MO) (N := 55) hx hb hG in_MO tt_MO tk_MO nn_MO hown hK hP hD hS 9 rfl rfl 42 (by decide) (hG _ k_1233) (fun _ h9 => h9) rfl (by decide +kernel) rfl rfl (Nat.le_of_ble_eq_true rfl) d_MO_act_91 (fun H locs hP hD hS => ?_)
              have hP : va_P D classes [((f 20), .inl (cL, 400, .inr (.inl one))), ((f 21), .inl (cL, 400, .inr (.inl two))), ((f 27), .inl (cZ, 41, .inl snd)), ((f 28), .inl (cI, 41, .inl nbr)), ((f 29), .inl (cI, 200, .inl lts)), ((f 22), .inl (cZ, 400, .inl mrk)), ((f 23), .inl (cI, 810, .inl wlk)), ((f 24), .inl (cI, 150, .inl spn)), ((f 18), .inl (cL, 9, .inr (.inl trm))), (h0, .inr (8, mS f tn rm ln lx at_ bd fs dp on os bn df th tp mo_ ev ss 2 lk rs pt ot cl)), ((f 25), .inl (cI, 41, .inl bss)), ((f 26), .inl (cI, 41, .inl wts))] H := hP
              have hD : va_D A [((f 20), .inl (cL, 400, .inr (.inl one))), ((f 21), .inl (cL, 400, .inr (.inl two))), ((f 27), .inl (cZ, 41, .inl snd)), ((f 28), .inl (cI, 41, .inl nbr)), ((f 29), .inl (cI, 200, .inl lts)), ((f 22), .inl (cZ, 400, .inl mrk)), ((f 23), .inl (cI, 810, .inl wlk)), ((f 24), .inl (cI, 150, .inl spn)), ((f 18), .inl (cL, 9, .inr (.inl trm))), (h0, .inr (8, mS f tn rm ln lx at_ bd fs dp on os bn df th tp mo_ ev ss 2 lk rs pt ot cl)), ((f 25), .inl (cI, 41, .inl bss)), ((f 26), .inl (cI, 41, .inl wts))] := hD
              refine lv_goto (tgt := 195) hx hb d_MO_act_94 (by decide) ?_
              exact em_vret hx hb hr hlocks hP hD hK hS (ev, tp, lk, ss, 2, rs, pt, ot, one, two, bss, wts, snd, nbr, lts, mrk, wlk) [9, 0, 1, 10, 11, 2, 3, 4, 5, 6, 7, 8] (by decide) rfl ⟨rfl, ⟨hsnd, hmrk, (show ∃ G' : Nat → Prop, MI df G' trm one two spn tp lk rs pt ∧ ev ≤ 40 ∧ me bss wts ev tp 0 ∧ ot ≤ ot + 12 ∧ (ss = ss + 1 ∨ (ss = ss ∧ ¬ 2 = 0 ∧ ot = ot) ∨ (ss = ss ∧ 2 = so ∧ ot = ot ∧ ms pt ev snd tp < ms pt ev snd tp)) from ⟨Gc, hMI, hev, hme, by omega, Or.inr (Or.inl ⟨rfl, by decide, rfl⟩)⟩)⟩⟩ d_MO_act_195
        · skip
          exact absurd (hb_1.symm.trans hb_756) (by decide)
      · skip
        exact hbad.elim
    · skip
      have hl : lv_has ls 4 [(2, .int 18), (1, .int (wkind lk)), (0, .ref h0)] := hl
      refine lv_aload_n hx hb d_MO_act_25 rfl (lv_at hl 2 rfl) ?_
      refine va_get (D := D) (ci := 8) (v := .int (nI tp)) (C := rn_MO) (T := fl_MO) (N := 55) hx hb hG in_MO hown hK hP 0 rfl rfl 38 (by decide) (hG _ k_1229) (fun _ h9 => h9) rfl d_MO_act_26 ?_
      refine lv_aload_n hx hb d_MO_act_29 rfl (lv_at hl 2 rfl) ?_
      refine em_call (wr := [((f 20), .inl (cL, 400, .inr (.inl one))), ((f 21), .inl (cL, 400, .inr (.inl two))), ((f 27), .inl (cZ, 41, .inl snd)), ((f 28), .inl (cI, 41, .inl nbr)), ((f 29), .inl (cI, 200, .inl lts)), ((f 22), .inl (cZ, 400, .inl mrk)), ((f 23), .inl (cI, 810, .inl wlk)), ((f 24), .inl (cI, 150, .inl spn)), ((f 18), .inl (cL, 9, .inr (.inl trm)))]) (em_runV (As := []) (rest := [.int (nI tp)]) ⟨hx, hb, hml, hown, hG⟩ (mo_below l D cI cL cZ cC f h0 tn rm ln lx at_ bd fs dp on os bn df th tp mo_ ev ss so lk rs pt ot cl bss wts _ hme hev hnt) (cwV 0 hG (gd_V k_1573 k_1575 k_90 k_116 k_1576) rfl rfl rfl (by decide +kernel) ⟨Nat.le_of_ble_eq_true rfl, Nat.le_of_ble_eq_true rfl⟩) (tw_V (q0 := 0) hP hD hK hE hst hS rfl rfl [0, 3, 4] rfl (by decide)) rfl rfl hl.1 rfl (lv_room (Nat.le_of_ble_eq_true rfl)) d_MO_act_30 ⟨Nat.le_of_ble_eq_true rfl, Nat.le_of_ble_eq_true rfl⟩) hP hD hS hA [0, 3, 4] [1, 2, 5, 6, 7, 8, 9, 10, 11] rfl rfl (by decide) (by decide) (fun v u H locs hok hP hD hS => ?_) (fun x C u H locs hbad hxx hP hD hS => ?_)
      · skip
        obtain ⟨r_785, rfl, hp_786⟩ := hok
        have hres_787 : (∃ mq : Nat, r_785 = nI mq ∧ mq ≤ tp ∧ (ev = 0 → mq = 0) ∧ (1 ≤ ev → bss (ev - 1) = nI mq) ∧ me bss wts ev mq 0) := hp_786
        obtain ⟨mb, rfl, hm1, hm2, hm3, hm4⟩ := hres_787
        have hP : va_P D classes [((f 20), .inl (cL, 400, .inr (.inl one))), ((f 21), .inl (cL, 400, .inr (.inl two))), ((f 27), .inl (cZ, 41, .inl snd)), ((f 28), .inl (cI, 41, .inl nbr)), ((f 29), .inl (cI, 200, .inl lts)), ((f 22), .inl (cZ, 400, .inl mrk)), ((f 23), .inl (cI, 810, .inl wlk)), ((f 24), .inl (cI, 150, .inl spn)), ((f 18), .inl (cL, 9, .inr (.inl trm))), (h0, .inr (8, mS f tn rm ln lx at_ bd fs dp on os bn df th tp mo_ ev ss so lk rs pt ot cl)), ((f 25), .inl (cI, 41, .inl bss)), ((f 26), .inl (cI, 41, .inl wts))] H := hP
        have hD : va_D A [((f 20), .inl (cL, 400, .inr (.inl one))), ((f 21), .inl (cL, 400, .inr (.inl two))), ((f 27), .inl (cZ, 41, .inl snd)), ((f 28), .inl (cI, 41, .inl nbr)), ((f 29), .inl (cI, 200, .inl lts)), ((f 22), .inl (cZ, 400, .inl mrk)), ((f 23), .inl (cI, 810, .inl wlk)), ((f 24), .inl (cI, 150, .inl spn)), ((f 18), .inl (cL, 9, .inr (.inl trm))), (h0, .inr (8, mS f tn rm ln lx at_ bd fs dp on os bn df th tp mo_ ev ss so lk rs pt ot cl)), ((f 25), .inl (cI, 41, .inl bss)), ((f 26), .inl (cI, 41, .inl wts))] := hD
        refine W.eq (g2 := F0 m 33 ls [.int (nI mb), .int (nI tp)]) rfl ?_
        refine lw_isub (a := tp) (b := mb) hx hb d_MO_act_33 (by omega) ?_
        refine lv_istore_n (lv' := [(3, .int (nI (tp - mb))), (2, .int 18), (1, .int (wkind lk)), (0, .ref h0)]) hx hb d_MO_act_34 rfl hl (Nat.le_of_ble_eq_true rfl) rfl (fun ls hl => ?_)
        refine lv_iload_n hx hb d_MO_act_35 rfl (lv_at hl 2 rfl) ?_
        refine lv_iconst (v := 1) hx hb d_MO_act_36 (by decide) ?_
        refine lv_icmp_ne (tgt := 69) hx hb d_MO_act_37 (by decide) (fun hb_788 => ?_) (fun hb_788 => ?_)
        · skip
          refine lv_iload_n hx hb d_MO_act_69 rfl (lv_at hl 2 rfl) ?_
          refine lv_if_eq (tgt := 85) hx hb d_MO_act_70 (by decide) (fun hb_789 => ?_) (fun hb_789 => ?_)
          · skip
            exact absurd (hb_1.symm.trans hb_789) (by decide)
          · skip
            refine lv_iload_n hx hb d_MO_act_73 rfl (lv_at hl 1 rfl) ?_
            refine lv_bipush (v := 17) hx hb d_MO_act_74 (by decide) ?_
            refine lv_icmp_eq (tgt := 85) hx hb d_MO_act_76 (by decide) (fun hbr => absurd hbr (by decide)) (fun hbr => ?_)
            refine lv_iload_n hx hb d_MO_act_79 rfl (lv_at hl 1 rfl) ?_
            refine lv_bipush (v := 20) hx hb d_MO_act_80 (by decide) ?_
            refine lv_icmp_le (tgt := 106) hx hb d_MO_act_82 (by decide) (fun hbr => ?_) (fun hbr => absurd (by decide) hbr)
            refine lv_iload_n hx hb d_MO_act_106 rfl (lv_at hl 1 rfl) ?_
            refine lv_bipush (v := 16) hx hb d_MO_act_107 (by decide) ?_
            refine lv_icmp_ne (tgt := 152) hx hb d_MO_act_109 (by decide) (fun hbr => ?_) (fun hbr => absurd hbr (by decide))
            refine lv_iload_n hx hb d_MO_act_152 rfl (lv_at hl 0 rfl) ?_
            refine lv_iload_n hx hb d_MO_act_153 rfl (lv_at hl 1 rfl) ?_
            refine W.callR (W.runS (As := [.int 18]) (rest := [.int (nI (tp - mb))]) ⟨hx, hb, hml, hown, hG⟩ (mo_needs l D cI cL cZ cC 18 ) (cwS 1 hG (gd_S k_1621 k_1622 k_116 k_1623) rfl rfl rfl (by decide +kernel) ⟨Nat.le_of_ble_eq_true rfl, Nat.le_of_ble_eq_true rfl⟩) (wq_S hP hK [] rfl) rfl rfl hl.1 rfl (lv_room (Nat.le_of_ble_eq_true rfl)) d_MO_act_154 ⟨Nat.le_of_ble_eq_true rfl, Nat.le_of_ble_eq_true rfl⟩) ?_
            refine W.eq (g2 := F0 m 157 ls [.int (mneeds (18 : Int32)), .int (nI (tp - mb))]) rfl ?_
            refine W.eq (g2 := F0 m 157 ls [.int 1, .int (nI (tp - mb))]) (by rw [show mneeds 18 = 1 by decide]) ?_
            refine lv_icmp_ge (tgt := 169) hx hb d_MO_act_157 (by decide) (fun hb_790 => ?_) (fun hb_790 => ?_)
            · skip
              have hn_791 : 1 ≤ (tp - mb) := (nI_leI (a := 1) (b := tp - mb) (by omega) (by omega)).mp hb_790
              refine lv_iload_n hx hb d_MO_act_169 rfl (lv_at hl 1 rfl) ?_
              refine lv_bipush (v := 10) hx hb d_MO_act_170 (by decide) ?_
              refine lv_icmp_ge (tgt := 183) hx hb d_MO_act_172 (by decide) (fun hbr => ?_) (fun hbr => absurd (by decide) hbr)
              refine lv_aload_n hx hb d_MO_act_183 rfl (lv_at hl 3 rfl) ?_
              refine lv_iload_n hx hb d_MO_act_184 rfl (lv_at hl 1 rfl) ?_
              refine lv_aload_n hx hb d_MO_act_185 rfl (lv_at hl 3 rfl) ?_
              refine lv_iconst (v := 0) hx hb d_MO_act_186 (by decide) ?_
              refine em_call (wr := [((f 27), .inl (cZ, 41, .inl snd)), ((f 28), .inl (cI, 41, .inl nbr)), ((f 29), .inl (cI, 200, .inl lts)), ((f 22), .inl (cZ, 400, .inl mrk)), ((f 23), .inl (cI, 810, .inl wlk)), ((f 25), .inl (cI, 41, .inl bss)), ((f 26), .inl (cI, 41, .inl wts))]) (em_runV (As := [.int (nI 0)]) (rest := [.int 18, .ref h0]) ⟨hx, hb, hml, hown, hG⟩ (mo_argument l D cI cL cZ cC f h0 tn rm ln lx at_ bd fs dp on os bn df th tp mo_ ev ss so lk rs pt ot cl two spn trm one Gc 0 _ (by omega) (by omega) hHG hsp hnt) (cwV 1 hG (gd_V k_1581 k_1583 k_92 k_116 k_1584) rfl rfl rfl (by decide +kernel) ⟨Nat.le_of_ble_eq_true rfl, Nat.le_of_ble_eq_true rfl⟩) (tw_V (q0 := 9) hP hD hK hE hst hS rfl rfl [9, 1, 7, 8, 0] rfl (by decide)) rfl rfl hl.1 rfl (lv_room (Nat.le_of_ble_eq_true rfl)) d_MO_act_187 ⟨Nat.le_of_ble_eq_true rfl, Nat.le_of_ble_eq_true rfl⟩) hP hD hS hA [9, 1, 7, 8, 0] [2, 3, 4, 5, 6, 10, 11] rfl rfl (by decide) (by decide) (fun v u H locs hok hP hD hS => ?_) (fun x C u H locs hbad hxx hP hD hS => ?_)
              · skip
                obtain ⟨r_792, rfl, hp_793⟩ := hok
                have hres_794 : (okh df Gc r_792) := hp_793
                have hP : va_P D classes [((f 27), .inl (cZ, 41, .inl snd)), ((f 28), .inl (cI, 41, .inl nbr)), ((f 29), .inl (cI, 200, .inl lts)), ((f 22), .inl (cZ, 400, .inl mrk)), ((f 23), .inl (cI, 810, .inl wlk)), ((f 25), .inl (cI, 41, .inl bss)), ((f 26), .inl (cI, 41, .inl wts)), (h0, .inr (8, mS f tn rm ln lx at_ bd fs dp on os bn df th tp mo_ ev ss so lk rs pt ot cl)), ((f 21), .inl (cL, 400, .inr (.inl two))), ((f 24), .inl (cI, 150, .inl spn)), ((f 18), .inl (cL, 9, .inr (.inl trm))), ((f 20), .inl (cL, 400, .inr (.inl one)))] H := hP
                have hD : va_D A [((f 27), .inl (cZ, 41, .inl snd)), ((f 28), .inl (cI, 41, .inl nbr)), ((f 29), .inl (cI, 200, .inl lts)), ((f 22), .inl (cZ, 400, .inl mrk)), ((f 23), .inl (cI, 810, .inl wlk)), ((f 25), .inl (cI, 41, .inl bss)), ((f 26), .inl (cI, 41, .inl wts)), (h0, .inr (8, mS f tn rm ln lx at_ bd fs dp on os bn df th tp mo_ ev ss so lk rs pt ot cl)), ((f 21), .inl (cL, 400, .inr (.inl two))), ((f 24), .inl (cI, 150, .inl spn)), ((f 18), .inl (cL, 9, .inr (.inl trm))), ((f 20), .inl (cL, 400, .inr (.inl one)))] := hD
                refine W.eq (g2 := F0 m 190 ls [.long r_792, .int 18, .ref h0]) rfl ?_
                refine lv_iconst (v := 0) hx hb d_MO_act_190 (by decide) ?_
                refine lv_iconst (v := 0) hx hb d_MO_act_191 (by decide) ?_
                refine em_call (wr := [((f 29), .inl (cI, 200, .inl lts)), ((f 22), .inl (cZ, 400, .inl mrk)), ((f 23), .inl (cI, 810, .inl wlk)), ((f 21), .inl (cL, 400, .inr (.inl two))), ((f 24), .inl (cI, 150, .inl spn)), ((f 18), .inl (cL, 9, .inr (.inl trm))), ((f 20), .inl (cL, 400, .inr (.inl one)))]) (em_runV (As := [.int (nI 18), .long r_792, .int 0, .int 0]) (rest := []) ⟨hx, hb, hml, hown, hG⟩ (mo_eval0 l D cI cL cZ cC f h0 tn rm ln lx at_ bd fs dp on os bn df th tp mo_ ev ss so lk rs pt ot cl bss wts snd nbr 18 r_792 0 _ hsnd (by decide) (by decide) (by decide) (by decide) (hm4.mono (by have hq := nd_or 18; omega)) hev hnt) (cwV 4 hG (gd_V k_1600 k_1602 k_96 k_116 k_1603) rfl rfl rfl (by decide +kernel) ⟨Nat.le_of_ble_eq_true rfl, Nat.le_of_ble_eq_true rfl⟩) (tw_V (q0 := 7) hP hD hK hE hst hS rfl rfl [7, 5, 6, 0, 1] rfl (by decide)) rfl rfl hl.1 rfl (lv_room (Nat.le_of_ble_eq_true rfl)) d_MO_act_192 ⟨Nat.le_of_ble_eq_true rfl, Nat.le_of_ble_eq_true rfl⟩) hP hD hS hA [7, 5, 6, 0, 1] [2, 3, 4, 8, 9, 10, 11] rfl rfl (by decide) (by decide) (fun v u H locs hok hP hD hS => ?_) (fun x C u H locs hbad hxx hP hD hS => ?_)
                · skip
                  obtain ⟨so_795, ev_796, lk_797, bss_798, wts_799, snd_800, nbr_801⟩ := u
                  obtain ⟨rfl, hp_803⟩ := hok
                  obtain ⟨hsnd_804, hme_805, hev_806, hE_807⟩ : (bln snd_800) ∧ (me bss_798 wts_799 ev_796 tp 0) ∧ (ev_796 ≤ 40) ∧ (((¬ so_795 = 0 ∧ ev_796 = ev ∧ lk_797 = lk) ∨ (so_795 = so ∧ ev_796 = ev + 1 ∧ lk_797 = r_792 ∧ fz snd_800 ev_796 = fz snd ev + 1))) := hp_803
                  have hP : va_P D classes [((f 29), .inl (cI, 200, .inl lts)), ((f 22), .inl (cZ, 400, .inl mrk)), ((f 23), .inl (cI, 810, .inl wlk)), ((f 21), .inl (cL, 400, .inr (.inl two))), ((f 24), .inl (cI, 150, .inl spn)), ((f 18), .inl (cL, 9, .inr (.inl trm))), ((f 20), .inl (cL, 400, .inr (.inl one))), (h0, .inr (8, mS f tn rm ln lx at_ bd fs dp on os bn df th tp mo_ ev_796 ss so_795 lk_797 rs pt ot cl)), ((f 25), .inl (cI, 41, .inl bss_798)), ((f 26), .inl (cI, 41, .inl wts_799)), ((f 27), .inl (cZ, 41, .inl snd_800)), ((f 28), .inl (cI, 41, .inl nbr_801))] H := hP
                  have hD : va_D A [((f 29), .inl (cI, 200, .inl lts)), ((f 22), .inl (cZ, 400, .inl mrk)), ((f 23), .inl (cI, 810, .inl wlk)), ((f 21), .inl (cL, 400, .inr (.inl two))), ((f 24), .inl (cI, 150, .inl spn)), ((f 18), .inl (cL, 9, .inr (.inl trm))), ((f 20), .inl (cL, 400, .inr (.inl one))), (h0, .inr (8, mS f tn rm ln lx at_ bd fs dp on os bn df th tp mo_ ev_796 ss so_795 lk_797 rs pt ot cl)), ((f 25), .inl (cI, 41, .inl bss_798)), ((f 26), .inl (cI, 41, .inl wts_799)), ((f 27), .inl (cZ, 41, .inl snd_800)), ((f 28), .inl (cI, 41, .inl nbr_801))] := hD
                  refine W.eq (g2 := F0 m 195 ls []) rfl ?_
                  exact em_vret hx hb hr hlocks hP hD hK hS (ev_796, tp, lk_797, ss, so_795, rs, pt, ot, one, two, bss_798, wts_799, snd_800, nbr_801, lts, mrk, wlk) [7, 6, 3, 8, 9, 10, 11, 0, 1, 2, 4, 5] (by decide) rfl ⟨rfl, ⟨hsnd_804, hmrk, (show ∃ G' : Nat → Prop, MI df G' trm one two spn tp lk_797 rs pt ∧ ev_796 ≤ 40 ∧ me bss_798 wts_799 ev_796 tp 0 ∧ ot ≤ ot + 12 ∧ (ss = ss + 1 ∨ (ss = ss ∧ ¬ so_795 = 0 ∧ ot = ot) ∨ (ss = ss ∧ so_795 = so ∧ ot = ot ∧ ms pt ev_796 snd_800 tp < ms pt ev snd tp)) from ⟨Gc, ⟨hHG, (by rcases hE_807 with ⟨_, _, q⟩ | ⟨_, _, q, _⟩; rw [q]; exact hlk; rw [q]; exact hres_794), hrs, htp, hsp⟩, hev_806, hme_805, by omega, (by rcases hE_807 with ⟨q, _, _⟩ | ⟨q1, q2, q3, q4⟩; exact Or.inr (Or.inl ⟨rfl, q, rfl⟩); exact Or.inr (Or.inr ⟨rfl, q1, rfl, by unfold ms; omega⟩))⟩)⟩⟩ d_MO_act_195
                · skip
                  exact hbad.elim
              · skip
                exact hbad.elim
            · skip
              have hn_809 : ¬ 1 ≤ (tp - mb) := fun h => hb_790 ((nI_leI (a := 1) (b := tp - mb) (by omega) (by omega)).mpr h)
              refine lv_aload_n hx hb d_MO_act_160 rfl (lv_at hl 3 rfl) ?_
              refine lv_iconst (v := 0) hx hb d_MO_act_161 (by decide) ?_
              refine lv_iconst (v := 1) hx hb d_MO_act_162 (by decide) ?_
              refine em_call (wr := [((f 22), .inl (cZ, 400, .inl mrk)), ((f 23), .inl (cI, 810, .inl wlk))]) (em_runV (As := [.int 0, .int 1]) (rest := []) ⟨hx, hb, hml, hown, hG⟩ (mo_val01 l D cI cL cZ cC f h0 tn rm ln lx at_ bd fs dp on os bn df th tp mo_ ev ss so lk rs pt ot cl one two bss wts snd nbr lts spn trm Gc mb _ hsnd hMI hev hm1 hm2 hm3 hm4 hot hnt) (cwV 2 hG (gd_V k_1577 k_1579 k_91 k_116 k_1580) rfl rfl rfl (by decide +kernel) ⟨Nat.le_of_ble_eq_true rfl, Nat.le_of_ble_eq_true rfl⟩) (tw_V (q0 := 9) hP hD hK hE hst hS rfl rfl [9, 0, 1, 10, 11, 2, 3, 4, 7, 8] rfl (by decide)) rfl rfl hl.1 rfl (lv_room (Nat.le_of_ble_eq_true rfl)) d_MO_act_163 ⟨Nat.le_of_ble_eq_true rfl, Nat.le_of_ble_eq_true rfl⟩) hP hD hS hA [9, 0, 1, 10, 11, 2, 3, 4, 7, 8] [5, 6] rfl rfl (by decide) (by decide) (fun v u H locs hok hP hD hS => ?_) (fun x C u H locs hbad hxx hP hD hS => ?_)
              · skip
                obtain ⟨ev_810, tp_811, lk_812, ss_813, so_814, rs_815, pt_816, ot_817, one_818, two_819, bss_820, wts_821, snd_822, nbr_823, lts_824⟩ := u
                obtain ⟨rfl, hp_826⟩ := hok
                obtain ⟨hsnd_827, hMI_828, hev_829, hme_830, hot_831, hPv_832⟩ : (bln snd_822) ∧ (MI df Gc trm one_818 two_819 spn tp_811 lk_812 rs_815 pt_816) ∧ (ev_810 ≤ 40) ∧ (me bss_820 wts_821 ev_810 tp_811 0) ∧ (ot_817 ≤ ot + 12) ∧ ((ss_813 = ss + 1 ∨ (ss_813 = ss ∧ ¬ so_814 = 0 ∧ ot_817 = ot) ∨ (ss_813 = ss ∧ so_814 = so ∧ ot_817 = ot ∧ ms pt_816 ev_810 snd_822 tp_811 < ms pt ev snd tp))) := hp_826
                have hP : va_P D classes [((f 22), .inl (cZ, 400, .inl mrk)), ((f 23), .inl (cI, 810, .inl wlk)), (h0, .inr (8, mS f tn rm ln lx at_ bd fs dp on os bn df th tp_811 mo_ ev_810 ss_813 so_814 lk_812 rs_815 pt_816 ot_817 cl)), ((f 20), .inl (cL, 400, .inr (.inl one_818))), ((f 21), .inl (cL, 400, .inr (.inl two_819))), ((f 25), .inl (cI, 41, .inl bss_820)), ((f 26), .inl (cI, 41, .inl wts_821)), ((f 27), .inl (cZ, 41, .inl snd_822)), ((f 28), .inl (cI, 41, .inl nbr_823)), ((f 29), .inl (cI, 200, .inl lts_824)), ((f 24), .inl (cI, 150, .inl spn)), ((f 18), .inl (cL, 9, .inr (.inl trm)))] H := hP
                have hD : va_D A [((f 22), .inl (cZ, 400, .inl mrk)), ((f 23), .inl (cI, 810, .inl wlk)), (h0, .inr (8, mS f tn rm ln lx at_ bd fs dp on os bn df th tp_811 mo_ ev_810 ss_813 so_814 lk_812 rs_815 pt_816 ot_817 cl)), ((f 20), .inl (cL, 400, .inr (.inl one_818))), ((f 21), .inl (cL, 400, .inr (.inl two_819))), ((f 25), .inl (cI, 41, .inl bss_820)), ((f 26), .inl (cI, 41, .inl wts_821)), ((f 27), .inl (cZ, 41, .inl snd_822)), ((f 28), .inl (cI, 41, .inl nbr_823)), ((f 29), .inl (cI, 200, .inl lts_824)), ((f 24), .inl (cI, 150, .inl spn)), ((f 18), .inl (cL, 9, .inr (.inl trm)))] := hD
                refine W.eq (g2 := F0 m 166 ls []) rfl ?_
                refine lv_goto (tgt := 195) hx hb d_MO_act_166 (by decide) ?_
                exact em_vret hx hb hr hlocks hP hD hK hS (ev_810, tp_811, lk_812, ss_813, so_814, rs_815, pt_816, ot_817, one_818, two_819, bss_820, wts_821, snd_822, nbr_823, lts_824, mrk, wlk) [2, 3, 4, 5, 6, 7, 8, 9, 0, 1, 10, 11] (by decide) rfl ⟨rfl, ⟨hsnd_827, hmrk, (show ∃ G' : Nat → Prop, MI df G' trm one_818 two_819 spn tp_811 lk_812 rs_815 pt_816 ∧ ev_810 ≤ 40 ∧ me bss_820 wts_821 ev_810 tp_811 0 ∧ ot_817 ≤ ot + 12 ∧ (ss_813 = ss + 1 ∨ (ss_813 = ss ∧ ¬ so_814 = 0 ∧ ot_817 = ot) ∨ (ss_813 = ss ∧ so_814 = so ∧ ot_817 = ot ∧ ms pt_816 ev_810 snd_822 tp_811 < ms pt ev snd tp)) from ⟨Gc, hMI_828, hev_829, hme_830, hot_831, hPv_832⟩)⟩⟩ d_MO_act_195
              · skip
                exact hbad.elim
        · skip
          exact absurd (hb_1.symm.trans hb_788) (by decide)
      · skip
        exact hbad.elim
    · skip
      have hl : lv_has ls 4 [(2, .int 19), (1, .int (wkind lk)), (0, .ref h0)] := hl
      refine lv_aload_n hx hb d_MO_act_25 rfl (lv_at hl 2 rfl) ?_
      refine va_get (D := D) (ci := 8) (v := .int (nI tp)) (C := rn_MO) (T := fl_MO) (N := 55) hx hb hG in_MO hown hK hP 0 rfl rfl 38 (by decide) (hG _ k_1229) (fun _ h9 => h9) rfl d_MO_act_26 ?_
      refine lv_aload_n hx hb d_MO_act_29 rfl (lv_at hl 2 rfl) ?_
      refine em_call (wr := [((f 20), .inl (cL, 400, .inr (.inl one))), ((f 21), .inl (cL, 400, .inr (.inl two))), ((f 27), .inl (cZ, 41, .inl snd)), ((f 28), .inl (cI, 41, .inl nbr)), ((f 29), .inl (cI, 200, .inl lts)), ((f 22), .inl (cZ, 400, .inl mrk)), ((f 23), .inl (cI, 810, .inl wlk)), ((f 24), .inl (cI, 150, .inl spn)), ((f 18), .inl (cL, 9, .inr (.inl trm)))]) (em_runV (As := []) (rest := [.int (nI tp)]) ⟨hx, hb, hml, hown, hG⟩ (mo_below l D cI cL cZ cC f h0 tn rm ln lx at_ bd fs dp on os bn df th tp mo_ ev ss so lk rs pt ot cl bss wts _ hme hev hnt) (cwV 0 hG (gd_V k_1573 k_1575 k_90 k_116 k_1576) rfl rfl rfl (by decide +kernel) ⟨Nat.le_of_ble_eq_true rfl, Nat.le_of_ble_eq_true rfl⟩) (tw_V (q0 := 0) hP hD hK hE hst hS rfl rfl [0, 3, 4] rfl (by decide)) rfl rfl hl.1 rfl (lv_room (Nat.le_of_ble_eq_true rfl)) d_MO_act_30 ⟨Nat.le_of_ble_eq_true rfl, Nat.le_of_ble_eq_true rfl⟩) hP hD hS hA [0, 3, 4] [1, 2, 5, 6, 7, 8, 9, 10, 11] rfl rfl (by decide) (by decide) (fun v u H locs hok hP hD hS => ?_) (fun x C u H locs hbad hxx hP hD hS => ?_)
      · skip
        obtain ⟨r_834, rfl, hp_835⟩ := hok
        have hres_836 : (∃ mq : Nat, r_834 = nI mq ∧ mq ≤ tp ∧ (ev = 0 → mq = 0) ∧ (1 ≤ ev → bss (ev - 1) = nI mq) ∧ me bss wts ev mq 0) := hp_835
        obtain ⟨mb, rfl, hm1, hm2, hm3, hm4⟩ := hres_836
        have hP : va_P D classes [((f 20), .inl (cL, 400, .inr (.inl one))), ((f 21), .inl (cL, 400, .inr (.inl two))), ((f 27), .inl (cZ, 41, .inl snd)), ((f 28), .inl (cI, 41, .inl nbr)), ((f 29), .inl (cI, 200, .inl lts)), ((f 22), .inl (cZ, 400, .inl mrk)), ((f 23), .inl (cI, 810, .inl wlk)), ((f 24), .inl (cI, 150, .inl spn)), ((f 18), .inl (cL, 9, .inr (.inl trm))), (h0, .inr (8, mS f tn rm ln lx at_ bd fs dp on os bn df th tp mo_ ev ss so lk rs pt ot cl)), ((f 25), .inl (cI, 41, .inl bss)), ((f 26), .inl (cI, 41, .inl wts))] H := hP
        have hD : va_D A [((f 20), .inl (cL, 400, .inr (.inl one))), ((f 21), .inl (cL, 400, .inr (.inl two))), ((f 27), .inl (cZ, 41, .inl snd)), ((f 28), .inl (cI, 41, .inl nbr)), ((f 29), .inl (cI, 200, .inl lts)), ((f 22), .inl (cZ, 400, .inl mrk)), ((f 23), .inl (cI, 810, .inl wlk)), ((f 24), .inl (cI, 150, .inl spn)), ((f 18), .inl (cL, 9, .inr (.inl trm))), (h0, .inr (8, mS f tn rm ln lx at_ bd fs dp on os bn df th tp mo_ ev ss so lk rs pt ot cl)), ((f 25), .inl (cI, 41, .inl bss)), ((f 26), .inl (cI, 41, .inl wts))] := hD
        refine W.eq (g2 := F0 m 33 ls [.int (nI mb), .int (nI tp)]) rfl ?_
        refine lw_isub (a := tp) (b := mb) hx hb d_MO_act_33 (by omega) ?_
        refine lv_istore_n (lv' := [(3, .int (nI (tp - mb))), (2, .int 19), (1, .int (wkind lk)), (0, .ref h0)]) hx hb d_MO_act_34 rfl hl (Nat.le_of_ble_eq_true rfl) rfl (fun ls hl => ?_)
        refine lv_iload_n hx hb d_MO_act_35 rfl (lv_at hl 2 rfl) ?_
        refine lv_iconst (v := 1) hx hb d_MO_act_36 (by decide) ?_
        refine lv_icmp_ne (tgt := 69) hx hb d_MO_act_37 (by decide) (fun hb_837 => ?_) (fun hb_837 => ?_)
        · skip
          refine lv_iload_n hx hb d_MO_act_69 rfl (lv_at hl 2 rfl) ?_
          refine lv_if_eq (tgt := 85) hx hb d_MO_act_70 (by decide) (fun hb_838 => ?_) (fun hb_838 => ?_)
          · skip
            exact absurd (hb_1.symm.trans hb_838) (by decide)
          · skip
            refine lv_iload_n hx hb d_MO_act_73 rfl (lv_at hl 1 rfl) ?_
            refine lv_bipush (v := 17) hx hb d_MO_act_74 (by decide) ?_
            refine lv_icmp_eq (tgt := 85) hx hb d_MO_act_76 (by decide) (fun hbr => absurd hbr (by decide)) (fun hbr => ?_)
            refine lv_iload_n hx hb d_MO_act_79 rfl (lv_at hl 1 rfl) ?_
            refine lv_bipush (v := 20) hx hb d_MO_act_80 (by decide) ?_
            refine lv_icmp_le (tgt := 106) hx hb d_MO_act_82 (by decide) (fun hbr => ?_) (fun hbr => absurd (by decide) hbr)
            refine lv_iload_n hx hb d_MO_act_106 rfl (lv_at hl 1 rfl) ?_
            refine lv_bipush (v := 16) hx hb d_MO_act_107 (by decide) ?_
            refine lv_icmp_ne (tgt := 152) hx hb d_MO_act_109 (by decide) (fun hbr => ?_) (fun hbr => absurd hbr (by decide))
            refine lv_iload_n hx hb d_MO_act_152 rfl (lv_at hl 0 rfl) ?_
            refine lv_iload_n hx hb d_MO_act_153 rfl (lv_at hl 1 rfl) ?_
            refine W.callR (W.runS (As := [.int 19]) (rest := [.int (nI (tp - mb))]) ⟨hx, hb, hml, hown, hG⟩ (mo_needs l D cI cL cZ cC 19 ) (cwS 1 hG (gd_S k_1621 k_1622 k_116 k_1623) rfl rfl rfl (by decide +kernel) ⟨Nat.le_of_ble_eq_true rfl, Nat.le_of_ble_eq_true rfl⟩) (wq_S hP hK [] rfl) rfl rfl hl.1 rfl (lv_room (Nat.le_of_ble_eq_true rfl)) d_MO_act_154 ⟨Nat.le_of_ble_eq_true rfl, Nat.le_of_ble_eq_true rfl⟩) ?_
            refine W.eq (g2 := F0 m 157 ls [.int (mneeds (19 : Int32)), .int (nI (tp - mb))]) rfl ?_
            refine W.eq (g2 := F0 m 157 ls [.int 1, .int (nI (tp - mb))]) (by rw [show mneeds 19 = 1 by decide]) ?_
            refine lv_icmp_ge (tgt := 169) hx hb d_MO_act_157 (by decide) (fun hb_839 => ?_) (fun hb_839 => ?_)
            · skip
              have hn_840 : 1 ≤ (tp - mb) := (nI_leI (a := 1) (b := tp - mb) (by omega) (by omega)).mp hb_839
              refine lv_iload_n hx hb d_MO_act_169 rfl (lv_at hl 1 rfl) ?_
              refine lv_bipush (v := 10) hx hb d_MO_act_170 (by decide) ?_
              refine lv_icmp_ge (tgt := 183) hx hb d_MO_act_172 (by decide) (fun hbr => ?_) (fun hbr => absurd (by decide) hbr)
              refine lv_aload_n hx hb d_MO_act_183 rfl (lv_at hl 3 rfl) ?_
              refine lv_iload_n hx hb d_MO_act_184 rfl (lv_at hl 1 rfl) ?_
              refine lv_aload_n hx hb d_MO_act_185 rfl (lv_at hl 3 rfl) ?_
              refine lv_iconst (v := 0) hx hb d_MO_act_186 (by decide) ?_
              refine em_call (wr := [((f 27), .inl (cZ, 41, .inl snd)), ((f 28), .inl (cI, 41, .inl nbr)), ((f 29), .inl (cI, 200, .inl lts)), ((f 22), .inl (cZ, 400, .inl mrk)), ((f 23), .inl (cI, 810, .inl wlk)), ((f 25), .inl (cI, 41, .inl bss)), ((f 26), .inl (cI, 41, .inl wts))]) (em_runV (As := [.int (nI 0)]) (rest := [.int 19, .ref h0]) ⟨hx, hb, hml, hown, hG⟩ (mo_argument l D cI cL cZ cC f h0 tn rm ln lx at_ bd fs dp on os bn df th tp mo_ ev ss so lk rs pt ot cl two spn trm one Gc 0 _ (by omega) (by omega) hHG hsp hnt) (cwV 1 hG (gd_V k_1581 k_1583 k_92 k_116 k_1584) rfl rfl rfl (by decide +kernel) ⟨Nat.le_of_ble_eq_true rfl, Nat.le_of_ble_eq_true rfl⟩) (tw_V (q0 := 9) hP hD hK hE hst hS rfl rfl [9, 1, 7, 8, 0] rfl (by decide)) rfl rfl hl.1 rfl (lv_room (Nat.le_of_ble_eq_true rfl)) d_MO_act_187 ⟨Nat.le_of_ble_eq_true rfl, Nat.le_of_ble_eq_true rfl⟩) hP hD hS hA [9, 1, 7, 8, 0] [2, 3, 4, 5, 6, 10, 11] rfl rfl (by decide) (by decide) (fun v u H locs hok hP hD hS => ?_) (fun x C u H locs hbad hxx hP hD hS => ?_)
              · skip
                obtain ⟨r_841, rfl, hp_842⟩ := hok
                have hres_843 : (okh df Gc r_841) := hp_842
                have hP : va_P D classes [((f 27), .inl (cZ, 41, .inl snd)), ((f 28), .inl (cI, 41, .inl nbr)), ((f 29), .inl (cI, 200, .inl lts)), ((f 22), .inl (cZ, 400, .inl mrk)), ((f 23), .inl (cI, 810, .inl wlk)), ((f 25), .inl (cI, 41, .inl bss)), ((f 26), .inl (cI, 41, .inl wts)), (h0, .inr (8, mS f tn rm ln lx at_ bd fs dp on os bn df th tp mo_ ev ss so lk rs pt ot cl)), ((f 21), .inl (cL, 400, .inr (.inl two))), ((f 24), .inl (cI, 150, .inl spn)), ((f 18), .inl (cL, 9, .inr (.inl trm))), ((f 20), .inl (cL, 400, .inr (.inl one)))] H := hP
                have hD : va_D A [((f 27), .inl (cZ, 41, .inl snd)), ((f 28), .inl (cI, 41, .inl nbr)), ((f 29), .inl (cI, 200, .inl lts)), ((f 22), .inl (cZ, 400, .inl mrk)), ((f 23), .inl (cI, 810, .inl wlk)), ((f 25), .inl (cI, 41, .inl bss)), ((f 26), .inl (cI, 41, .inl wts)), (h0, .inr (8, mS f tn rm ln lx at_ bd fs dp on os bn df th tp mo_ ev ss so lk rs pt ot cl)), ((f 21), .inl (cL, 400, .inr (.inl two))), ((f 24), .inl (cI, 150, .inl spn)), ((f 18), .inl (cL, 9, .inr (.inl trm))), ((f 20), .inl (cL, 400, .inr (.inl one)))] := hD
                refine W.eq (g2 := F0 m 190 ls [.long r_841, .int 19, .ref h0]) rfl ?_
                refine lv_iconst (v := 0) hx hb d_MO_act_190 (by decide) ?_
                refine lv_iconst (v := 0) hx hb d_MO_act_191 (by decide) ?_
                refine em_call (wr := [((f 29), .inl (cI, 200, .inl lts)), ((f 22), .inl (cZ, 400, .inl mrk)), ((f 23), .inl (cI, 810, .inl wlk)), ((f 21), .inl (cL, 400, .inr (.inl two))), ((f 24), .inl (cI, 150, .inl spn)), ((f 18), .inl (cL, 9, .inr (.inl trm))), ((f 20), .inl (cL, 400, .inr (.inl one)))]) (em_runV (As := [.int (nI 19), .long r_841, .int 0, .int 0]) (rest := []) ⟨hx, hb, hml, hown, hG⟩ (mo_eval0 l D cI cL cZ cC f h0 tn rm ln lx at_ bd fs dp on os bn df th tp mo_ ev ss so lk rs pt ot cl bss wts snd nbr 19 r_841 0 _ hsnd (by decide) (by decide) (by decide) (by decide) (hm4.mono (by have hq := nd_or 19; omega)) hev hnt) (cwV 4 hG (gd_V k_1600 k_1602 k_96 k_116 k_1603) rfl rfl rfl (by decide +kernel) ⟨Nat.le_of_ble_eq_true rfl, Nat.le_of_ble_eq_true rfl⟩) (tw_V (q0 := 7) hP hD hK hE hst hS rfl rfl [7, 5, 6, 0, 1] rfl (by decide)) rfl rfl hl.1 rfl (lv_room (Nat.le_of_ble_eq_true rfl)) d_MO_act_192 ⟨Nat.le_of_ble_eq_true rfl, Nat.le_of_ble_eq_true rfl⟩) hP hD hS hA [7, 5, 6, 0, 1] [2, 3, 4, 8, 9, 10, 11] rfl rfl (by decide) (by decide) (fun v u H locs hok hP hD hS => ?_) (fun x C u H locs hbad hxx hP hD hS => ?_)
                · skip
                  obtain ⟨so_844, ev_845, lk_846, bss_847, wts_848, snd_849, nbr_850⟩ := u
                  obtain ⟨rfl, hp_852⟩ := hok
                  obtain ⟨hsnd_853, hme_854, hev_855, hE_856⟩ : (bln snd_849) ∧ (me bss_847 wts_848 ev_845 tp 0) ∧ (ev_845 ≤ 40) ∧ (((¬ so_844 = 0 ∧ ev_845 = ev ∧ lk_846 = lk) ∨ (so_844 = so ∧ ev_845 = ev + 1 ∧ lk_846 = r_841 ∧ fz snd_849 ev_845 = fz snd ev + 1))) := hp_852
                  have hP : va_P D classes [((f 29), .inl (cI, 200, .inl lts)), ((f 22), .inl (cZ, 400, .inl mrk)), ((f 23), .inl (cI, 810, .inl wlk)), ((f 21), .inl (cL, 400, .inr (.inl two))), ((f 24), .inl (cI, 150, .inl spn)), ((f 18), .inl (cL, 9, .inr (.inl trm))), ((f 20), .inl (cL, 400, .inr (.inl one))), (h0, .inr (8, mS f tn rm ln lx at_ bd fs dp on os bn df th tp mo_ ev_845 ss so_844 lk_846 rs pt ot cl)), ((f 25), .inl (cI, 41, .inl bss_847)), ((f 26), .inl (cI, 41, .inl wts_848)), ((f 27), .inl (cZ, 41, .inl snd_849)), ((f 28), .inl (cI, 41, .inl nbr_850))] H := hP
                  have hD : va_D A [((f 29), .inl (cI, 200, .inl lts)), ((f 22), .inl (cZ, 400, .inl mrk)), ((f 23), .inl (cI, 810, .inl wlk)), ((f 21), .inl (cL, 400, .inr (.inl two))), ((f 24), .inl (cI, 150, .inl spn)), ((f 18), .inl (cL, 9, .inr (.inl trm))), ((f 20), .inl (cL, 400, .inr (.inl one))), (h0, .inr (8, mS f tn rm ln lx at_ bd fs dp on os bn df th tp mo_ ev_845 ss so_844 lk_846 rs pt ot cl)), ((f 25), .inl (cI, 41, .inl bss_847)), ((f 26), .inl (cI, 41, .inl wts_848)), ((f 27), .inl (cZ, 41, .inl snd_849)), ((f 28), .inl (cI, 41, .inl nbr_850))] := hD
                  refine W.eq (g2 := F0 m 195 ls []) rfl ?_
                  exact em_vret hx hb hr hlocks hP hD hK hS (ev_845, tp, lk_846, ss, so_844, rs, pt, ot, one, two, bss_847, wts_848, snd_849, nbr_850, lts, mrk, wlk) [7, 6, 3, 8, 9, 10, 11, 0, 1, 2, 4, 5] (by decide) rfl ⟨rfl, ⟨hsnd_853, hmrk, (show ∃ G' : Nat → Prop, MI df G' trm one two spn tp lk_846 rs pt ∧ ev_845 ≤ 40 ∧ me bss_847 wts_848 ev_845 tp 0 ∧ ot ≤ ot + 12 ∧ (ss = ss + 1 ∨ (ss = ss ∧ ¬ so_844 = 0 ∧ ot = ot) ∨ (ss = ss ∧ so_844 = so ∧ ot = ot ∧ ms pt ev_845 snd_849 tp < ms pt ev snd tp)) from ⟨Gc, ⟨hHG, (by rcases hE_856 with ⟨_, _, q⟩ | ⟨_, _, q, _⟩; rw [q]; exact hlk; rw [q]; exact hres_843), hrs, htp, hsp⟩, hev_855, hme_854, by omega, (by rcases hE_856 with ⟨q, _, _⟩ | ⟨q1, q2, q3, q4⟩; exact Or.inr (Or.inl ⟨rfl, q, rfl⟩); exact Or.inr (Or.inr ⟨rfl, q1, rfl, by unfold ms; omega⟩))⟩)⟩⟩ d_MO_act_195
                · skip
                  exact hbad.elim
              · skip
                exact hbad.elim
            · skip
              have hn_858 : ¬ 1 ≤ (tp - mb) := fun h => hb_839 ((nI_leI (a := 1) (b := tp - mb) (by omega) (by omega)).mpr h)
              refine lv_aload_n hx hb d_MO_act_160 rfl (lv_at hl 3 rfl) ?_
              refine lv_iconst (v := 0) hx hb d_MO_act_161 (by decide) ?_
              refine lv_iconst (v := 1) hx hb d_MO_act_162 (by decide) ?_
              refine em_call (wr := [((f 22), .inl (cZ, 400, .inl mrk)), ((f 23), .inl (cI, 810, .inl wlk))]) (em_runV (As := [.int 0, .int 1]) (rest := []) ⟨hx, hb, hml, hown, hG⟩ (mo_val01 l D cI cL cZ cC f h0 tn rm ln lx at_ bd fs dp on os bn df th tp mo_ ev ss so lk rs pt ot cl one two bss wts snd nbr lts spn trm Gc mb _ hsnd hMI hev hm1 hm2 hm3 hm4 hot hnt) (cwV 2 hG (gd_V k_1577 k_1579 k_91 k_116 k_1580) rfl rfl rfl (by decide +kernel) ⟨Nat.le_of_ble_eq_true rfl, Nat.le_of_ble_eq_true rfl⟩) (tw_V (q0 := 9) hP hD hK hE hst hS rfl rfl [9, 0, 1, 10, 11, 2, 3, 4, 7, 8] rfl (by decide)) rfl rfl hl.1 rfl (lv_room (Nat.le_of_ble_eq_true rfl)) d_MO_act_163 ⟨Nat.le_of_ble_eq_true rfl, Nat.le_of_ble_eq_true rfl⟩) hP hD hS hA [9, 0, 1, 10, 11, 2, 3, 4, 7, 8] [5, 6] rfl rfl (by decide) (by decide) (fun v u H locs hok hP hD hS => ?_) (fun x C u H locs hbad hxx hP hD hS => ?_)
              · skip
                obtain ⟨ev_859, tp_860, lk_861, ss_862, so_863, rs_864, pt_865, ot_866, one_867, two_868, bss_869, wts_870, snd_871, nbr_872, lts_873⟩ := u
                obtain ⟨rfl, hp_875⟩ := hok
                obtain ⟨hsnd_876, hMI_877, hev_878, hme_879, hot_880, hPv_881⟩ : (bln snd_871) ∧ (MI df Gc trm one_867 two_868 spn tp_860 lk_861 rs_864 pt_865) ∧ (ev_859 ≤ 40) ∧ (me bss_869 wts_870 ev_859 tp_860 0) ∧ (ot_866 ≤ ot + 12) ∧ ((ss_862 = ss + 1 ∨ (ss_862 = ss ∧ ¬ so_863 = 0 ∧ ot_866 = ot) ∨ (ss_862 = ss ∧ so_863 = so ∧ ot_866 = ot ∧ ms pt_865 ev_859 snd_871 tp_860 < ms pt ev snd tp))) := hp_875
                have hP : va_P D classes [((f 22), .inl (cZ, 400, .inl mrk)), ((f 23), .inl (cI, 810, .inl wlk)), (h0, .inr (8, mS f tn rm ln lx at_ bd fs dp on os bn df th tp_860 mo_ ev_859 ss_862 so_863 lk_861 rs_864 pt_865 ot_866 cl)), ((f 20), .inl (cL, 400, .inr (.inl one_867))), ((f 21), .inl (cL, 400, .inr (.inl two_868))), ((f 25), .inl (cI, 41, .inl bss_869)), ((f 26), .inl (cI, 41, .inl wts_870)), ((f 27), .inl (cZ, 41, .inl snd_871)), ((f 28), .inl (cI, 41, .inl nbr_872)), ((f 29), .inl (cI, 200, .inl lts_873)), ((f 24), .inl (cI, 150, .inl spn)), ((f 18), .inl (cL, 9, .inr (.inl trm)))] H := hP
                have hD : va_D A [((f 22), .inl (cZ, 400, .inl mrk)), ((f 23), .inl (cI, 810, .inl wlk)), (h0, .inr (8, mS f tn rm ln lx at_ bd fs dp on os bn df th tp_860 mo_ ev_859 ss_862 so_863 lk_861 rs_864 pt_865 ot_866 cl)), ((f 20), .inl (cL, 400, .inr (.inl one_867))), ((f 21), .inl (cL, 400, .inr (.inl two_868))), ((f 25), .inl (cI, 41, .inl bss_869)), ((f 26), .inl (cI, 41, .inl wts_870)), ((f 27), .inl (cZ, 41, .inl snd_871)), ((f 28), .inl (cI, 41, .inl nbr_872)), ((f 29), .inl (cI, 200, .inl lts_873)), ((f 24), .inl (cI, 150, .inl spn)), ((f 18), .inl (cL, 9, .inr (.inl trm)))] := hD
                refine W.eq (g2 := F0 m 166 ls []) rfl ?_
                refine lv_goto (tgt := 195) hx hb d_MO_act_166 (by decide) ?_
                exact em_vret hx hb hr hlocks hP hD hK hS (ev_859, tp_860, lk_861, ss_862, so_863, rs_864, pt_865, ot_866, one_867, two_868, bss_869, wts_870, snd_871, nbr_872, lts_873, mrk, wlk) [2, 3, 4, 5, 6, 7, 8, 9, 0, 1, 10, 11] (by decide) rfl ⟨rfl, ⟨hsnd_876, hmrk, (show ∃ G' : Nat → Prop, MI df G' trm one_867 two_868 spn tp_860 lk_861 rs_864 pt_865 ∧ ev_859 ≤ 40 ∧ me bss_869 wts_870 ev_859 tp_860 0 ∧ ot_866 ≤ ot + 12 ∧ (ss_862 = ss + 1 ∨ (ss_862 = ss ∧ ¬ so_863 = 0 ∧ ot_866 = ot) ∨ (ss_862 = ss ∧ so_863 = so ∧ ot_866 = ot ∧ ms pt_865 ev_859 snd_871 tp_860 < ms pt ev snd tp)) from ⟨Gc, hMI_877, hev_878, hme_879, hot_880, hPv_881⟩)⟩⟩ d_MO_act_195
              · skip
                exact hbad.elim
        · skip
          exact absurd (hb_1.symm.trans hb_837) (by decide)
      · skip
        exact hbad.elim
    · skip
      have hl : lv_has ls 4 [(2, .int 20), (1, .int (wkind lk)), (0, .ref h0)] := hl
      refine lv_aload_n hx hb d_MO_act_25 rfl (lv_at hl 2 rfl) ?_
      refine va_get (D := D) (ci := 8) (v := .int (nI tp)) (C := rn_MO) (T := fl_MO) (N := 55) hx hb hG in_MO hown hK hP 0 rfl rfl 38 (by decide) (hG _ k_1229) (fun _ h9 => h9) rfl d_MO_act_26 ?_
      refine lv_aload_n hx hb d_MO_act_29 rfl (lv_at hl 2 rfl) ?_
      refine em_call (wr := [((f 20), .inl (cL, 400, .inr (.inl one))), ((f 21), .inl (cL, 400, .inr (.inl two))), ((f 27), .inl (cZ, 41, .inl snd)), ((f 28), .inl (cI, 41, .inl nbr)), ((f 29), .inl (cI, 200, .inl lts)), ((f 22), .inl (cZ, 400, .inl mrk)), ((f 23), .inl (cI, 810, .inl wlk)), ((f 24), .inl (cI, 150, .inl spn)), ((f 18), .inl (cL, 9, .inr (.inl trm)))]) (em_runV (As := []) (rest := [.int (nI tp)]) ⟨hx, hb, hml, hown, hG⟩ (mo_below l D cI cL cZ cC f h0 tn rm ln lx at_ bd fs dp on os bn df th tp mo_ ev ss so lk rs pt ot cl bss wts _ hme hev hnt) (cwV 0 hG (gd_V k_1573 k_1575 k_90 k_116 k_1576) rfl rfl rfl (by decide +kernel) ⟨Nat.le_of_ble_eq_true rfl, Nat.le_of_ble_eq_true rfl⟩) (tw_V (q0 := 0) hP hD hK hE hst hS rfl rfl [0, 3, 4] rfl (by decide)) rfl rfl hl.1 rfl (lv_room (Nat.le_of_ble_eq_true rfl)) d_MO_act_30 ⟨Nat.le_of_ble_eq_true rfl, Nat.le_of_ble_eq_true rfl⟩) hP hD hS hA [0, 3, 4] [1, 2, 5, 6, 7, 8, 9, 10, 11] rfl rfl (by decide) (by decide) (fun v u H locs hok hP hD hS => ?_) (fun x C u H locs hbad hxx hP hD hS => ?_)
      · skip
        obtain ⟨r_883, rfl, hp_884⟩ := hok
        have hres_885 : (∃ mq : Nat, r_883 = nI mq ∧ mq ≤ tp ∧ (ev = 0 → mq = 0) ∧ (1 ≤ ev → bss (ev - 1) = nI mq) ∧ me bss wts ev mq 0) := hp_884
        obtain ⟨mb, rfl, hm1, hm2, hm3, hm4⟩ := hres_885
        have hP : va_P D classes [((f 20), .inl (cL, 400, .inr (.inl one))), ((f 21), .inl (cL, 400, .inr (.inl two))), ((f 27), .inl (cZ, 41, .inl snd)), ((f 28), .inl (cI, 41, .inl nbr)), ((f 29), .inl (cI, 200, .inl lts)), ((f 22), .inl (cZ, 400, .inl mrk)), ((f 23), .inl (cI, 810, .inl wlk)), ((f 24), .inl (cI, 150, .inl spn)), ((f 18), .inl (cL, 9, .inr (.inl trm))), (h0, .inr (8, mS f tn rm ln lx at_ bd fs dp on os bn df th tp mo_ ev ss so lk rs pt ot cl)), ((f 25), .inl (cI, 41, .inl bss)), ((f 26), .inl (cI, 41, .inl wts))] H := hP
        have hD : va_D A [((f 20), .inl (cL, 400, .inr (.inl one))), ((f 21), .inl (cL, 400, .inr (.inl two))), ((f 27), .inl (cZ, 41, .inl snd)), ((f 28), .inl (cI, 41, .inl nbr)), ((f 29), .inl (cI, 200, .inl lts)), ((f 22), .inl (cZ, 400, .inl mrk)), ((f 23), .inl (cI, 810, .inl wlk)), ((f 24), .inl (cI, 150, .inl spn)), ((f 18), .inl (cL, 9, .inr (.inl trm))), (h0, .inr (8, mS f tn rm ln lx at_ bd fs dp on os bn df th tp mo_ ev ss so lk rs pt ot cl)), ((f 25), .inl (cI, 41, .inl bss)), ((f 26), .inl (cI, 41, .inl wts))] := hD
        refine W.eq (g2 := F0 m 33 ls [.int (nI mb), .int (nI tp)]) rfl ?_
        refine lw_isub (a := tp) (b := mb) hx hb d_MO_act_33 (by omega) ?_
        refine lv_istore_n (lv' := [(3, .int (nI (tp - mb))), (2, .int 20), (1, .int (wkind lk)), (0, .ref h0)]) hx hb d_MO_act_34 rfl hl (Nat.le_of_ble_eq_true rfl) rfl (fun ls hl => ?_)
        refine lv_iload_n hx hb d_MO_act_35 rfl (lv_at hl 2 rfl) ?_
        refine lv_iconst (v := 1) hx hb d_MO_act_36 (by decide) ?_
        refine lv_icmp_ne (tgt := 69) hx hb d_MO_act_37 (by decide) (fun hb_886 => ?_) (fun hb_886 => ?_)
        · skip
          refine lv_iload_n hx hb d_MO_act_69 rfl (lv_at hl 2 rfl) ?_
          refine lv_if_eq (tgt := 85) hx hb d_MO_act_70 (by decide) (fun hb_887 => ?_) (fun hb_887 => ?_)
          · skip
            exact absurd (hb_1.symm.trans hb_887) (by decide)
          · skip
            refine lv_iload_n hx hb d_MO_act_73 rfl (lv_at hl 1 rfl) ?_
            refine lv_bipush (v := 17) hx hb d_MO_act_74 (by decide) ?_
            refine lv_icmp_eq (tgt := 85) hx hb d_MO_act_76 (by decide) (fun hbr => absurd hbr (by decide)) (fun hbr => ?_)
            refine lv_iload_n hx hb d_MO_act_79 rfl (lv_at hl 1 rfl) ?_
            refine lv_bipush (v := 20) hx hb d_MO_act_80 (by decide) ?_
            refine lv_icmp_le (tgt := 106) hx hb d_MO_act_82 (by decide) (fun hbr => ?_) (fun hbr => absurd (by decide) hbr)
            refine lv_iload_n hx hb d_MO_act_106 rfl (lv_at hl 1 rfl) ?_
            refine lv_bipush (v := 16) hx hb d_MO_act_107 (by decide) ?_
            refine lv_icmp_ne (tgt := 152) hx hb d_MO_act_109 (by decide) (fun hbr => ?_) (fun hbr => absurd hbr (by decide))
            refine lv_iload_n hx hb d_MO_act_152 rfl (lv_at hl 0 rfl) ?_
            refine lv_iload_n hx hb d_MO_act_153 rfl (lv_at hl 1 rfl) ?_
            refine W.callR (W.runS (As := [.int 20]) (rest := [.int (nI (tp - mb))]) ⟨hx, hb, hml, hown, hG⟩ (mo_needs l D cI cL cZ cC 20 ) (cwS 1 hG (gd_S k_1621 k_1622 k_116 k_1623) rfl rfl rfl (by decide +kernel) ⟨Nat.le_of_ble_eq_true rfl, Nat.le_of_ble_eq_true rfl⟩) (wq_S hP hK [] rfl) rfl rfl hl.1 rfl (lv_room (Nat.le_of_ble_eq_true rfl)) d_MO_act_154 ⟨Nat.le_of_ble_eq_true rfl, Nat.le_of_ble_eq_true rfl⟩) ?_
            refine W.eq (g2 := F0 m 157 ls [.int (mneeds (20 : Int32)), .int (nI (tp - mb))]) rfl ?_
            refine W.eq (g2 := F0 m 157 ls [.int 1, .int (nI (tp - mb))]) (by rw [show mneeds 20 = 1 by decide]) ?_
            refine lv_icmp_ge (tgt := 169) hx hb d_MO_act_157 (by decide) (fun hb_888 => ?_) (fun hb_888 => ?_)
            · skip
              have hn_889 : 1 ≤ (tp - mb) := (nI_leI (a := 1) (b := tp - mb) (by omega) (by omega)).mp hb_888
              refine lv_iload_n hx hb d_MO_act_169 rfl (lv_at hl 1 rfl) ?_
              refine lv_bipush (v := 10) hx hb d_MO_act_170 (by decide) ?_
              refine lv_icmp_ge (tgt := 183) hx hb d_MO_act_172 (by decide) (fun hbr => ?_) (fun hbr => absurd (by decide) hbr)
              refine lv_aload_n hx hb d_MO_act_183 rfl (lv_at hl 3 rfl) ?_
              refine lv_iload_n hx hb d_MO_act_184 rfl (lv_at hl 1 rfl) ?_
              refine lv_aload_n hx hb d_MO_act_185 rfl (lv_at hl 3 rfl) ?_
              refine lv_iconst (v := 0) hx hb d_MO_act_186 (by decide) ?_
              refine em_call (wr := [((f 27), .inl (cZ, 41, .inl snd)), ((f 28), .inl (cI, 41, .inl nbr)), ((f 29), .inl (cI, 200, .inl lts)), ((f 22), .inl (cZ, 400, .inl mrk)), ((f 23), .inl (cI, 810, .inl wlk)), ((f 25), .inl (cI, 41, .inl bss)), ((f 26), .inl (cI, 41, .inl wts))]) (em_runV (As := [.int (nI 0)]) (rest := [.int 20, .ref h0]) ⟨hx, hb, hml, hown, hG⟩ (mo_argument l D cI cL cZ cC f h0 tn rm ln lx at_ bd fs dp on os bn df th tp mo_ ev ss so lk rs pt ot cl two spn trm one Gc 0 _ (by omega) (by omega) hHG hsp hnt) (cwV 1 hG (gd_V k_1581 k_1583 k_92 k_116 k_1584) rfl rfl rfl (by decide +kernel) ⟨Nat.le_of_ble_eq_true rfl, Nat.le_of_ble_eq_true rfl⟩) (tw_V (q0 := 9) hP hD hK hE hst hS rfl rfl [9, 1, 7, 8, 0] rfl (by decide)) rfl rfl hl.1 rfl (lv_room (Nat.le_of_ble_eq_true rfl)) d_MO_act_187 ⟨Nat.le_of_ble_eq_true rfl, Nat.le_of_ble_eq_true rfl⟩) hP hD hS hA [9, 1, 7, 8, 0] [2, 3, 4, 5, 6, 10, 11] rfl rfl (by decide) (by decide) (fun v u H locs hok hP hD hS => ?_) (fun x C u H locs hbad hxx hP hD hS => ?_)
              · skip
                obtain ⟨r_890, rfl, hp_891⟩ := hok
                have hres_892 : (okh df Gc r_890) := hp_891
                have hP : va_P D classes [((f 27), .inl (cZ, 41, .inl snd)), ((f 28), .inl (cI, 41, .inl nbr)), ((f 29), .inl (cI, 200, .inl lts)), ((f 22), .inl (cZ, 400, .inl mrk)), ((f 23), .inl (cI, 810, .inl wlk)), ((f 25), .inl (cI, 41, .inl bss)), ((f 26), .inl (cI, 41, .inl wts)), (h0, .inr (8, mS f tn rm ln lx at_ bd fs dp on os bn df th tp mo_ ev ss so lk rs pt ot cl)), ((f 21), .inl (cL, 400, .inr (.inl two))), ((f 24), .inl (cI, 150, .inl spn)), ((f 18), .inl (cL, 9, .inr (.inl trm))), ((f 20), .inl (cL, 400, .inr (.inl one)))] H := hP
                have hD : va_D A [((f 27), .inl (cZ, 41, .inl snd)), ((f 28), .inl (cI, 41, .inl nbr)), ((f 29), .inl (cI, 200, .inl lts)), ((f 22), .inl (cZ, 400, .inl mrk)), ((f 23), .inl (cI, 810, .inl wlk)), ((f 25), .inl (cI, 41, .inl bss)), ((f 26), .inl (cI, 41, .inl wts)), (h0, .inr (8, mS f tn rm ln lx at_ bd fs dp on os bn df th tp mo_ ev ss so lk rs pt ot cl)), ((f 21), .inl (cL, 400, .inr (.inl two))), ((f 24), .inl (cI, 150, .inl spn)), ((f 18), .inl (cL, 9, .inr (.inl trm))), ((f 20), .inl (cL, 400, .inr (.inl one)))] := hD
                refine W.eq (g2 := F0 m 190 ls [.long r_890, .int 20, .ref h0]) rfl ?_
                refine lv_iconst (v := 0) hx hb d_MO_act_190 (by decide) ?_
                refine lv_iconst (v := 0) hx hb d_MO_act_191 (by decide) ?_
                refine em_call (wr := [((f 29), .inl (cI, 200, .inl lts)), ((f 22), .inl (cZ, 400, .inl mrk)), ((f 23), .inl (cI, 810, .inl wlk)), ((f 21), .inl (cL, 400, .inr (.inl two))), ((f 24), .inl (cI, 150, .inl spn)), ((f 18), .inl (cL, 9, .inr (.inl trm))), ((f 20), .inl (cL, 400, .inr (.inl one)))]) (em_runV (As := [.int (nI 20), .long r_890, .int 0, .int 0]) (rest := []) ⟨hx, hb, hml, hown, hG⟩ (mo_eval0 l D cI cL cZ cC f h0 tn rm ln lx at_ bd fs dp on os bn df th tp mo_ ev ss so lk rs pt ot cl bss wts snd nbr 20 r_890 0 _ hsnd (by decide) (by decide) (by decide) (by decide) (hm4.mono (by have hq := nd_or 20; omega)) hev hnt) (cwV 4 hG (gd_V k_1600 k_1602 k_96 k_116 k_1603) rfl rfl rfl (by decide +kernel) ⟨Nat.le_of_ble_eq_true rfl, Nat.le_of_ble_eq_true rfl⟩) (tw_V (q0 := 7) hP hD hK hE hst hS rfl rfl [7, 5, 6, 0, 1] rfl (by decide)) rfl rfl hl.1 rfl (lv_room (Nat.le_of_ble_eq_true rfl)) d_MO_act_192 ⟨Nat.le_of_ble_eq_true rfl, Nat.le_of_ble_eq_true rfl⟩) hP hD hS hA [7, 5, 6, 0, 1] [2, 3, 4, 8, 9, 10, 11] rfl rfl (by decide) (by decide) (fun v u H locs hok hP hD hS => ?_) (fun x C u H locs hbad hxx hP hD hS => ?_)
                · skip
                  obtain ⟨so_893, ev_894, lk_895, bss_896, wts_897, snd_898, nbr_899⟩ := u
                  obtain ⟨rfl, hp_901⟩ := hok
                  obtain ⟨hsnd_902, hme_903, hev_904, hE_905⟩ : (bln snd_898) ∧ (me bss_896 wts_897 ev_894 tp 0) ∧ (ev_894 ≤ 40) ∧ (((¬ so_893 = 0 ∧ ev_894 = ev ∧ lk_895 = lk) ∨ (so_893 = so ∧ ev_894 = ev + 1 ∧ lk_895 = r_890 ∧ fz snd_898 ev_894 = fz snd ev + 1))) := hp_901
                  have hP : va_P D classes [((f 29), .inl (cI, 200, .inl lts)), ((f 22), .inl (cZ, 400, .inl mrk)), ((f 23), .inl (cI, 810, .inl wlk)), ((f 21), .inl (cL, 400, .inr (.inl two))), ((f 24), .inl (cI, 150, .inl spn)), ((f 18), .inl (cL, 9, .inr (.inl trm))), ((f 20), .inl (cL, 400, .inr (.inl one))), (h0, .inr (8, mS f tn rm ln lx at_ bd fs dp on os bn df th tp mo_ ev_894 ss so_893 lk_895 rs pt ot cl)), ((f 25), .inl (cI, 41, .inl bss_896)), ((f 26), .inl (cI, 41, .inl wts_897)), ((f 27), .inl (cZ, 41, .inl snd_898)), ((f 28), .inl (cI, 41, .inl nbr_899))] H := hP
                  have hD : va_D A [((f 29), .inl (cI, 200, .inl lts)), ((f 22), .inl (cZ, 400, .inl mrk)), ((f 23), .inl (cI, 810, .inl wlk)), ((f 21), .inl (cL, 400, .inr (.inl two))), ((f 24), .inl (cI, 150, .inl spn)), ((f 18), .inl (cL, 9, .inr (.inl trm))), ((f 20), .inl (cL, 400, .inr (.inl one))), (h0, .inr (8, mS f tn rm ln lx at_ bd fs dp on os bn df th tp mo_ ev_894 ss so_893 lk_895 rs pt ot cl)), ((f 25), .inl (cI, 41, .inl bss_896)), ((f 26), .inl (cI, 41, .inl wts_897)), ((f 27), .inl (cZ, 41, .inl snd_898)), ((f 28), .inl (cI, 41, .inl nbr_899))] := hD
                  refine W.eq (g2 := F0 m 195 ls []) rfl ?_
                  exact em_vret hx hb hr hlocks hP hD hK hS (ev_894, tp, lk_895, ss, so_893, rs, pt, ot, one, two, bss_896, wts_897, snd_898, nbr_899, lts, mrk, wlk) [7, 6, 3, 8, 9, 10, 11, 0, 1, 2, 4, 5] (by decide) rfl ⟨rfl, ⟨hsnd_902, hmrk, (show ∃ G' : Nat → Prop, MI df G' trm one two spn tp lk_895 rs pt ∧ ev_894 ≤ 40 ∧ me bss_896 wts_897 ev_894 tp 0 ∧ ot ≤ ot + 12 ∧ (ss = ss + 1 ∨ (ss = ss ∧ ¬ so_893 = 0 ∧ ot = ot) ∨ (ss = ss ∧ so_893 = so ∧ ot = ot ∧ ms pt ev_894 snd_898 tp < ms pt ev snd tp)) from ⟨Gc, ⟨hHG, (by rcases hE_905 with ⟨_, _, q⟩ | ⟨_, _, q, _⟩; rw [q]; exact hlk; rw [q]; exact hres_892), hrs, htp, hsp⟩, hev_904, hme_903, by omega, (by rcases hE_905 with ⟨q, _, _⟩ | ⟨q1, q2, q3, q4⟩; exact Or.inr (Or.inl ⟨rfl, q, rfl⟩); exact Or.inr (Or.inr ⟨rfl, q1, rfl, by unfold ms; omega⟩))⟩)⟩⟩ d_MO_act_195
                · skip
                  exact hbad.elim
              · skip
                exact hbad.elim
            · skip
              have hn_907 : ¬ 1 ≤ (tp - mb) := fun h => hb_888 ((nI_leI (a := 1) (b := tp - mb) (by omega) (by omega)).mpr h)
              refine lv_aload_n hx hb d_MO_act_160 rfl (lv_at hl 3 rfl) ?_
              refine lv_iconst (v := 0) hx hb d_MO_act_161 (by decide) ?_
              refine lv_iconst (v := 1) hx hb d_MO_act_162 (by decide) ?_
              refine em_call (wr := [((f 22), .inl (cZ, 400, .inl mrk)), ((f 23), .inl (cI, 810, .inl wlk))]) (em_runV (As := [.int 0, .int 1]) (rest := []) ⟨hx, hb, hml, hown, hG⟩ (mo_val01 l D cI cL cZ cC f h0 tn rm ln lx at_ bd fs dp on os bn df th tp mo_ ev ss so lk rs pt ot cl one two bss wts snd nbr lts spn trm Gc mb _ hsnd hMI hev hm1 hm2 hm3 hm4 hot hnt) (cwV 2 hG (gd_V k_1577 k_1579 k_91 k_116 k_1580) rfl rfl rfl (by decide +kernel) ⟨Nat.le_of_ble_eq_true rfl, Nat.le_of_ble_eq_true rfl⟩) (tw_V (q0 := 9) hP hD hK hE hst hS rfl rfl [9, 0, 1, 10, 11, 2, 3, 4, 7, 8] rfl (by decide)) rfl rfl hl.1 rfl (lv_room (Nat.le_of_ble_eq_true rfl)) d_MO_act_163 ⟨Nat.le_of_ble_eq_true rfl, Nat.le_of_ble_eq_true rfl⟩) hP hD hS hA [9, 0, 1, 10, 11, 2, 3, 4, 7, 8] [5, 6] rfl rfl (by decide) (by decide) (fun v u H locs hok hP hD hS => ?_) (fun x C u H locs hbad hxx hP hD hS => ?_)
              · skip
                obtain ⟨ev_908, tp_909, lk_910, ss_911, so_912, rs_913, pt_914, ot_915, one_916, two_917, bss_918, wts_919, snd_920, nbr_921, lts_922⟩ := u
                obtain ⟨rfl, hp_924⟩ := hok
                obtain ⟨hsnd_925, hMI_926, hev_927, hme_928, hot_929, hPv_930⟩ : (bln snd_920) ∧ (MI df Gc trm one_916 two_917 spn tp_909 lk_910 rs_913 pt_914) ∧ (ev_908 ≤ 40) ∧ (me bss_918 wts_919 ev_908 tp_909 0) ∧ (ot_915 ≤ ot + 12) ∧ ((ss_911 = ss + 1 ∨ (ss_911 = ss ∧ ¬ so_912 = 0 ∧ ot_915 = ot) ∨ (ss_911 = ss ∧ so_912 = so ∧ ot_915 = ot ∧ ms pt_914 ev_908 snd_920 tp_909 < ms pt ev snd tp))) := hp_924
                have hP : va_P D classes [((f 22), .inl (cZ, 400, .inl mrk)), ((f 23), .inl (cI, 810, .inl wlk)), (h0, .inr (8, mS f tn rm ln lx at_ bd fs dp on os bn df th tp_909 mo_ ev_908 ss_911 so_912 lk_910 rs_913 pt_914 ot_915 cl)), ((f 20), .inl (cL, 400, .inr (.inl one_916))), ((f 21), .inl (cL, 400, .inr (.inl two_917))), ((f 25), .inl (cI, 41, .inl bss_918)), ((f 26), .inl (cI, 41, .inl wts_919)), ((f 27), .inl (cZ, 41, .inl snd_920)), ((f 28), .inl (cI, 41, .inl nbr_921)), ((f 29), .inl (cI, 200, .inl lts_922)), ((f 24), .inl (cI, 150, .inl spn)), ((f 18), .inl (cL, 9, .inr (.inl trm)))] H := hP
                have hD : va_D A [((f 22), .inl (cZ, 400, .inl mrk)), ((f 23), .inl (cI, 810, .inl wlk)), (h0, .inr (8, mS f tn rm ln lx at_ bd fs dp on os bn df th tp_909 mo_ ev_908 ss_911 so_912 lk_910 rs_913 pt_914 ot_915 cl)), ((f 20), .inl (cL, 400, .inr (.inl one_916))), ((f 21), .inl (cL, 400, .inr (.inl two_917))), ((f 25), .inl (cI, 41, .inl bss_918)), ((f 26), .inl (cI, 41, .inl wts_919)), ((f 27), .inl (cZ, 41, .inl snd_920)), ((f 28), .inl (cI, 41, .inl nbr_921)), ((f 29), .inl (cI, 200, .inl lts_922)), ((f 24), .inl (cI, 150, .inl spn)), ((f 18), .inl (cL, 9, .inr (.inl trm)))] := hD
                refine W.eq (g2 := F0 m 166 ls []) rfl ?_
                refine lv_goto (tgt := 195) hx hb d_MO_act_166 (by decide) ?_
                exact em_vret hx hb hr hlocks hP hD hK hS (ev_908, tp_909, lk_910, ss_911, so_912, rs_913, pt_914, ot_915, one_916, two_917, bss_918, wts_919, snd_920, nbr_921, lts_922, mrk, wlk) [2, 3, 4, 5, 6, 7, 8, 9, 0, 1, 10, 11] (by decide) rfl ⟨rfl, ⟨hsnd_925, hmrk, (show ∃ G' : Nat → Prop, MI df G' trm one_916 two_917 spn tp_909 lk_910 rs_913 pt_914 ∧ ev_908 ≤ 40 ∧ me bss_918 wts_919 ev_908 tp_909 0 ∧ ot_915 ≤ ot + 12 ∧ (ss_911 = ss + 1 ∨ (ss_911 = ss ∧ ¬ so_912 = 0 ∧ ot_915 = ot) ∨ (ss_911 = ss ∧ so_912 = so ∧ ot_915 = ot ∧ ms pt_914 ev_908 snd_920 tp_909 < ms pt ev snd tp)) from ⟨Gc, hMI_926, hev_927, hme_928, hot_929, hPv_930⟩)⟩⟩ d_MO_act_195
              · skip
                exact hbad.elim
        · skip
          exact absurd (hb_1.symm.trans hb_886) (by decide)
      · skip
        exact hbad.elim
    · skip
      have hl : lv_has ls 4 [(2, .int 21), (1, .int (wkind lk)), (0, .ref h0)] := hl
      refine lv_aload_n hx hb d_MO_act_25 rfl (lv_at hl 2 rfl) ?_
      refine va_get (D := D) (ci := 8) (v := .int (nI tp)) (C := rn_MO) (T := fl_MO) (N := 55) hx hb hG in_MO hown hK hP 0 rfl rfl 38 (by decide) (hG _ k_1229) (fun _ h9 => h9) rfl d_MO_act_26 ?_
      refine lv_aload_n hx hb d_MO_act_29 rfl (lv_at hl 2 rfl) ?_
      refine em_call (wr := [((f 20), .inl (cL, 400, .inr (.inl one))), ((f 21), .inl (cL, 400, .inr (.inl two))), ((f 27), .inl (cZ, 41, .inl snd)), ((f 28), .inl (cI, 41, .inl nbr)), ((f 29), .inl (cI, 200, .inl lts)), ((f 22), .inl (cZ, 400, .inl mrk)), ((f 23), .inl (cI, 810, .inl wlk)), ((f 24), .inl (cI, 150, .inl spn)), ((f 18), .inl (cL, 9, .inr (.inl trm)))]) (em_runV (As := []) (rest := [.int (nI tp)]) ⟨hx, hb, hml, hown, hG⟩ (mo_below l D cI cL cZ cC f h0 tn rm ln lx at_ bd fs dp on os bn df th tp mo_ ev ss so lk rs pt ot cl bss wts _ hme hev hnt) (cwV 0 hG (gd_V k_1573 k_1575 k_90 k_116 k_1576) rfl rfl rfl (by decide +kernel) ⟨Nat.le_of_ble_eq_true rfl, Nat.le_of_ble_eq_true rfl⟩) (tw_V (q0 := 0) hP hD hK hE hst hS rfl rfl [0, 3, 4] rfl (by decide)) rfl rfl hl.1 rfl (lv_room (Nat.le_of_ble_eq_true rfl)) d_MO_act_30 ⟨Nat.le_of_ble_eq_true rfl, Nat.le_of_ble_eq_true rfl⟩) hP hD hS hA [0, 3, 4] [1, 2, 5, 6, 7, 8, 9, 10, 11] rfl rfl (by decide) (by decide) (fun v u H locs hok hP hD hS => ?_) (fun x C u H locs hbad hxx hP hD hS => ?_)
      · skip
        obtain ⟨r_932, rfl, hp_933⟩ := hok
        have hres_934 : (∃ mq : Nat, r_932 = nI mq ∧ mq ≤ tp ∧ (ev = 0 → mq = 0) ∧ (1 ≤ ev → bss (ev - 1) = nI mq) ∧ me bss wts ev mq 0) := hp_933
        obtain ⟨mb, rfl, hm1, hm2, hm3, hm4⟩ := hres_934
        have hP : va_P D classes [((f 20), .inl (cL, 400, .inr (.inl one))), ((f 21), .inl (cL, 400, .inr (.inl two))), ((f 27), .inl (cZ, 41, .inl snd)), ((f 28), .inl (cI, 41, .inl nbr)), ((f 29), .inl (cI, 200, .inl lts)), ((f 22), .inl (cZ, 400, .inl mrk)), ((f 23), .inl (cI, 810, .inl wlk)), ((f 24), .inl (cI, 150, .inl spn)), ((f 18), .inl (cL, 9, .inr (.inl trm))), (h0, .inr (8, mS f tn rm ln lx at_ bd fs dp on os bn df th tp mo_ ev ss so lk rs pt ot cl)), ((f 25), .inl (cI, 41, .inl bss)), ((f 26), .inl (cI, 41, .inl wts))] H := hP
        have hD : va_D A [((f 20), .inl (cL, 400, .inr (.inl one))), ((f 21), .inl (cL, 400, .inr (.inl two))), ((f 27), .inl (cZ, 41, .inl snd)), ((f 28), .inl (cI, 41, .inl nbr)), ((f 29), .inl (cI, 200, .inl lts)), ((f 22), .inl (cZ, 400, .inl mrk)), ((f 23), .inl (cI, 810, .inl wlk)), ((f 24), .inl (cI, 150, .inl spn)), ((f 18), .inl (cL, 9, .inr (.inl trm))), (h0, .inr (8, mS f tn rm ln lx at_ bd fs dp on os bn df th tp mo_ ev ss so lk rs pt ot cl)), ((f 25), .inl (cI, 41, .inl bss)), ((f 26), .inl (cI, 41, .inl wts))] := hD
        refine W.eq (g2 := F0 m 33 ls [.int (nI mb), .int (nI tp)]) rfl ?_
        refine lw_isub (a := tp) (b := mb) hx hb d_MO_act_33 (by omega) ?_
        refine lv_istore_n (lv' := [(3, .int (nI (tp - mb))), (2, .int 21), (1, .int (wkind lk)), (0, .ref h0)]) hx hb d_MO_act_34 rfl hl (Nat.le_of_ble_eq_true rfl) rfl (fun ls hl => ?_)
        refine lv_iload_n hx hb d_MO_act_35 rfl (lv_at hl 2 rfl) ?_
        refine lv_iconst (v := 1) hx hb d_MO_act_36 (by decide) ?_
        refine lv_icmp_ne (tgt := 69) hx hb d_MO_act_37 (by decide) (fun hb_935 => ?_) (fun hb_935 => ?_)
        · skip
          refine lv_iload_n hx hb d_MO_act_69 rfl (lv_at hl 2 rfl) ?_
          refine lv_if_eq (tgt := 85) hx hb d_MO_act_70 (by decide) (fun hb_936 => ?_) (fun hb_936 => ?_)
          · skip
            exact absurd (hb_1.symm.trans hb_936) (by decide)
          · skip
            refine lv_iload_n hx hb d_MO_act_73 rfl (lv_at hl 1 rfl) ?_
            refine lv_bipush (v := 17) hx hb d_MO_act_74 (by decide) ?_
            refine lv_icmp_eq (tgt := 85) hx hb d_MO_act_76 (by decide) (fun hbr => absurd hbr (by decide)) (fun hbr => ?_)
            refine lv_iload_n hx hb d_MO_act_79 rfl (lv_at hl 1 rfl) ?_
            refine lv_bipush (v := 20) hx hb d_MO_act_80 (by decide) ?_
            refine lv_icmp_le (tgt := 106) hx hb d_MO_act_82 (by decide) (fun hbr => absurd hbr (by decide)) (fun hbr => ?_)
            refine lv_iload_n hx hb d_MO_act_85 rfl (lv_at hl 0 rfl) ?_
            refine lv_if_le (tgt := 97) hx hb d_MO_act_86 (by decide) (fun hb_937 => ?_) (fun hb_937 => ?_)
            · skip
              have hn_938 : (tp - mb) ≤ 0 := (nI_leI (a := tp - mb) (b := 0) (by omega) (by omega)).mp hb_937
              refine lv_aload_n hx hb d_MO_act_97 rfl (lv_at hl 3 rfl) ?_
              refine lv_iconst (v := 0) hx hb d_MO_act_98 (by decide) ?_
              refine lv_iconst (v := 0) hx hb d_MO_act_99 (by decide) ?_
              refine em_call (wr := [((f 22), .inl (cZ, 400, .inl mrk)), ((f 23), .inl (cI, 810, .inl wlk))]) (em_runV (As := [.int 0, .int 0]) (rest := []) ⟨hx, hb, hml, hown, hG⟩ (mo_val00 l D cI cL cZ cC f h0 tn rm ln lx at_ bd fs dp on os bn df th tp mo_ ev ss so lk rs pt ot cl one two bss wts snd nbr lts spn trm Gc mb _ hsnd hMI hev hm1 hm2 hm3 hm4 hot hnt) (cwV 2 hG (gd_V k_1577 k_1579 k_91 k_116 k_1580) rfl rfl rfl (by decide +kernel) ⟨Nat.le_of_ble_eq_true rfl, Nat.le_of_ble_eq_true rfl⟩) (tw_V (q0 := 9) hP hD hK hE hst hS rfl rfl [9, 0, 1, 10, 11, 2, 3, 4, 7, 8] rfl (by decide)) rfl rfl hl.1 rfl (lv_room (Nat.le_of_ble_eq_true rfl)) d_MO_act_100 ⟨Nat.le_of_ble_eq_true rfl, Nat.le_of_ble_eq_true rfl⟩) hP hD hS hA [9, 0, 1, 10, 11, 2, 3, 4, 7, 8] [5, 6] rfl rfl (by decide) (by decide) (fun v u H locs hok hP hD hS => ?_) (fun x C u H locs hbad hxx hP hD hS => ?_)
              · skip
                obtain ⟨ev_939, tp_940, lk_941, ss_942, so_943, rs_944, pt_945, ot_946, one_947, two_948, bss_949, wts_950, snd_951, nbr_952, lts_953⟩ := u
                obtain ⟨rfl, hp_955⟩ := hok
                obtain ⟨hsnd_956, hMI_957, hev_958, hme_959, hot_960, hPv_961⟩ : (bln snd_951) ∧ (MI df Gc trm one_947 two_948 spn tp_940 lk_941 rs_944 pt_945) ∧ (ev_939 ≤ 40) ∧ (me bss_949 wts_950 ev_939 tp_940 0) ∧ (ot_946 ≤ ot + 12) ∧ ((ss_942 = ss + 1 ∨ (ss_942 = ss ∧ ¬ so_943 = 0 ∧ ot_946 = ot) ∨ (ss_942 = ss ∧ so_943 = so ∧ ot_946 = ot ∧ ms pt_945 ev_939 snd_951 tp_940 < ms pt ev snd tp))) := hp_955
                have hP : va_P D classes [((f 22), .inl (cZ, 400, .inl mrk)), ((f 23), .inl (cI, 810, .inl wlk)), (h0, .inr (8, mS f tn rm ln lx at_ bd fs dp on os bn df th tp_940 mo_ ev_939 ss_942 so_943 lk_941 rs_944 pt_945 ot_946 cl)), ((f 20), .inl (cL, 400, .inr (.inl one_947))), ((f 21), .inl (cL, 400, .inr (.inl two_948))), ((f 25), .inl (cI, 41, .inl bss_949)), ((f 26), .inl (cI, 41, .inl wts_950)), ((f 27), .inl (cZ, 41, .inl snd_951)), ((f 28), .inl (cI, 41, .inl nbr_952)), ((f 29), .inl (cI, 200, .inl lts_953)), ((f 24), .inl (cI, 150, .inl spn)), ((f 18), .inl (cL, 9, .inr (.inl trm)))] H := hP
                have hD : va_D A [((f 22), .inl (cZ, 400, .inl mrk)), ((f 23), .inl (cI, 810, .inl wlk)), (h0, .inr (8, mS f tn rm ln lx at_ bd fs dp on os bn df th tp_940 mo_ ev_939 ss_942 so_943 lk_941 rs_944 pt_945 ot_946 cl)), ((f 20), .inl (cL, 400, .inr (.inl one_947))), ((f 21), .inl (cL, 400, .inr (.inl two_948))), ((f 25), .inl (cI, 41, .inl bss_949)), ((f 26), .inl (cI, 41, .inl wts_950)), ((f 27), .inl (cZ, 41, .inl snd_951)), ((f 28), .inl (cI, 41, .inl nbr_952)), ((f 29), .inl (cI, 200, .inl lts_953)), ((f 24), .inl (cI, 150, .inl spn)), ((f 18), .inl (cL, 9, .inr (.inl trm)))] := hD
                refine W.eq (g2 := F0 m 103 ls []) rfl ?_
                refine lv_goto (tgt := 195) hx hb d_MO_act_103 (by decide) ?_
                exact em_vret hx hb hr hlocks hP hD hK hS (ev_939, tp_940, lk_941, ss_942, so_943, rs_944, pt_945, ot_946, one_947, two_948, bss_949, wts_950, snd_951, nbr_952, lts_953, mrk, wlk) [2, 3, 4, 5, 6, 7, 8, 9, 0, 1, 10, 11] (by decide) rfl ⟨rfl, ⟨hsnd_956, hmrk, (show ∃ G' : Nat → Prop, MI df G' trm one_947 two_948 spn tp_940 lk_941 rs_944 pt_945 ∧ ev_939 ≤ 40 ∧ me bss_949 wts_950 ev_939 tp_940 0 ∧ ot_946 ≤ ot + 12 ∧ (ss_942 = ss + 1 ∨ (ss_942 = ss ∧ ¬ so_943 = 0 ∧ ot_946 = ot) ∨ (ss_942 = ss ∧ so_943 = so ∧ ot_946 = ot ∧ ms pt_945 ev_939 snd_951 tp_940 < ms pt ev snd tp)) from ⟨Gc, hMI_957, hev_958, hme_959, hot_960, hPv_961⟩)⟩⟩ d_MO_act_195
              · skip
                exact hbad.elim
            · skip
              have hn_963 : ¬ (tp - mb) ≤ 0 := fun h => hb_937 ((nI_leI (a := tp - mb) (b := 0) (by omega) (by omega)).mpr h)
              refine lv_aload_n hx hb d_MO_act_89 rfl (lv_at hl 3 rfl) ?_
              refine lv_iconst (v := 2) hx hb d_MO_act_90 (by decide) ?_
              refine va_put (D := D) (ci := 8) (v := .int 2) (ty := .int) (C := rn_MO) (T := fl_MO) (N := 55) hx hb hG in_MO tt_MO tk_MO nn_MO hown hK hP hD hS 9 rfl rfl 42 (by decide) (hG _ k_1233) (fun _ h9 => h9) rfl (by decide +kernel) rfl rfl (Nat.le_of_ble_eq_true rfl) d_MO_act_91 (fun H locs hP hD hS => ?_)
              have hP : va_P D classes [((f 20), .inl (cL, 400, .inr (.inl one))), ((f 21), .inl (cL, 400, .inr (.inl two))), ((f 27), .inl (cZ, 41, .inl snd)), ((f 28), .inl (cI, 41, .inl nbr)), ((f 29), .inl (cI, 200, .inl lts)), ((f 22), .inl (cZ, 400, .inl mrk)), ((f 23), .inl (cI, 810, .inl wlk)), ((f 24), .inl (cI, 150, .inl spn)), ((f 18), .inl (cL, 9, .inr (.inl trm))), (h0, .inr (8, mS f tn rm ln lx at_ bd fs dp on os bn df th tp mo_ ev ss 2 lk rs pt ot cl)), ((f 25), .inl (cI, 41, .inl bss)), ((f 26), .inl (cI, 41, .inl wts))] H := hP
              have hD : va_D A [((f 20), .inl (cL, 400, .inr (.inl one))), ((f 21), .inl (cL, 400, .inr (.inl two))), ((f 27), .inl (cZ, 41, .inl snd)), ((f 28), .inl (cI, 41, .inl nbr)), ((f 29), .inl (cI, 200, .inl lts)), ((f 22), .inl (cZ, 400, .inl mrk)), ((f 23), .inl (cI, 810, .inl wlk)), ((f 24), .inl (cI, 150, .inl spn)), ((f 18), .inl (cL, 9, .inr (.inl trm))), (h0, .inr (8, mS f tn rm ln lx at_ bd fs dp on os bn df th tp mo_ ev ss 2 lk rs pt ot cl)), ((f 25), .inl (cI, 41, .inl bss)), ((f 26), .inl (cI, 41, .inl wts))] := hD
              refine lv_goto (tgt := 195) hx hb d_MO_act_94 (by decide) ?_
              exact em_vret hx hb hr hlocks hP hD hK hS (ev, tp, lk, ss, 2, rs, pt, ot, one, two, bss, wts, snd, nbr, lts, mrk, wlk) [9, 0, 1, 10, 11, 2, 3, 4, 5, 6, 7, 8] (by decide) rfl ⟨rfl, ⟨hsnd, hmrk, (show ∃ G' : Nat → Prop, MI df G' trm one two spn tp lk rs pt ∧ ev ≤ 40 ∧ me bss wts ev tp 0 ∧ ot ≤ ot + 12 ∧ (ss = ss + 1 ∨ (ss = ss ∧ ¬ 2 = 0 ∧ ot = ot) ∨ (ss = ss ∧ 2 = so ∧ ot = ot ∧ ms pt ev snd tp < ms pt ev snd tp)) from ⟨Gc, hMI, hev, hme, by omega, Or.inr (Or.inl ⟨rfl, by decide, rfl⟩)⟩)⟩⟩ d_MO_act_195
        · skip
          exact absurd (hb_1.symm.trans hb_935) (by decide)
      · skip
        exact hbad.elim
    · skip
      have hl : lv_has ls 4 [(2, .int 22), (1, .int (wkind lk)), (0, .ref h0)] := hl
      refine lv_aload_n hx hb d_MO_act_25 rfl (lv_at hl 2 rfl) ?_
      refine va_get (D := D) (ci := 8) (v := .int (nI tp)) (C := rn_MO) (T := fl_MO) (N := 55) hx hb hG in_MO hown hK hP 0 rfl rfl 38 (by decide) (hG _ k_1229) (fun _ h9 => h9) rfl d_MO_act_26 ?_
      refine lv_aload_n hx hb d_MO_act_29 rfl (lv_at hl 2 rfl) ?_
      refine em_call (wr := [((f 20), .inl (cL, 400, .inr (.inl one))), ((f 21), .inl (cL, 400, .inr (.inl two))), ((f 27), .inl (cZ, 41, .inl snd)), ((f 28), .inl (cI, 41, .inl nbr)), ((f 29), .inl (cI, 200, .inl lts)), ((f 22), .inl (cZ, 400, .inl mrk)), ((f 23), .inl (cI, 810, .inl wlk)), ((f 24), .inl (cI, 150, .inl spn)), ((f 18), .inl (cL, 9, .inr (.inl trm)))]) (em_runV (As := []) (rest := [.int (nI tp)]) ⟨hx, hb, hml, hown, hG⟩ (mo_below l D cI cL cZ cC f h0 tn rm ln lx at_ bd fs dp on os bn df th tp mo_ ev ss so lk rs pt ot cl bss wts _ hme hev hnt) (cwV 0 hG (gd_V k_1573 k_1575 k_90 k_116 k_1576) rfl rfl rfl (by decide +kernel) ⟨Nat.le_of_ble_eq_true rfl, Nat.le_of_ble_eq_true rfl⟩) (tw_V (q0 := 0) hP hD hK hE hst hS rfl rfl [0, 3, 4] rfl (by decide)) rfl rfl hl.1 rfl (lv_room (Nat.le_of_ble_eq_true rfl)) d_MO_act_30 ⟨Nat.le_of_ble_eq_true rfl, Nat.le_of_ble_eq_true rfl⟩) hP hD hS hA [0, 3, 4] [1, 2, 5, 6, 7, 8, 9, 10, 11] rfl rfl (by decide) (by decide) (fun v u H locs hok hP hD hS => ?_) (fun x C u H locs hbad hxx hP hD hS => ?_)
      · skip
        obtain ⟨r_964, rfl, hp_965⟩ := hok
        have hres_966 : (∃ mq : Nat, r_964 = nI mq ∧ mq ≤ tp ∧ (ev = 0 → mq = 0) ∧ (1 ≤ ev → bss (ev - 1) = nI mq) ∧ me bss wts ev mq 0) := hp_965
        obtain ⟨mb, rfl, hm1, hm2, hm3, hm4⟩ := hres_966
        have hP : va_P D classes [((f 20), .inl (cL, 400, .inr (.inl one))), ((f 21), .inl (cL, 400, .inr (.inl two))), ((f 27), .inl (cZ, 41, .inl snd)), ((f 28), .inl (cI, 41, .inl nbr)), ((f 29), .inl (cI, 200, .inl lts)), ((f 22), .inl (cZ, 400, .inl mrk)), ((f 23), .inl (cI, 810, .inl wlk)), ((f 24), .inl (cI, 150, .inl spn)), ((f 18), .inl (cL, 9, .inr (.inl trm))), (h0, .inr (8, mS f tn rm ln lx at_ bd fs dp on os bn df th tp mo_ ev ss so lk rs pt ot cl)), ((f 25), .inl (cI, 41, .inl bss)), ((f 26), .inl (cI, 41, .inl wts))] H := hP
        have hD : va_D A [((f 20), .inl (cL, 400, .inr (.inl one))), ((f 21), .inl (cL, 400, .inr (.inl two))), ((f 27), .inl (cZ, 41, .inl snd)), ((f 28), .inl (cI, 41, .inl nbr)), ((f 29), .inl (cI, 200, .inl lts)), ((f 22), .inl (cZ, 400, .inl mrk)), ((f 23), .inl (cI, 810, .inl wlk)), ((f 24), .inl (cI, 150, .inl spn)), ((f 18), .inl (cL, 9, .inr (.inl trm))), (h0, .inr (8, mS f tn rm ln lx at_ bd fs dp on os bn df th tp mo_ ev ss so lk rs pt ot cl)), ((f 25), .inl (cI, 41, .inl bss)), ((f 26), .inl (cI, 41, .inl wts))] := hD
        refine W.eq (g2 := F0 m 33 ls [.int (nI mb), .int (nI tp)]) rfl ?_
        refine lw_isub (a := tp) (b := mb) hx hb d_MO_act_33 (by omega) ?_
        refine lv_istore_n (lv' := [(3, .int (nI (tp - mb))), (2, .int 22), (1, .int (wkind lk)), (0, .ref h0)]) hx hb d_MO_act_34 rfl hl (Nat.le_of_ble_eq_true rfl) rfl (fun ls hl => ?_)
        refine lv_iload_n hx hb d_MO_act_35 rfl (lv_at hl 2 rfl) ?_
        refine lv_iconst (v := 1) hx hb d_MO_act_36 (by decide) ?_
        refine lv_icmp_ne (tgt := 69) hx hb d_MO_act_37 (by decide) (fun hb_967 => ?_) (fun hb_967 => ?_)
        · skip
          refine lv_iload_n hx hb d_MO_act_69 rfl (lv_at hl 2 rfl) ?_
          refine lv_if_eq (tgt := 85) hx hb d_MO_act_70 (by decide) (fun hb_968 => ?_) (fun hb_968 => ?_)
          · skip
            exact absurd (hb_1.symm.trans hb_968) (by decide)
          · skip
            refine lv_iload_n hx hb d_MO_act_73 rfl (lv_at hl 1 rfl) ?_
            refine lv_bipush (v := 17) hx hb d_MO_act_74 (by decide) ?_
            refine lv_icmp_eq (tgt := 85) hx hb d_MO_act_76 (by decide) (fun hbr => absurd hbr (by decide)) (fun hbr => ?_)
            refine lv_iload_n hx hb d_MO_act_79 rfl (lv_at hl 1 rfl) ?_
            refine lv_bipush (v := 20) hx hb d_MO_act_80 (by decide) ?_
            refine lv_icmp_le (tgt := 106) hx hb d_MO_act_82 (by decide) (fun hbr => absurd hbr (by decide)) (fun hbr => ?_)
            refine lv_iload_n hx hb d_MO_act_85 rfl (lv_at hl 0 rfl) ?_
            refine lv_if_le (tgt := 97) hx hb d_MO_act_86 (by decide) (fun hb_969 => ?_) (fun hb_969 => ?_)
            · skip
              have hn_970 : (tp - mb) ≤ 0 := (nI_leI (a := tp - mb) (b := 0) (by omega) (by omega)).mp hb_969
              refine lv_aload_n hx hb d_MO_act_97 rfl (lv_at hl 3 rfl) ?_
              refine lv_iconst (v := 0) hx hb d_MO_act_98 (by decide) ?_
              refine lv_iconst (v := 0) hx hb d_MO_act_99 (by decide) ?_
              refine em_call (wr := [((f 22), .inl (cZ, 400, .inl mrk)), ((f 23), .inl (cI, 810, .inl wlk))]) (em_runV (As := [.int 0, .int 0]) (rest := []) ⟨hx, hb, hml, hown, hG⟩ (mo_val00 l D cI cL cZ cC f h0 tn rm ln lx at_ bd fs dp on os bn df th tp mo_ ev ss so lk rs pt ot cl one two bss wts snd nbr lts spn trm Gc mb _ hsnd hMI hev hm1 hm2 hm3 hm4 hot hnt) (cwV 2 hG (gd_V k_1577 k_1579 k_91 k_116 k_1580) rfl rfl rfl (by decide +kernel) ⟨Nat.le_of_ble_eq_true rfl, Nat.le_of_ble_eq_true rfl⟩) (tw_V (q0 := 9) hP hD hK hE hst hS rfl rfl [9, 0, 1, 10, 11, 2, 3, 4, 7, 8] rfl (by decide)) rfl rfl hl.1 rfl (lv_room (Nat.le_of_ble_eq_true rfl)) d_MO_act_100 ⟨Nat.le_of_ble_eq_true rfl, Nat.le_of_ble_eq_true rfl⟩) hP hD hS hA [9, 0, 1, 10, 11, 2, 3, 4, 7, 8] [5, 6] rfl rfl (by decide) (by decide) (fun v u H locs hok hP hD hS => ?_) (fun x C u H locs hbad hxx hP hD hS => ?_)
              · skip
                obtain ⟨ev_971, tp_972, lk_973, ss_974, so_975, rs_976, pt_977, ot_978, one_979, two_980, bss_981, wts_982, snd_983, nbr_984, lts_985⟩ := u
                obtain ⟨rfl, hp_987⟩ := hok
                obtain ⟨hsnd_988, hMI_989, hev_990, hme_991, hot_992, hPv_993⟩ : (bln snd_983) ∧ (MI df Gc trm one_979 two_980 spn tp_972 lk_973 rs_976 pt_977) ∧ (ev_971 ≤ 40) ∧ (me bss_981 wts_982 ev_971 tp_972 0) ∧ (ot_978 ≤ ot + 12) ∧ ((ss_974 = ss + 1 ∨ (ss_974 = ss ∧ ¬ so_975 = 0 ∧ ot_978 = ot) ∨ (ss_974 = ss ∧ so_975 = so ∧ ot_978 = ot ∧ ms pt_977 ev_971 snd_983 tp_972 < ms pt ev snd tp))) := hp_987
                have hP : va_P D classes [((f 22), .inl (cZ, 400, .inl mrk)), ((f 23), .inl (cI, 810, .inl wlk)), (h0, .inr (8, mS f tn rm ln lx at_ bd fs dp on os bn df th tp_972 mo_ ev_971 ss_974 so_975 lk_973 rs_976 pt_977 ot_978 cl)), ((f 20), .inl (cL, 400, .inr (.inl one_979))), ((f 21), .inl (cL, 400, .inr (.inl two_980))), ((f 25), .inl (cI, 41, .inl bss_981)), ((f 26), .inl (cI, 41, .inl wts_982)), ((f 27), .inl (cZ, 41, .inl snd_983)), ((f 28), .inl (cI, 41, .inl nbr_984)), ((f 29), .inl (cI, 200, .inl lts_985)), ((f 24), .inl (cI, 150, .inl spn)), ((f 18), .inl (cL, 9, .inr (.inl trm)))] H := hP
                have hD : va_D A [((f 22), .inl (cZ, 400, .inl mrk)), ((f 23), .inl (cI, 810, .inl wlk)), (h0, .inr (8, mS f tn rm ln lx at_ bd fs dp on os bn df th tp_972 mo_ ev_971 ss_974 so_975 lk_973 rs_976 pt_977 ot_978 cl)), ((f 20), .inl (cL, 400, .inr (.inl one_979))), ((f 21), .inl (cL, 400, .inr (.inl two_980))), ((f 25), .inl (cI, 41, .inl bss_981)), ((f 26), .inl (cI, 41, .inl wts_982)), ((f 27), .inl (cZ, 41, .inl snd_983)), ((f 28), .inl (cI, 41, .inl nbr_984)), ((f 29), .inl (cI, 200, .inl lts_985)), ((f 24), .inl (cI, 150, .inl spn)), ((f 18), .inl (cL, 9, .inr (.inl trm)))] := hD
                refine W.eq (g2 := F0 m 103 ls []) rfl ?_
                refine lv_goto (tgt := 195) hx hb d_MO_act_103 (by decide) ?_
                exact em_vret hx hb hr hlocks hP hD hK hS (ev_971, tp_972, lk_973, ss_974, so_975, rs_976, pt_977, ot_978, one_979, two_980, bss_981, wts_982, snd_983, nbr_984, lts_985, mrk, wlk) [2, 3, 4, 5, 6, 7, 8, 9, 0, 1, 10, 11] (by decide) rfl ⟨rfl, ⟨hsnd_988, hmrk, (show ∃ G' : Nat → Prop, MI df G' trm one_979 two_980 spn tp_972 lk_973 rs_976 pt_977 ∧ ev_971 ≤ 40 ∧ me bss_981 wts_982 ev_971 tp_972 0 ∧ ot_978 ≤ ot + 12 ∧ (ss_974 = ss + 1 ∨ (ss_974 = ss ∧ ¬ so_975 = 0 ∧ ot_978 = ot) ∨ (ss_974 = ss ∧ so_975 = so ∧ ot_978 = ot ∧ ms pt_977 ev_971 snd_983 tp_972 < ms pt ev snd tp)) from ⟨Gc, hMI_989, hev_990, hme_991, hot_992, hPv_993⟩)⟩⟩ d_MO_act_195
              · skip
                exact hbad.elim
            · skip
              have hn_995 : ¬ (tp - mb) ≤ 0 := fun h => hb_969 ((nI_leI (a := tp - mb) (b := 0) (by omega) (by omega)).mpr h)
              refine lv_aload_n hx hb d_MO_act_89 rfl (lv_at hl 3 rfl) ?_
              refine lv_iconst (v := 2) hx hb d_MO_act_90 (by decide) ?_
              refine va_put (D := D) (ci := 8) (v := .int 2) (ty := .int) (C := rn_MO) (T := fl_MO) (N := 55) hx hb hG in_MO tt_MO tk_MO nn_MO hown hK hP hD hS 9 rfl rfl 42 (by decide) (hG _ k_1233) (fun _ h9 => h9) rfl (by decide +kernel) rfl rfl (Nat.le_of_ble_eq_true rfl) d_MO_act_91 (fun H locs hP hD hS => ?_)
              have hP : va_P D classes [((f 20), .inl (cL, 400, .inr (.inl one))), ((f 21), .inl (cL, 400, .inr (.inl two))), ((f 27), .inl (cZ, 41, .inl snd)), ((f 28), .inl (cI, 41, .inl nbr)), ((f 29), .inl (cI, 200, .inl lts)), ((f 22), .inl (cZ, 400, .inl mrk)), ((f 23), .inl (cI, 810, .inl wlk)), ((f 24), .inl (cI, 150, .inl spn)), ((f 18), .inl (cL, 9, .inr (.inl trm))), (h0, .inr (8, mS f tn rm ln lx at_ bd fs dp on os bn df th tp mo_ ev ss 2 lk rs pt ot cl)), ((f 25), .inl (cI, 41, .inl bss)), ((f 26), .inl (cI, 41, .inl wts))] H := hP
              have hD : va_D A [((f 20), .inl (cL, 400, .inr (.inl one))), ((f 21), .inl (cL, 400, .inr (.inl two))), ((f 27), .inl (cZ, 41, .inl snd)), ((f 28), .inl (cI, 41, .inl nbr)), ((f 29), .inl (cI, 200, .inl lts)), ((f 22), .inl (cZ, 400, .inl mrk)), ((f 23), .inl (cI, 810, .inl wlk)), ((f 24), .inl (cI, 150, .inl spn)), ((f 18), .inl (cL, 9, .inr (.inl trm))), (h0, .inr (8, mS f tn rm ln lx at_ bd fs dp on os bn df th tp mo_ ev ss 2 lk rs pt ot cl)), ((f 25), .inl (cI, 41, .inl bss)), ((f 26), .inl (cI, 41, .inl wts))] := hD
              refine lv_goto (tgt := 195) hx hb d_MO_act_94 (by decide) ?_
              exact em_vret hx hb hr hlocks hP hD hK hS (ev, tp, lk, ss, 2, rs, pt, ot, one, two, bss, wts, snd, nbr, lts, mrk, wlk) [9, 0, 1, 10, 11, 2, 3, 4, 5, 6, 7, 8] (by decide) rfl ⟨rfl, ⟨hsnd, hmrk, (show ∃ G' : Nat → Prop, MI df G' trm one two spn tp lk rs pt ∧ ev ≤ 40 ∧ me bss wts ev tp 0 ∧ ot ≤ ot + 12 ∧ (ss = ss + 1 ∨ (ss = ss ∧ ¬ 2 = 0 ∧ ot = ot) ∨ (ss = ss ∧ 2 = so ∧ ot = ot ∧ ms pt ev snd tp < ms pt ev snd tp)) from ⟨Gc, hMI, hev, hme, by omega, Or.inr (Or.inl ⟨rfl, by decide, rfl⟩)⟩)⟩⟩ d_MO_act_195
        · skip
          exact absurd (hb_1.symm.trans hb_967) (by decide)
      · skip
        exact hbad.elim
set_option maxHeartbeats 8000000 in
set_option maxRecDepth 100000 in
theorem mo_step (l : Launch) (D : va_G) (cI cL cZ cC : ClassId) (f : Nat → Nat) (h0 : Nat) (tn : Int32) (rm : Nat) (ln : Nat) (lx : Nat) (at_ : Nat) (bd : Int32) (fs : Nat) (dp : Nat) (on : Nat) (os : Nat) (bn : Nat) (df : Nat) (th : Int32) (tp : Nat) (mo_ : Int32) (ev : Nat) (ss : Int32) (so : Int32) (lk : Int64) (rs : Int64) (pt : Int32) (ot : Nat) (cl : Int32) (spn : Nat → Int32) (one : Nat → Int64) (two : Nat → Int64) (bss : Nat → Int32) (wts : Nat → Int32) (snd : Nat → Int32) (nbr : Nat → Int32) (lts : Nat → Int32) (mrk : Nat → Int32) (wlk : Nat → Int32) (trm : Nat → Int64) (Gc : Nat → Prop) (sz : Nat) (hsnd : bln snd) (hmrk : bln mrk) (hMI : MI df Gc trm one two spn tp lk rs pt) (hrm : rm ≤ 400) (hev : ev ≤ 40) (hme : me bss wts ev tp 0) (hot : ot + 12 < 2147483647) (hnt : l.stackTraces = false) : em_Met l y_MO_step (wz y_MO_step b_MO_step 2 none) ({ frames := 6, cells := 0, slots := 0, locals := 148 }) (va_Pc [.ref h0] (tw_pre D (tys4 cI cL cZ cC) [(h0, .inr (8, mS f tn rm ln lx at_ bd fs dp on os bn df th tp mo_ ev ss so lk rs pt ot cl)), ((f 24), .inl (cI, 150, .inl spn)), ((f 20), .inl (cL, 400, .inr (.inl one))), ((f 21), .inl (cL, 400, .inr (.inl two))), ((f 25), .inl (cI, 41, .inl bss)), ((f 26), .inl (cI, 41, .inl wts)), ((f 27), .inl (cZ, 41, .inl snd)), ((f 28), .inl (cI, 41, .inl nbr)), ((f 29), .inl (cI, 200, .inl lts)), ((f 22), .inl (cZ, 400, .inl mrk)), ((f 23), .inl (cI, 810, .inl wlk)), ((f 18), .inl (cL, 9, .inr (.inl trm)))] sz)) D (tys4 cI cL cZ cC) (va_A [(h0, .inr (8, mS f tn rm ln lx at_ bd fs dp on os bn df th tp mo_ ev ss so lk rs pt ot cl)), ((f 24), .inl (cI, 150, .inl spn)), ((f 20), .inl (cL, 400, .inr (.inl one))), ((f 21), .inl (cL, 400, .inr (.inl two))), ((f 25), .inl (cI, 41, .inl bss)), ((f 26), .inl (cI, 41, .inl wts)), ((f 27), .inl (cZ, 41, .inl snd)), ((f 28), .inl (cI, 41, .inl nbr)), ((f 29), .inl (cI, 200, .inl lts)), ((f 22), .inl (cZ, 400, .inl mrk)), ((f 23), .inl (cI, 810, .inl wlk)), ((f 18), .inl (cL, 9, .inr (.inl trm)))] sz) (fun (u : Nat × Int32 × Nat × Int32 × Int32 × Int64 × Int64 × Int32 × Nat × (Nat → Int32) × (Nat → Int64) × (Nat → Int64) × (Nat → Int32) × (Nat → Int32) × (Nat → Int32) × (Nat → Int32) × (Nat → Int32) × (Nat → Int32) × (Nat → Int32)) => [(h0, .inr (8, mS f tn rm ln lx at_ bd fs dp on os bn df th u.1 u.2.1 u.2.2.1 u.2.2.2.1 u.2.2.2.2.1 u.2.2.2.2.2.1 u.2.2.2.2.2.2.1 u.2.2.2.2.2.2.2.1 u.2.2.2.2.2.2.2.2.1 cl)), ((f 24), .inl (cI, 150, .inl u.2.2.2.2.2.2.2.2.2.1)), ((f 20), .inl (cL, 400, .inr (.inl u.2.2.2.2.2.2.2.2.2.2.1))), ((f 21), .inl (cL, 400, .inr (.inl u.2.2.2.2.2.2.2.2.2.2.2.1))), ((f 25), .inl (cI, 41, .inl u.2.2.2.2.2.2.2.2.2.2.2.2.1)), ((f 26), .inl (cI, 41, .inl u.2.2.2.2.2.2.2.2.2.2.2.2.2.1)), ((f 27), .inl (cZ, 41, .inl u.2.2.2.2.2.2.2.2.2.2.2.2.2.2.1)), ((f 28), .inl (cI, 41, .inl u.2.2.2.2.2.2.2.2.2.2.2.2.2.2.2.1)), ((f 29), .inl (cI, 200, .inl u.2.2.2.2.2.2.2.2.2.2.2.2.2.2.2.2.1)), ((f 22), .inl (cZ, 400, .inl u.2.2.2.2.2.2.2.2.2.2.2.2.2.2.2.2.2.1)), ((f 23), .inl (cI, 810, .inl u.2.2.2.2.2.2.2.2.2.2.2.2.2.2.2.2.2.2)), ((f 18), .inl (cL, 9, .inr (.inl trm)))]) (fun v (u : Nat × Int32 × Nat × Int32 × Int32 × Int64 × Int64 × Int32 × Nat × (Nat → Int32) × (Nat → Int64) × (Nat → Int64) × (Nat → Int32) × (Nat → Int32) × (Nat → Int32) × (Nat → Int32) × (Nat → Int32) × (Nat → Int32) × (Nat → Int32)) => v = none ∧ ((bln u.2.2.2.2.2.2.2.2.2.2.2.2.2.2.1) ∧ (bln u.2.2.2.2.2.2.2.2.2.2.2.2.2.2.2.2.2.1) ∧ (∃ G' : Nat → Prop, MI df G' trm u.2.2.2.2.2.2.2.2.2.2.1 u.2.2.2.2.2.2.2.2.2.2.2.1 u.2.2.2.2.2.2.2.2.2.1 u.1 u.2.2.2.2.2.1 u.2.2.2.2.2.2.1 u.2.2.2.2.2.2.2.1 ∧ u.2.2.1 ≤ 40 ∧ me u.2.2.2.2.2.2.2.2.2.2.2.2.1 u.2.2.2.2.2.2.2.2.2.2.2.2.2.1 u.2.2.1 u.1 0 ∧ u.2.2.2.2.2.2.2.2.1 ≤ ot + 12 ∧ (u.2.2.2.1 = ss + 1 ∨ (u.2.2.2.1 = ss ∧ ¬ u.2.2.2.2.1 = 0))))) (fun C (u : Nat × Int32 × Nat × Int32 × Int32 × Int64 × Int64 × Int32 × Nat × (Nat → Int32) × (Nat → Int64) × (Nat → Int64) × (Nat → Int32) × (Nat → Int32) × (Nat → Int32) × (Nat → Int32) × (Nat → Int32) × (Nat → Int32) × (Nat → Int32)) => False) 0 0 := by
  refine em_Met.ofW (cc := b_MO_step) (maxL := 2) (ret := none) (by decide) rfl ?_
  intro p e s m args below meth c s₁ B hml hv hno
  obtain ⟨rfl, ⟨hsz, hP, hK, hD0⟩, hE⟩ := hv
  have hx := B.exec
  have hb := B.bytes
  have hr := B.returns
  have hts := atoms_spec (ws := wz y_MO_step b_MO_step 2 none) B.pre
  have hG := wz_G hts
  have hown : s.vm.findClass rn_MO = some m.cls := findClass_of_methodNamed B.named
  have hlocks := B.notSynchronized
  subst hsz
  have hD := hD0.self (sz := s.heap.size)
  have hst := tw_st hP
  generalize hAe : va_A [(h0, .inr (8, mS f tn rm ln lx at_ bd fs dp on os bn df th tp mo_ ev ss so lk rs pt ot cl)), ((f 24), .inl (cI, 150, .inl spn)), ((f 20), .inl (cL, 400, .inr (.inl one))), ((f 21), .inl (cL, 400, .inr (.inl two))), ((f 25), .inl (cI, 41, .inl bss)), ((f 26), .inl (cI, 41, .inl wts)), ((f 27), .inl (cZ, 41, .inl snd)), ((f 28), .inl (cI, 41, .inl nbr)), ((f 29), .inl (cI, 200, .inl lts)), ((f 22), .inl (cZ, 400, .inl mrk)), ((f 23), .inl (cI, 810, .inl wlk)), ((f 18), .inl (cL, 9, .inr (.inl trm)))] s.heap.size = A at hD hst ⊢
  have hA : ∀ q : Nat, s.heap.size ≤ q → A q := fun q h => by rw [← hAe]; exact Or.inr h
  have hS : va_S A s.heap s.heap [] := va_S.rf
  have hl := lv_entry ([.ref h0]) (n := 2) (Nat.le_of_ble_eq_true rfl)
  rw [lg_entry_eq]
  generalize (lg_sl ([.ref h0]) ++ List.replicate (2 - (lg_sl ([.ref h0])).length) Slot.unset).toArray = ls at hl ⊢
  have hl : lv_has ls 2 [(0, .ref h0)] := hl
  have loop_2 : ∀ (k_1 : Nat) (mz : Nat) (tp1 : Nat) (mo_1 : Int32) (ev1 : Nat) (ss1 : Int32) (so1 : Int32) (lk1 : Int64) (rs1 : Int64) (pt1 : Int32) (ot1 : Nat) (spn1 : Nat → Int32) (one1 : Nat → Int64) (two1 : Nat → Int64) (bss1 : Nat → Int32) (wts1 : Nat → Int32) (snd1 : Nat → Int32) (nbr1 : Nat → Int32) (lts1 : Nat → Int32) (mrk1 : Nat → Int32) (wlk1 : Nat → Int32) (H : Heap) (locs : List Loc) (ls : Array Slot), mz < k_1 → (ss1 = ss → so1 = 0 → ms pt1 ev1 snd1 tp1 + 1 ≤ mz) → ((∃ G1 : Nat → Prop, MI df G1 trm one1 two1 spn1 tp1 lk1 rs1 pt1 ∧ ev1 ≤ 40 ∧ me bss1 wts1 ev1 tp1 0 ∧ ((ss1 = ss ∧ ot1 = ot) ∨ (ss1 = ss + 1 ∧ ot1 ≤ ot + 12)))) → (bln snd1) → (bln mrk1) → lv_has ls 2 [(0, .ref h0), (1, .int ss)] → va_P D classes [(h0, .inr (8, mS f tn rm ln lx at_ bd fs dp on os bn df th tp1 mo_1 ev1 ss1 so1 lk1 rs1 pt1 ot1 cl)), ((f 24), .inl (cI, 150, .inl spn1)), ((f 20), .inl (cL, 400, .inr (.inl one1))), ((f 21), .inl (cL, 400, .inr (.inl two1))), ((f 25), .inl (cI, 41, .inl bss1)), ((f 26), .inl (cI, 41, .inl wts1)), ((f 27), .inl (cZ, 41, .inl snd1)), ((f 28), .inl (cI, 41, .inl nbr1)), ((f 29), .inl (cI, 200, .inl lts1)), ((f 22), .inl (cZ, 400, .inl mrk1)), ((f 23), .inl (cI, 810, .inl wlk1)), ((f 18), .inl (cL, 9, .inr (.inl trm)))] H → va_D A [(h0, .inr (8, mS f tn rm ln lx at_ bd fs dp on os bn df th tp1 mo_1 ev1 ss1 so1 lk1 rs1 pt1 ot1 cl)), ((f 24), .inl (cI, 150, .inl spn1)), ((f 20), .inl (cL, 400, .inr (.inl one1))), ((f 21), .inl (cL, 400, .inr (.inl two1))), ((f 25), .inl (cI, 41, .inl bss1)), ((f 26), .inl (cI, 41, .inl wts1)), ((f 27), .inl (cZ, 41, .inl snd1)), ((f 28), .inl (cI, 41, .inl nbr1)), ((f 29), .inl (cI, 200, .inl lts1)), ((f 22), .inl (cZ, 400, .inl mrk1)), ((f 23), .inl (cI, 810, .inl wlk1)), ((f 18), .inl (cL, 9, .inr (.inl trm)))] → va_S A s.heap H locs → W p l e (headSpec (wz y_MO_step b_MO_step 2 none) ({ frames := 6, cells := 0, slots := 0, locals := 148 })).room s m ([.ref h0] : List Value).toArray below meth c H locs 0 0 (em_MQ below D (tys4 cI cL cZ cC) A (fun (u : Nat × Int32 × Nat × Int32 × Int32 × Int64 × Int64 × Int32 × Nat × (Nat → Int32) × (Nat → Int64) × (Nat → Int64) × (Nat → Int32) × (Nat → Int32) × (Nat → Int32) × (Nat → Int32) × (Nat → Int32) × (Nat → Int32) × (Nat → Int32)) => [(h0, .inr (8, mS f tn rm ln lx at_ bd fs dp on os bn df th u.1 u.2.1 u.2.2.1 u.2.2.2.1 u.2.2.2.2.1 u.2.2.2.2.2.1 u.2.2.2.2.2.2.1 u.2.2.2.2.2.2.2.1 u.2.2.2.2.2.2.2.2.1 cl)), ((f 24), .inl (cI, 150, .inl u.2.2.2.2.2.2.2.2.2.1)), ((f 20), .inl (cL, 400, .inr (.inl u.2.2.2.2.2.2.2.2.2.2.1))), ((f 21), .inl (cL, 400, .inr (.inl u.2.2.2.2.2.2.2.2.2.2.2.1))), ((f 25), .inl (cI, 41, .inl u.2.2.2.2.2.2.2.2.2.2.2.2.1)), ((f 26), .inl (cI, 41, .inl u.2.2.2.2.2.2.2.2.2.2.2.2.2.1)), ((f 27), .inl (cZ, 41, .inl u.2.2.2.2.2.2.2.2.2.2.2.2.2.2.1)), ((f 28), .inl (cI, 41, .inl u.2.2.2.2.2.2.2.2.2.2.2.2.2.2.2.1)), ((f 29), .inl (cI, 200, .inl u.2.2.2.2.2.2.2.2.2.2.2.2.2.2.2.2.1)), ((f 22), .inl (cZ, 400, .inl u.2.2.2.2.2.2.2.2.2.2.2.2.2.2.2.2.2.1)), ((f 23), .inl (cI, 810, .inl u.2.2.2.2.2.2.2.2.2.2.2.2.2.2.2.2.2.2)), ((f 18), .inl (cL, 9, .inr (.inl trm)))]) (fun v (u : Nat × Int32 × Nat × Int32 × Int32 × Int64 × Int64 × Int32 × Nat × (Nat → Int32) × (Nat → Int64) × (Nat → Int64) × (Nat → Int32) × (Nat → Int32) × (Nat → Int32) × (Nat → Int32) × (Nat → Int32) × (Nat → Int32) × (Nat → Int32)) => v = none ∧ ((bln u.2.2.2.2.2.2.2.2.2.2.2.2.2.2.1) ∧ (bln u.2.2.2.2.2.2.2.2.2.2.2.2.2.2.2.2.2.1) ∧ (∃ G' : Nat → Prop, MI df G' trm u.2.2.2.2.2.2.2.2.2.2.1 u.2.2.2.2.2.2.2.2.2.2.2.1 u.2.2.2.2.2.2.2.2.2.1 u.1 u.2.2.2.2.2.1 u.2.2.2.2.2.2.1 u.2.2.2.2.2.2.2.1 ∧ u.2.2.1 ≤ 40 ∧ me u.2.2.2.2.2.2.2.2.2.2.2.2.1 u.2.2.2.2.2.2.2.2.2.2.2.2.2.1 u.2.2.1 u.1 0 ∧ u.2.2.2.2.2.2.2.2.1 ≤ ot + 12 ∧ (u.2.2.2.1 = ss + 1 ∨ (u.2.2.2.1 = ss ∧ ¬ u.2.2.2.2.1 = 0))))) (fun C (u : Nat × Int32 × Nat × Int32 × Int32 × Int64 × Int64 × Int32 × Nat × (Nat → Int32) × (Nat → Int64) × (Nat → Int64) × (Nat → Int32) × (Nat → Int32) × (Nat → Int32) × (Nat → Int32) × (Nat → Int32) × (Nat → Int32) × (Nat → Int32)) => False) s 0 0) (F0 m 5 ls []) := by
    intro k_1
    induction k_1 with
    | zero => intro mz tp1 mo_1 ev1 ss1 so1 lk1 rs1 pt1 ot1 spn1 one1 two1 bss1 wts1 snd1 nbr1 lts1 mrk1 wlk1 H locs ls hm; exact absurd hm (Nat.not_lt_zero _)
    | succ k_1 ih_3 =>
      intro mz tp1 mo_1 ev1 ss1 so1 lk1 rs1 pt1 ot1 spn1 one1 two1 bss1 wts1 snd1 nbr1 lts1 mrk1 wlk1 H locs ls hm hmz hsta hsnd1 hmrk1 hl hP hD hS
      refine lv_aload_n hx hb d_MO_step_5 rfl (lv_at hl 0 rfl) ?_
      refine va_get (D := D) (ci := 8) (v := .int ss1) (C := rn_MO) (T := fl_MO) (N := 55) hx hb hG in_MO hown hK hP 0 rfl rfl 41 (by decide) (hG _ k_1232) (fun _ h9 => h9) rfl d_MO_step_6 ?_
      refine lv_iload_n hx hb d_MO_step_9 rfl (lv_at hl 1 rfl) ?_
      refine lv_icmp_ne (tgt := 131) hx hb d_MO_step_10 (by decide) (fun hb_4 => ?_) (fun hb_4 => ?_)
      · skip
        exact em_vret hx hb hr hlocks hP hD hK hS (tp1, mo_1, ev1, ss1, so1, lk1, rs1, pt1, ot1, spn1, one1, two1, bss1, wts1, snd1, nbr1, lts1, mrk1, wlk1) [0, 1, 2, 3, 4, 5, 6, 7, 8, 9, 10, 11] (by decide) rfl ⟨rfl, ⟨hsnd1, hmrk1, (show ∃ G' : Nat → Prop, MI df G' trm one1 two1 spn1 tp1 lk1 rs1 pt1 ∧ ev1 ≤ 40 ∧ me bss1 wts1 ev1 tp1 0 ∧ ot1 ≤ ot + 12 ∧ (ss1 = ss + 1 ∨ (ss1 = ss ∧ ¬ so1 = 0)) from (by obtain ⟨G1, q1, q2, q3, q4⟩ := hsta; exact ⟨G1, q1, q2, q3, by rcases q4 with q | q; omega; omega, Or.inl (by rcases q4 with q | q; exact absurd q.1 hb_4; exact q.1)⟩))⟩⟩ d_MO_step_131
      · skip
        have hse : ss1 = ss := hb_4
        refine lv_aload_n hx hb d_MO_step_13 rfl (lv_at hl 0 rfl) ?_
        refine va_get (D := D) (ci := 8) (v := .int so1) (C := rn_MO) (T := fl_MO) (N := 55) hx hb hG in_MO hown hK hP 0 rfl rfl 42 (by decide) (hG _ k_1233) (fun _ h9 => h9) rfl d_MO_step_14 ?_
        refine lv_if_ne (tgt := 131) hx hb d_MO_step_17 (by decide) (fun hb_5 => ?_) (fun hb_5 => ?_)
        · skip
          exact em_vret hx hb hr hlocks hP hD hK hS (tp1, mo_1, ev1, ss1, so1, lk1, rs1, pt1, ot1, spn1, one1, two1, bss1, wts1, snd1, nbr1, lts1, mrk1, wlk1) [0, 1, 2, 3, 4, 5, 6, 7, 8, 9, 10, 11] (by decide) rfl ⟨rfl, ⟨hsnd1, hmrk1, (show ∃ G' : Nat → Prop, MI df G' trm one1 two1 spn1 tp1 lk1 rs1 pt1 ∧ ev1 ≤ 40 ∧ me bss1 wts1 ev1 tp1 0 ∧ ot1 ≤ ot + 12 ∧ (ss1 = ss + 1 ∨ (ss1 = ss ∧ ¬ so1 = 0)) from (by obtain ⟨G1, q1, q2, q3, q4⟩ := hsta; exact ⟨G1, q1, q2, q3, by rcases q4 with q | q; omega; omega, Or.inr ⟨hse, hb_5⟩⟩))⟩⟩ d_MO_step_131
        · skip
          have hz0 := hmz hse hb_5
          obtain ⟨G1, hM1, hv1, hm1, hq1⟩ := hsta
          have hoe : ot1 = ot := by rcases hq1 with q | q; exact q.2; exact absurd (q.1.symm.trans hse) (ss_ne _)
          have htp1 := hM1.2.2.2.1
          refine lv_aload_n hx hb d_MO_step_20 rfl (lv_at hl 0 rfl) ?_
          refine va_get (D := D) (ci := 8) (v := .long lk1) (C := rn_MO) (T := fl_MO) (N := 55) hx hb hG in_MO hown hK hP 0 rfl rfl 47 (by decide) (hG _ k_1238) (fun _ h9 => h9) rfl d_MO_step_21 ?_
          refine W.callR (W.runS (As := [.long lk1]) (rest := []) ⟨hx, hb, hml, hown, hG⟩ (mo_kindOf l D cI cL cZ cC lk1 ) (cwS 1 hG (gd_S k_1519 k_1520 k_116 k_1521) rfl rfl rfl (by decide +kernel) ⟨Nat.le_of_ble_eq_true rfl, Nat.le_of_ble_eq_true rfl⟩) (wq_S hP hK [] rfl) rfl rfl hl.1 rfl (lv_room (Nat.le_of_ble_eq_true rfl)) d_MO_step_24 ⟨Nat.le_of_ble_eq_true rfl, Nat.le_of_ble_eq_true rfl⟩) ?_
          refine W.eq (g2 := F0 m 27 ls [.int (wkind lk1)]) rfl ?_
          refine lv_iconst (v := 3) hx hb d_MO_step_27 (by decide) ?_
          refine lv_icmp_eq (tgt := 38) hx hb d_MO_step_28 (by decide) (fun hb_6 => ?_) (fun hb_6 => ?_)
          · skip
            obtain ⟨cc, hgc, ecc⟩ := okh_3 hM1.2.1 hb_6
            have hcc := hM1.1.1 cc hgc
            refine lv_aload_n hx hb d_MO_step_38 rfl (lv_at hl 0 rfl) ?_
            refine va_get (D := D) (ci := 8) (v := .int (nI tp1)) (C := rn_MO) (T := fl_MO) (N := 55) hx hb hG in_MO hown hK hP 0 rfl rfl 38 (by decide) (hG _ k_1229) (fun _ h9 => h9) rfl d_MO_step_39 ?_
            refine lv_sipush (v := 150) hx hb d_MO_step_42 (by decide) ?_
            refine lv_icmp_ne (tgt := 56) hx hb d_MO_step_45 (by decide) (fun hb_7 => ?_) (fun hb_7 => ?_)
            · skip
              have hn_8 : ¬ tp1 = 150 := fun h => hb_7 ((nI_eq (a := tp1) (b := 150) (by omega) (by omega)).mpr h)
              refine lv_aload_n hx hb d_MO_step_56 rfl (lv_at hl 0 rfl) ?_
              refine va_get (D := D) (ci := 8) (v := .ref (f 24)) (C := rn_MO) (T := fl_MO) (N := 55) hx hb hG in_MO hown hK hP 0 rfl rfl 37 (by decide) (hG _ k_1228) (fun _ h9 => h9) rfl d_MO_step_57 ?_
              refine lv_aload_n hx hb d_MO_step_60 rfl (lv_at hl 0 rfl) ?_
              refine va_get (D := D) (ci := 8) (v := .int (nI tp1)) (C := rn_MO) (T := fl_MO) (N := 55) hx hb hG in_MO hown hK hP 0 rfl rfl 38 (by decide) (hG _ k_1229) (fun _ h9 => h9) rfl d_MO_step_61 ?_
              refine lv_aload_n hx hb d_MO_step_64 rfl (lv_at hl 0 rfl) ?_
              refine va_get (D := D) (ci := 8) (v := .long lk1) (C := rn_MO) (T := fl_MO) (N := 55) hx hb hG in_MO hown hK hP 0 rfl rfl 47 (by decide) (hG _ k_1238) (fun _ h9 => h9) rfl d_MO_step_65 ?_
              refine W.callR (W.runS (As := [.long lk1]) (rest := [.int (nI tp1), .ref (f 24)]) ⟨hx, hb, hml, hown, hG⟩ (mo_valueOf l D cI cL cZ cC lk1 ) (cwS 1 hG (gd_S k_1522 k_1523 k_116 k_1524) rfl rfl rfl (by decide +kernel) ⟨Nat.le_of_ble_eq_true rfl, Nat.le_of_ble_eq_true rfl⟩) (wq_S hP hK [] rfl) rfl rfl hl.1 rfl (lv_room (Nat.le_of_ble_eq_true rfl)) d_MO_step_68 ⟨Nat.le_of_ble_eq_true rfl, Nat.le_of_ble_eq_true rfl⟩) ?_
              refine W.eq (g2 := F0 m 71 ls [.int lk1.toInt32, .int (nI tp1), .ref (f 24)]) rfl ?_
              refine W.eq (g2 := F0 m 71 ls [.int (nI cc), .int (nI tp1), .ref (f 24)]) (by rw [ecc]) ?_
              refine va_iast hx hb hK hP hD hS 1 0 rfl rfl (vp_in_nI (n := tp1) (N := 150) (by omega) (by omega)) d_MO_step_71 (fun H locs hP hD hS => ?_)
              have hP : va_P D classes [(h0, .inr (8, mS f tn rm ln lx at_ bd fs dp on os bn df th tp1 mo_1 ev1 ss1 so1 lk1 rs1 pt1 ot1 cl)), ((f 24), .inl (cI, 150, .inl (upd spn1 (nI tp1).toNatClampNeg (nI cc)))), ((f 20), .inl (cL, 400, .inr (.inl one1))), ((f 21), .inl (cL, 400, .inr (.inl two1))), ((f 25), .inl (cI, 41, .inl bss1)), ((f 26), .inl (cI, 41, .inl wts1)), ((f 27), .inl (cZ, 41, .inl snd1)), ((f 28), .inl (cI, 41, .inl nbr1)), ((f 29), .inl (cI, 200, .inl lts1)), ((f 22), .inl (cZ, 400, .inl mrk1)), ((f 23), .inl (cI, 810, .inl wlk1)), ((f 18), .inl (cL, 9, .inr (.inl trm)))] H := hP
              have hD : va_D A [(h0, .inr (8, mS f tn rm ln lx at_ bd fs dp on os bn df th tp1 mo_1 ev1 ss1 so1 lk1 rs1 pt1 ot1 cl)), ((f 24), .inl (cI, 150, .inl (upd spn1 (nI tp1).toNatClampNeg (nI cc)))), ((f 20), .inl (cL, 400, .inr (.inl one1))), ((f 21), .inl (cL, 400, .inr (.inl two1))), ((f 25), .inl (cI, 41, .inl bss1)), ((f 26), .inl (cI, 41, .inl wts1)), ((f 27), .inl (cZ, 41, .inl snd1)), ((f 28), .inl (cI, 41, .inl nbr1)), ((f 29), .inl (cI, 200, .inl lts1)), ((f 22), .inl (cZ, 400, .inl mrk1)), ((f 23), .inl (cI, 810, .inl wlk1)), ((f 18), .inl (cL, 9, .inr (.inl trm)))] := hD
              obtain ⟨g_9, eg_9⟩ : ∃ z, z = upd spn1 tp1 (nI cc) := ⟨_, rfl⟩
              rw [nI_clamp (n := tp1) (by omega), ← eg_9] at hP hD
              refine lv_aload_n hx hb d_MO_step_72 rfl (lv_at hl 0 rfl) ?_
              refine lv_dup hx hb d_MO_step_73 rfl ?_
              refine va_get (D := D) (ci := 8) (v := .int (nI tp1)) (C := rn_MO) (T := fl_MO) (N := 55) hx hb hG in_MO hown hK hP 0 rfl rfl 38 (by decide) (hG _ k_1229) (fun _ h9 => h9) rfl d_MO_step_74 ?_
              refine lv_iconst (v := 1) hx hb d_MO_step_77 (by decide) ?_
              refine lw_iadd (a := tp1) (b := 1) hx hb d_MO_step_78 ?_
              refine va_put (D := D) (ci := 8) (v := .int (nI (tp1 + 1))) (ty := .int) (C := rn_MO) (T := fl_MO) (N := 55) hx hb hG in_MO tt_MO tk_MO nn_MO hown hK hP hD hS 0 rfl rfl 38 (by decide) (hG _ k_1229) (fun _ h9 => h9) rfl (by decide +kernel) rfl rfl (Nat.le_of_ble_eq_true rfl) d_MO_step_79 (fun H locs hP hD hS => ?_)
              have hP : va_P D classes [(h0, .inr (8, mS f tn rm ln lx at_ bd fs dp on os bn df th (tp1 + 1) mo_1 ev1 ss1 so1 lk1 rs1 pt1 ot1 cl)), ((f 24), .inl (cI, 150, .inl g_9)), ((f 20), .inl (cL, 400, .inr (.inl one1))), ((f 21), .inl (cL, 400, .inr (.inl two1))), ((f 25), .inl (cI, 41, .inl bss1)), ((f 26), .inl (cI, 41, .inl wts1)), ((f 27), .inl (cZ, 41, .inl snd1)), ((f 28), .inl (cI, 41, .inl nbr1)), ((f 29), .inl (cI, 200, .inl lts1)), ((f 22), .inl (cZ, 400, .inl mrk1)), ((f 23), .inl (cI, 810, .inl wlk1)), ((f 18), .inl (cL, 9, .inr (.inl trm)))] H := hP
              have hD : va_D A [(h0, .inr (8, mS f tn rm ln lx at_ bd fs dp on os bn df th (tp1 + 1) mo_1 ev1 ss1 so1 lk1 rs1 pt1 ot1 cl)), ((f 24), .inl (cI, 150, .inl g_9)), ((f 20), .inl (cL, 400, .inr (.inl one1))), ((f 21), .inl (cL, 400, .inr (.inl two1))), ((f 25), .inl (cI, 41, .inl bss1)), ((f 26), .inl (cI, 41, .inl wts1)), ((f 27), .inl (cZ, 41, .inl snd1)), ((f 28), .inl (cI, 41, .inl nbr1)), ((f 29), .inl (cI, 200, .inl lts1)), ((f 22), .inl (cZ, 400, .inl mrk1)), ((f 23), .inl (cI, 810, .inl wlk1)), ((f 18), .inl (cL, 9, .inr (.inl trm)))] := hD
              refine lv_aload_n hx hb d_MO_step_82 rfl (lv_at hl 0 rfl) ?_
              refine lv_aload_n hx hb d_MO_step_83 rfl (lv_at hl 0 rfl) ?_
              refine va_get (D := D) (ci := 8) (v := .int (nI (tp1 + 1))) (C := rn_MO) (T := fl_MO) (N := 55) hx hb hG in_MO hown hK hP 0 rfl rfl 38 (by decide) (hG _ k_1229) (fun _ h9 => h9) rfl d_MO_step_84 ?_
              refine lv_aload_n hx hb d_MO_step_87 rfl (lv_at hl 0 rfl) ?_
              refine va_get (D := D) (ci := 8) (v := .int mo_1) (C := rn_MO) (T := fl_MO) (N := 55) hx hb hG in_MO hown hK hP 0 rfl rfl 39 (by decide) (hG _ k_1230) (fun _ h9 => h9) rfl d_MO_step_88 ?_
              refine lv_icmp_le (tgt := 101) hx hb d_MO_step_91 (by decide) (fun hb_10 => ?_) (fun hb_10 => ?_)
              · skip
                refine lv_aload_n hx hb d_MO_step_101 rfl (lv_at hl 0 rfl) ?_
                refine va_get (D := D) (ci := 8) (v := .int mo_1) (C := rn_MO) (T := fl_MO) (N := 55) hx hb hG in_MO hown hK hP 0 rfl rfl 39 (by decide) (hG _ k_1230) (fun _ h9 => h9) rfl d_MO_step_102 ?_
                refine va_put (D := D) (ci := 8) (v := .int mo_1) (ty := .int) (C := rn_MO) (T := fl_MO) (N := 55) hx hb hG in_MO tt_MO tk_MO nn_MO hown hK hP hD hS 0 rfl rfl 39 (by decide) (hG _ k_1230) (fun _ h9 => h9) rfl (by decide +kernel) rfl rfl (Nat.le_of_ble_eq_true rfl) d_MO_step_105 (fun H locs hP hD hS => ?_)
                have hP : va_P D classes [(h0, .inr (8, mS f tn rm ln lx at_ bd fs dp on os bn df th (tp1 + 1) mo_1 ev1 ss1 so1 lk1 rs1 pt1 ot1 cl)), ((f 24), .inl (cI, 150, .inl g_9)), ((f 20), .inl (cL, 400, .inr (.inl one1))), ((f 21), .inl (cL, 400, .inr (.inl two1))), ((f 25), .inl (cI, 41, .inl bss1)), ((f 26), .inl (cI, 41, .inl wts1)), ((f 27), .inl (cZ, 41, .inl snd1)), ((f 28), .inl (cI, 41, .inl nbr1)), ((f 29), .inl (cI, 200, .inl lts1)), ((f 22), .inl (cZ, 400, .inl mrk1)), ((f 23), .inl (cI, 810, .inl wlk1)), ((f 18), .inl (cL, 9, .inr (.inl trm)))] H := hP
                have hD : va_D A [(h0, .inr (8, mS f tn rm ln lx at_ bd fs dp on os bn df th (tp1 + 1) mo_1 ev1 ss1 so1 lk1 rs1 pt1 ot1 cl)), ((f 24), .inl (cI, 150, .inl g_9)), ((f 20), .inl (cL, 400, .inr (.inl one1))), ((f 21), .inl (cL, 400, .inr (.inl two1))), ((f 25), .inl (cI, 41, .inl bss1)), ((f 26), .inl (cI, 41, .inl wts1)), ((f 27), .inl (cZ, 41, .inl snd1)), ((f 28), .inl (cI, 41, .inl nbr1)), ((f 29), .inl (cI, 200, .inl lts1)), ((f 22), .inl (cZ, 400, .inl mrk1)), ((f 23), .inl (cI, 810, .inl wlk1)), ((f 18), .inl (cL, 9, .inr (.inl trm)))] := hD
                refine lv_aload_n hx hb d_MO_step_108 rfl (lv_at hl 0 rfl) ?_
                refine lv_aload_n hx hb d_MO_step_109 rfl (lv_at hl 0 rfl) ?_
                refine va_get (D := D) (ci := 8) (v := .ref (f 20)) (C := rn_MO) (T := fl_MO) (N := 55) hx hb hG in_MO hown hK hP 0 rfl rfl 33 (by decide) (hG _ k_1224) (fun _ h9 => h9) rfl d_MO_step_110 ?_
                refine lv_aload_n hx hb d_MO_step_113 rfl (lv_at hl 0 rfl) ?_
                refine va_get (D := D) (ci := 8) (v := .ref (f 24)) (C := rn_MO) (T := fl_MO) (N := 55) hx hb hG in_MO hown hK hP 0 rfl rfl 37 (by decide) (hG _ k_1228) (fun _ h9 => h9) rfl d_MO_step_114 ?_
                refine lv_aload_n hx hb d_MO_step_117 rfl (lv_at hl 0 rfl) ?_
                refine va_get (D := D) (ci := 8) (v := .int (nI (tp1 + 1))) (C := rn_MO) (T := fl_MO) (N := 55) hx hb hG in_MO hown hK hP 0 rfl rfl 38 (by decide) (hG _ k_1229) (fun _ h9 => h9) rfl d_MO_step_118 ?_
                refine lv_iconst (v := 1) hx hb d_MO_step_121 (by decide) ?_
                refine lw_isub (a := tp1 + 1) (b := 1) hx hb d_MO_step_122 (by omega) ?_
                refine va_iald hx hb hK hP 1 0 rfl rfl (vp_in_nI (n := (tp1 + 1) - 1) (N := 150) (by omega) (by omega)) d_MO_step_123 ?_
                refine W.eq (g2 := F0 m 124 ls [.int (nI cc), .ref (f 20), .ref h0]) (by rw [nI_clamp (n := (tp1 + 1) - 1) (by omega)]; rw [show g_9 (tp1 + 1 - 1) = nI cc by rw [eg_9]; exact upd_at (by omega)]) ?_
                refine va_lald hx hb hK hP 2 1 rfl rfl (vp_in_nI (n := cc) (N := 400) (by omega) (by omega)) d_MO_step_124 ?_
                refine W.eq (g2 := F0 m 125 ls [.long (one1 cc), .ref h0]) (by rw [nI_clamp (n := cc) (by omega)]) ?_
                refine va_put (D := D) (ci := 8) (v := .long (one1 cc)) (ty := .long) (C := rn_MO) (T := fl_MO) (N := 55) hx hb hG in_MO tt_MO tk_MO nn_MO hown hK hP hD hS 0 rfl rfl 47 (by decide) (hG _ k_1238) (fun _ h9 => h9) rfl (by decide +kernel) rfl rfl (Nat.le_of_ble_eq_true rfl) d_MO_step_125 (fun H locs hP hD hS => ?_)
                have hP : va_P D classes [(h0, .inr (8, mS f tn rm ln lx at_ bd fs dp on os bn df th (tp1 + 1) mo_1 ev1 ss1 so1 (one1 cc) rs1 pt1 ot1 cl)), ((f 24), .inl (cI, 150, .inl g_9)), ((f 20), .inl (cL, 400, .inr (.inl one1))), ((f 21), .inl (cL, 400, .inr (.inl two1))), ((f 25), .inl (cI, 41, .inl bss1)), ((f 26), .inl (cI, 41, .inl wts1)), ((f 27), .inl (cZ, 41, .inl snd1)), ((f 28), .inl (cI, 41, .inl nbr1)), ((f 29), .inl (cI, 200, .inl lts1)), ((f 22), .inl (cZ, 400, .inl mrk1)), ((f 23), .inl (cI, 810, .inl wlk1)), ((f 18), .inl (cL, 9, .inr (.inl trm)))] H := hP
                have hD : va_D A [(h0, .inr (8, mS f tn rm ln lx at_ bd fs dp on os bn df th (tp1 + 1) mo_1 ev1 ss1 so1 (one1 cc) rs1 pt1 ot1 cl)), ((f 24), .inl (cI, 150, .inl g_9)), ((f 20), .inl (cL, 400, .inr (.inl one1))), ((f 21), .inl (cL, 400, .inr (.inl two1))), ((f 25), .inl (cI, 41, .inl bss1)), ((f 26), .inl (cI, 41, .inl wts1)), ((f 27), .inl (cZ, 41, .inl snd1)), ((f 28), .inl (cI, 41, .inl nbr1)), ((f 29), .inl (cI, 200, .inl lts1)), ((f 22), .inl (cZ, 400, .inl mrk1)), ((f 23), .inl (cI, 810, .inl wlk1)), ((f 18), .inl (cL, 9, .inr (.inl trm)))] := hD
                refine lv_goto (tgt := 5) hx hb d_MO_step_128 (by decide) ?_
                have hl := lv_sub (l' := [(0, .ref h0), (1, .int ss)]) hl [0, 1] rfl
                exact ih_3 (mz - 1) (tp1 + 1) mo_1 ev1 ss1 so1 (one1 cc) rs1 pt1 ot1 g_9 one1 two1 bss1 wts1 snd1 nbr1 lts1 mrk1 wlk1 _ _ _ (by omega) (fun _ _ => by have h0 := hz0; unfold ms at h0 ⊢; omega) ⟨G1, (by rw [eg_9]; exact hM1.left hgc (by omega)), hv1, hm1.mono (by omega), hq1⟩ hsnd1 hmrk1 hl hP hD hS
              · skip
                refine lv_aload_n hx hb d_MO_step_94 rfl (lv_at hl 0 rfl) ?_
                refine va_get (D := D) (ci := 8) (v := .int (nI (tp1 + 1))) (C := rn_MO) (T := fl_MO) (N := 55) hx hb hG in_MO hown hK hP 0 rfl rfl 38 (by decide) (hG _ k_1229) (fun _ h9 => h9) rfl d_MO_step_95 ?_
                refine lv_goto (tgt := 105) hx hb d_MO_step_98 (by decide) ?_
                refine va_put (D := D) (ci := 8) (v := .int (nI (tp1 + 1))) (ty := .int) (C := rn_MO) (T := fl_MO) (N := 55) hx hb hG in_MO tt_MO tk_MO nn_MO hown hK hP hD hS 0 rfl rfl 39 (by decide) (hG _ k_1230) (fun _ h9 => h9) rfl (by decide +kernel) rfl rfl (Nat.le_of_ble_eq_true rfl) d_MO_step_105 (fun H locs hP hD hS => ?_)
                have hP : va_P D classes [(h0, .inr (8, mS f tn rm ln lx at_ bd fs dp on os bn df th (tp1 + 1) (nI (tp1 + 1)) ev1 ss1 so1 lk1 rs1 pt1 ot1 cl)), ((f 24), .inl (cI, 150, .inl g_9)), ((f 20), .inl (cL, 400, .inr (.inl one1))), ((f 21), .inl (cL, 400, .inr (.inl two1))), ((f 25), .inl (cI, 41, .inl bss1)), ((f 26), .inl (cI, 41, .inl wts1)), ((f 27), .inl (cZ, 41, .inl snd1)), ((f 28), .inl (cI, 41, .inl nbr1)), ((f 29), .inl (cI, 200, .inl lts1)), ((f 22), .inl (cZ, 400, .inl mrk1)), ((f 23), .inl (cI, 810, .inl wlk1)), ((f 18), .inl (cL, 9, .inr (.inl trm)))] H := hP
                have hD : va_D A [(h0, .inr (8, mS f tn rm ln lx at_ bd fs dp on os bn df th (tp1 + 1) (nI (tp1 + 1)) ev1 ss1 so1 lk1 rs1 pt1 ot1 cl)), ((f 24), .inl (cI, 150, .inl g_9)), ((f 20), .inl (cL, 400, .inr (.inl one1))), ((f 21), .inl (cL, 400, .inr (.inl two1))), ((f 25), .inl (cI, 41, .inl bss1)), ((f 26), .inl (cI, 41, .inl wts1)), ((f 27), .inl (cZ, 41, .inl snd1)), ((f 28), .inl (cI, 41, .inl nbr1)), ((f 29), .inl (cI, 200, .inl lts1)), ((f 22), .inl (cZ, 400, .inl mrk1)), ((f 23), .inl (cI, 810, .inl wlk1)), ((f 18), .inl (cL, 9, .inr (.inl trm)))] := hD
                refine lv_aload_n hx hb d_MO_step_108 rfl (lv_at hl 0 rfl) ?_
                refine lv_aload_n hx hb d_MO_step_109 rfl (lv_at hl 0 rfl) ?_
                refine va_get (D := D) (ci := 8) (v := .ref (f 20)) (C := rn_MO) (T := fl_MO) (N := 55) hx hb hG in_MO hown hK hP 0 rfl rfl 33 (by decide) (hG _ k_1224) (fun _ h9 => h9) rfl d_MO_step_110 ?_
                refine lv_aload_n hx hb d_MO_step_113 rfl (lv_at hl 0 rfl) ?_
                refine va_get (D := D) (ci := 8) (v := .ref (f 24)) (C := rn_MO) (T := fl_MO) (N := 55) hx hb hG in_MO hown hK hP 0 rfl rfl 37 (by decide) (hG _ k_1228) (fun _ h9 => h9) rfl d_MO_step_114 ?_
                refine lv_aload_n hx hb d_MO_step_117 rfl (lv_at hl 0 rfl) ?_
                refine va_get (D := D) (ci := 8) (v := .int (nI (tp1 + 1))) (C := rn_MO) (T := fl_MO) (N := 55) hx hb hG in_MO hown hK hP 0 rfl rfl 38 (by decide) (hG _ k_1229) (fun _ h9 => h9) rfl d_MO_step_118 ?_
                refine lv_iconst (v := 1) hx hb d_MO_step_121 (by decide) ?_
                refine lw_isub (a := tp1 + 1) (b := 1) hx hb d_MO_step_122 (by omega) ?_
                refine va_iald hx hb hK hP 1 0 rfl rfl (vp_in_nI (n := (tp1 + 1) - 1) (N := 150) (by omega) (by omega)) d_MO_step_123 ?_
                refine W.eq (g2 := F0 m 124 ls [.int (nI cc), .ref (f 20), .ref h0]) (by rw [nI_clamp (n := (tp1 + 1) - 1) (by omega)]; rw [show g_9 (tp1 + 1 - 1) = nI cc by rw [eg_9]; exact upd_at (by omega)]) ?_
                refine va_lald hx hb hK hP 2 1 rfl rfl (vp_in_nI (n := cc) (N := 400) (by omega) (by omega)) d_MO_step_124 ?_
                refine W.eq (g2 := F0 m 125 ls [.long (one1 cc), .ref h0]) (by rw [nI_clamp (n := cc) (by omega)]) ?_
                refine va_put (D := D) (ci := 8) (v := .long (one1 cc)) (ty := .long) (C := rn_MO) (T := fl_MO) (N := 55) hx hb hG in_MO tt_MO tk_MO nn_MO hown hK hP hD hS 0 rfl rfl 47 (by decide) (hG _ k_1238) (fun _ h9 => h9) rfl (by decide +kernel) rfl rfl (Nat.le_of_ble_eq_true rfl) d_MO_step_125 (fun H locs hP hD hS => ?_)
                have hP : va_P D classes [(h0, .inr (8, mS f tn rm ln lx at_ bd fs dp on os bn df th (tp1 + 1) (nI (tp1 + 1)) ev1 ss1 so1 (one1 cc) rs1 pt1 ot1 cl)), ((f 24), .inl (cI, 150, .inl g_9)), ((f 20), .inl (cL, 400, .inr (.inl one1))), ((f 21), .inl (cL, 400, .inr (.inl two1))), ((f 25), .inl (cI, 41, .inl bss1)), ((f 26), .inl (cI, 41, .inl wts1)), ((f 27), .inl (cZ, 41, .inl snd1)), ((f 28), .inl (cI, 41, .inl nbr1)), ((f 29), .inl (cI, 200, .inl lts1)), ((f 22), .inl (cZ, 400, .inl mrk1)), ((f 23), .inl (cI, 810, .inl wlk1)), ((f 18), .inl (cL, 9, .inr (.inl trm)))] H := hP
                have hD : va_D A [(h0, .inr (8, mS f tn rm ln lx at_ bd fs dp on os bn df th (tp1 + 1) (nI (tp1 + 1)) ev1 ss1 so1 (one1 cc) rs1 pt1 ot1 cl)), ((f 24), .inl (cI, 150, .inl g_9)), ((f 20), .inl (cL, 400, .inr (.inl one1))), ((f 21), .inl (cL, 400, .inr (.inl two1))), ((f 25), .inl (cI, 41, .inl bss1)), ((f 26), .inl (cI, 41, .inl wts1)), ((f 27), .inl (cZ, 41, .inl snd1)), ((f 28), .inl (cI, 41, .inl nbr1)), ((f 29), .inl (cI, 200, .inl lts1)), ((f 22), .inl (cZ, 400, .inl mrk1)), ((f 23), .inl (cI, 810, .inl wlk1)), ((f 18), .inl (cL, 9, .inr (.inl trm)))] := hD
                refine lv_goto (tgt := 5) hx hb d_MO_step_128 (by decide) ?_
                have hl := lv_sub (l' := [(0, .ref h0), (1, .int ss)]) hl [0, 1] rfl
                exact ih_3 (mz - 1) (tp1 + 1) (nI (tp1 + 1)) ev1 ss1 so1 (one1 cc) rs1 pt1 ot1 g_9 one1 two1 bss1 wts1 snd1 nbr1 lts1 mrk1 wlk1 _ _ _ (by omega) (fun _ _ => by have h0 := hz0; unfold ms at h0 ⊢; omega) ⟨G1, (by rw [eg_9]; exact hM1.left hgc (by omega)), hv1, hm1.mono (by omega), hq1⟩ hsnd1 hmrk1 hl hP hD hS
            · skip
              have hn_11 : tp1 = 150 := (nI_eq (a := tp1) (b := 150) (by omega) (by omega)).mp hb_7
              refine lv_aload_n hx hb d_MO_step_48 rfl (lv_at hl 0 rfl) ?_
              refine lv_iconst (v := 4) hx hb d_MO_step_49 (by decide) ?_
              refine va_put (D := D) (ci := 8) (v := .int 4) (ty := .int) (C := rn_MO) (T := fl_MO) (N := 55) hx hb hG in_MO tt_MO tk_MO nn_MO hown hK hP hD hS 0 rfl rfl 42 (by decide) (hG _ k_1233) (fun _ h9 => h9) rfl (by decide +kernel) rfl rfl (Nat.le_of_ble_eq_true rfl) d_MO_step_50 (fun H locs hP hD hS => ?_)
              have hP : va_P D classes [(h0, .inr (8, mS f tn rm ln lx at_ bd fs dp on os bn df th tp1 mo_1 ev1 ss1 4 lk1 rs1 pt1 ot1 cl)), ((f 24), .inl (cI, 150, .inl spn1)), ((f 20), .inl (cL, 400, .inr (.inl one1))), ((f 21), .inl (cL, 400, .inr (.inl two1))), ((f 25), .inl (cI, 41, .inl bss1)), ((f 26), .inl (cI, 41, .inl wts1)), ((f 27), .inl (cZ, 41, .inl snd1)), ((f 28), .inl (cI, 41, .inl nbr1)), ((f 29), .inl (cI, 200, .inl lts1)), ((f 22), .inl (cZ, 400, .inl mrk1)), ((f 23), .inl (cI, 810, .inl wlk1)), ((f 18), .inl (cL, 9, .inr (.inl trm)))] H := hP
              have hD : va_D A [(h0, .inr (8, mS f tn rm ln lx at_ bd fs dp on os bn df th tp1 mo_1 ev1 ss1 4 lk1 rs1 pt1 ot1 cl)), ((f 24), .inl (cI, 150, .inl spn1)), ((f 20), .inl (cL, 400, .inr (.inl one1))), ((f 21), .inl (cL, 400, .inr (.inl two1))), ((f 25), .inl (cI, 41, .inl bss1)), ((f 26), .inl (cI, 41, .inl wts1)), ((f 27), .inl (cZ, 41, .inl snd1)), ((f 28), .inl (cI, 41, .inl nbr1)), ((f 29), .inl (cI, 200, .inl lts1)), ((f 22), .inl (cZ, 400, .inl mrk1)), ((f 23), .inl (cI, 810, .inl wlk1)), ((f 18), .inl (cL, 9, .inr (.inl trm)))] := hD
              refine lv_goto (tgt := 5) hx hb d_MO_step_53 (by decide) ?_
              have hl := lv_sub (l' := [(0, .ref h0), (1, .int ss)]) hl [0, 1] rfl
              exact ih_3 (mz - 1) tp1 mo_1 ev1 ss1 4 lk1 rs1 pt1 ot1 spn1 one1 two1 bss1 wts1 snd1 nbr1 lts1 mrk1 wlk1 _ _ _ (by omega) (fun _ w2 => absurd w2 (by decide)) ⟨G1, hM1, hv1, hm1, hq1⟩ hsnd1 hmrk1 hl hP hD hS
          · skip
            refine lv_aload_n hx hb d_MO_step_31 rfl (lv_at hl 0 rfl) ?_
            refine em_call (wr := []) (em_runV (As := []) (rest := []) ⟨hx, hb, hml, hown, hG⟩ (mo_act l D cI cL cZ cC f h0 tn rm ln lx at_ bd fs dp on os bn df th tp1 mo_1 ev1 ss1 so1 lk1 rs1 pt1 ot1 cl one1 two1 bss1 wts1 snd1 nbr1 lts1 mrk1 wlk1 spn1 trm G1 _ hsnd1 hmrk1 hM1 hrm hv1 hm1 (by omega) hb_6 hnt) (cwV 0 hG (gd_V k_1569 k_1571 k_89 k_116 k_1572) rfl rfl rfl (by decide +kernel) ⟨Nat.le_of_ble_eq_true rfl, Nat.le_of_ble_eq_true rfl⟩) (tw_V (q0 := 0) hP hD hK hE hst hS rfl rfl [0, 2, 3, 4, 5, 6, 7, 8, 9, 10, 1, 11] rfl (by decide)) rfl rfl hl.1 rfl (lv_room (Nat.le_of_ble_eq_true rfl)) d_MO_step_32 ⟨Nat.le_of_ble_eq_true rfl, Nat.le_of_ble_eq_true rfl⟩) hP hD hS hA [0, 2, 3, 4, 5, 6, 7, 8, 9, 10, 1, 11] [] rfl rfl (by decide) (by decide) (fun v u H locs hok hP hD hS => ?_) (fun x C u H locs hbad hxx hP hD hS => ?_)
            · skip
              obtain ⟨ev_12, tp_13, lk_14, ss_15, so_16, rs_17, pt_18, ot_19, one_20, two_21, bss_22, wts_23, snd_24, nbr_25, lts_26, mrk_27, wlk_28⟩ := u
              obtain ⟨rfl, hp_30⟩ := hok
              obtain ⟨hsnd_31, hmrk_32, hAc_33⟩ : (bln snd_24) ∧ (bln mrk_27) ∧ (∃ G' : Nat → Prop, MI df G' trm one_20 two_21 spn1 tp_13 lk_14 rs_17 pt_18 ∧ ev_12 ≤ 40 ∧ me bss_22 wts_23 ev_12 tp_13 0 ∧ ot_19 ≤ ot1 + 12 ∧ (ss_15 = ss1 + 1 ∨ (ss_15 = ss1 ∧ ¬ so_16 = 0 ∧ ot_19 = ot1) ∨ (ss_15 = ss1 ∧ so_16 = so1 ∧ ot_19 = ot1 ∧ ms pt_18 ev_12 snd_24 tp_13 < ms pt1 ev1 snd1 tp1))) := hp_30
              have hP : va_P D classes [(h0, .inr (8, mS f tn rm ln lx at_ bd fs dp on os bn df th tp_13 mo_1 ev_12 ss_15 so_16 lk_14 rs_17 pt_18 ot_19 cl)), ((f 20), .inl (cL, 400, .inr (.inl one_20))), ((f 21), .inl (cL, 400, .inr (.inl two_21))), ((f 25), .inl (cI, 41, .inl bss_22)), ((f 26), .inl (cI, 41, .inl wts_23)), ((f 27), .inl (cZ, 41, .inl snd_24)), ((f 28), .inl (cI, 41, .inl nbr_25)), ((f 29), .inl (cI, 200, .inl lts_26)), ((f 22), .inl (cZ, 400, .inl mrk_27)), ((f 23), .inl (cI, 810, .inl wlk_28)), ((f 24), .inl (cI, 150, .inl spn1)), ((f 18), .inl (cL, 9, .inr (.inl trm)))] H := hP
              have hD : va_D A [(h0, .inr (8, mS f tn rm ln lx at_ bd fs dp on os bn df th tp_13 mo_1 ev_12 ss_15 so_16 lk_14 rs_17 pt_18 ot_19 cl)), ((f 20), .inl (cL, 400, .inr (.inl one_20))), ((f 21), .inl (cL, 400, .inr (.inl two_21))), ((f 25), .inl (cI, 41, .inl bss_22)), ((f 26), .inl (cI, 41, .inl wts_23)), ((f 27), .inl (cZ, 41, .inl snd_24)), ((f 28), .inl (cI, 41, .inl nbr_25)), ((f 29), .inl (cI, 200, .inl lts_26)), ((f 22), .inl (cZ, 400, .inl mrk_27)), ((f 23), .inl (cI, 810, .inl wlk_28)), ((f 24), .inl (cI, 150, .inl spn1)), ((f 18), .inl (cL, 9, .inr (.inl trm)))] := hD
              refine W.eq (g2 := F0 m 35 ls []) rfl ?_
              refine lv_goto (tgt := 5) hx hb d_MO_step_35 (by decide) ?_
              have hl := lv_sub (l' := [(0, .ref h0), (1, .int ss)]) hl [0, 1] rfl
              have hP : va_P D classes [(h0, .inr (8, mS f tn rm ln lx at_ bd fs dp on os bn df th tp_13 mo_1 ev_12 ss_15 so_16 lk_14 rs_17 pt_18 ot_19 cl)), ((f 24), .inl (cI, 150, .inl spn1)), ((f 20), .inl (cL, 400, .inr (.inl one_20))), ((f 21), .inl (cL, 400, .inr (.inl two_21))), ((f 25), .inl (cI, 41, .inl bss_22)), ((f 26), .inl (cI, 41, .inl wts_23)), ((f 27), .inl (cZ, 41, .inl snd_24)), ((f 28), .inl (cI, 41, .inl nbr_25)), ((f 29), .inl (cI, 200, .inl lts_26)), ((f 22), .inl (cZ, 400, .inl mrk_27)), ((f 23), .inl (cI, 810, .inl wlk_28)), ((f 18), .inl (cL, 9, .inr (.inl trm)))] _ := hP.sub [0, 10, 1, 2, 3, 4, 5, 6, 7, 8, 9, 11] (wp_fm rfl)
              have hD : va_D A [(h0, .inr (8, mS f tn rm ln lx at_ bd fs dp on os bn df th tp_13 mo_1 ev_12 ss_15 so_16 lk_14 rs_17 pt_18 ot_19 cl)), ((f 24), .inl (cI, 150, .inl spn1)), ((f 20), .inl (cL, 400, .inr (.inl one_20))), ((f 21), .inl (cL, 400, .inr (.inl two_21))), ((f 25), .inl (cI, 41, .inl bss_22)), ((f 26), .inl (cI, 41, .inl wts_23)), ((f 27), .inl (cZ, 41, .inl snd_24)), ((f 28), .inl (cI, 41, .inl nbr_25)), ((f 29), .inl (cI, 200, .inl lts_26)), ((f 22), .inl (cZ, 400, .inl mrk_27)), ((f 23), .inl (cI, 810, .inl wlk_28)), ((f 18), .inl (cL, 9, .inr (.inl trm)))] := hD.sub [0, 10, 1, 2, 3, 4, 5, 6, 7, 8, 9, 11] (by decide) rfl
              exact ih_3 (mz - 1) tp_13 mo_1 ev_12 ss_15 so_16 lk_14 rs_17 pt_18 ot_19 spn1 one_20 two_21 bss_22 wts_23 snd_24 nbr_25 lts_26 mrk_27 wlk_28 _ _ _ (by omega) (fun w1 w2 => by obtain ⟨G2, q1, q2, q3, q4, q5⟩ := hAc_33; rcases q5 with q | ⟨_, q, _⟩ | ⟨_, _, _, q⟩; exact absurd (by rw [← hse] at w1; exact q.symm.trans w1) (ss_ne _); exact absurd w2 q; omega) (by obtain ⟨G2, q1, q2, q3, q4, q5⟩ := hAc_33; exact ⟨G2, q1, q2, q3, by rcases q5 with q | ⟨q, _, q2⟩ | ⟨q, _, q2, _⟩; exact Or.inr ⟨by rw [q, hse], by omega⟩; exact Or.inl ⟨q.trans hse, by omega⟩; exact Or.inl ⟨q.trans hse, by omega⟩⟩) hsnd_31 hmrk_32 hl hP hD hS
            · skip
              exact hbad.elim
  refine lv_aload_n hx hb d_MO_step_0 rfl (lv_at hl 0 rfl) ?_
  refine va_get (D := D) (ci := 8) (v := .int ss) (C := rn_MO) (T := fl_MO) (N := 55) hx hb hG in_MO hown hK hP 0 rfl rfl 41 (by decide) (hG _ k_1232) (fun _ h9 => h9) rfl d_MO_step_1 ?_
  refine lv_istore_n (lv' := [(1, .int ss), (0, .ref h0)]) hx hb d_MO_step_4 rfl hl (Nat.le_of_ble_eq_true rfl) rfl (fun ls hl => ?_)
  have hl := lv_sub (l' := [(0, .ref h0), (1, .int ss)]) hl [1, 0] rfl
  exact loop_2 _ (ms pt ev snd tp + 1) tp mo_ ev ss so lk rs pt ot spn one two bss wts snd nbr lts mrk wlk _ _ _ (Nat.lt_succ_self _) (fun _ _ => Nat.le_refl _) ⟨Gc, hMI, hev, hme, Or.inl ⟨rfl, rfl⟩⟩ hsnd hmrk hl hP hD hS
