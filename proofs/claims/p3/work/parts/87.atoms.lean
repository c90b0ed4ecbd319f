theorem rdy_0 {r : Nat} {v : Int32} (hr : r ≤ 1) (h : v = nI r) (q : v = 0) : r = 0 := by
  rcases (show r = 0 ∨ r = 1 by omega) with e | e
  · exact e
  · subst e; rw [h] at q; exact absurd q (by decide)
theorem rdy_1 {r : Nat} {v : Int32} (hr : r ≤ 1) (h : v = nI r) (q : ¬ v = 0) : r = 1 := by
  rcases (show r = 0 ∨ r = 1 by omega) with e | e
  · subst e; exact absurd h q
  · exact e

set_option maxHeartbeats 8000000 in
set_option maxRecDepth 100000 in
theorem mo_atom (l : Launch) (D : va_G) (cI cL cZ cC : ClassId) (f : Nat → Nat) (h0 : Nat) (tn : Int32) (rm : Nat) (ln : Nat) (lx : Nat) (at_ : Nat) (bd : Int32) (fs : Nat) (dp : Nat) (on : Nat) (os : Nat) (bn : Nat) (df : Nat) (th : Int32) (tp : Nat) (mo_ : Int32) (ev : Nat) (ss : Int32) (so : Int32) (lk : Int64) (rs : Int64) (pt : Int32) (ot : Nat) (cl : Int32) (le : Nat → Int64) (ri : Nat → Int64) (opd : Nat → Int64) (rdy : Nat → Int32) (frh : Nat → Int32) (fr : Nat → Int32) (srt : Nat → Int32) (bas : Nat → Int32) (fst : Nat → Int32) (opr : Nat → Int32) (Bc : Nat → Nat) (le0 : Nat → Int64) (ri0 : Nat → Int64) (Q : Nat → Int64 → Prop) (b0 : Nat) (St : Nat → Tr) (m1 : Nat) (ob : Nat) (r1 : Nat) (T : Tr) (t : Int64) (sz : Nat) (hrdy : bln rdy) (hfrh : bln frh) (hfr : rng 2000 fr) (hRX : RX Bc le0 ri0 Q b0 srt bas fst rdy opr opd le ri fr fs on os bn St (dp - 1) m1 ob r1) (hB : ∀ c, Bc c ≤ 1) (hdp1 : 1 ≤ dp) (hdp2 : dp ≤ 9) (hon : on ≤ 110) (hT : rep le ri t T) (hkT : okT (Q bn) T) (hX : ∀ c, fo fr fs c + ws St 0 on c + (toc T) c ≤ Bc c) (hQ : ∀ (b c : Nat), 2 ≤ c → c ≤ 22 → Q b (wof 2 (nI c))) (hbo : bdo bd) (hnt : l.stackTraces = false) : em_Met l y_MO_atom (wz y_MO_atom b_MO_atom 6 none) ({ frames := 3, cells := 0, slots := 0, locals := 66 }) (va_Pc [.ref h0, .long t] (tw_pre D (tys4 cI cL cZ cC) [(h0, .inr (8, mS f tn rm ln lx at_ bd fs dp on os bn df th tp mo_ ev ss so lk rs pt ot cl)), ((f 3), .inl (cL, 2000, .inr (.inl le))), ((f 4), .inl (cL, 2000, .inr (.inl ri))), ((f 14), .inl (cL, 120, .inr (.inl opd))), ((f 12), .inl (cZ, 9, .inl rdy)), ((f 13), .inl (cZ, 9, .inl frh)), ((f 5), .inl (cI, 2000, .inl fr)), ((f 9), .inl (cI, 9, .inl srt)), ((f 10), .inl (cI, 9, .inl bas)), ((f 11), .inl (cI, 9, .inl fst)), ((f 15), .inl (cI, 120, .inl opr))] sz)) D (tys4 cI cL cZ cC) (va_A [(h0, .inr (8, mS f tn rm ln lx at_ bd fs dp on os bn df th tp mo_ ev ss so lk rs pt ot cl)), ((f 3), .inl (cL, 2000, .inr (.inl le))), ((f 4), .inl (cL, 2000, .inr (.inl ri))), ((f 14), .inl (cL, 120, .inr (.inl opd))), ((f 12), .inl (cZ, 9, .inl rdy)), ((f 13), .inl (cZ, 9, .inl frh)), ((f 5), .inl (cI, 2000, .inl fr)), ((f 9), .inl (cI, 9, .inl srt)), ((f 10), .inl (cI, 9, .inl bas)), ((f 11), .inl (cI, 9, .inl fst)), ((f 15), .inl (cI, 120, .inl opr))] sz) (fun (u : Int32 × Nat × Nat × (Nat → Int64) × (Nat → Int64) × (Nat → Int64) × (Nat → Int32) × (Nat → Int32)) => [(h0, .inr (8, mS f tn rm ln lx at_ u.1 u.2.1 dp u.2.2.1 os bn df th tp mo_ ev ss so lk rs pt ot cl)), ((f 3), .inl (cL, 2000, .inr (.inl u.2.2.2.1))), ((f 4), .inl (cL, 2000, .inr (.inl u.2.2.2.2.1))), ((f 14), .inl (cL, 120, .inr (.inl u.2.2.2.2.2.1))), ((f 12), .inl (cZ, 9, .inl u.2.2.2.2.2.2.1)), ((f 13), .inl (cZ, 9, .inl u.2.2.2.2.2.2.2)), ((f 5), .inl (cI, 2000, .inl fr)), ((f 9), .inl (cI, 9, .inl srt)), ((f 10), .inl (cI, 9, .inl bas)), ((f 11), .inl (cI, 9, .inl fst)), ((f 15), .inl (cI, 120, .inl opr))]) (fun v (u : Int32 × Nat × Nat × (Nat → Int64) × (Nat → Int64) × (Nat → Int64) × (Nat → Int32) × (Nat → Int32)) => v = none ∧ ((bln u.2.2.2.2.2.2.1) ∧ (bln u.2.2.2.2.2.2.2) ∧ (u.1 = 0 → bd = 0) ∧ (bdo u.1) ∧ (u.2.2.1 = on - r1 + 1) ∧ (∃ St' : Nat → Tr, RX Bc le0 ri0 Q b0 srt bas fst u.2.2.2.2.2.2.1 opr u.2.2.2.2.2.1 u.2.2.2.1 u.2.2.2.2.1 fr u.2.1 u.2.2.1 os bn St' (dp - 1) m1 ob 1))) (fun C (u : Int32 × Nat × Nat × (Nat → Int64) × (Nat → Int64) × (Nat → Int64) × (Nat → Int32) × (Nat → Int32)) => False) 0 0 := by
  refine em_Met.ofW (cc := b_MO_atom) (maxL := 6) (ret := none) (by decide) rfl ?_
  intro p e s m args below meth c s₁ B hml hv hno
  obtain ⟨rfl, ⟨hsz, hP, hK, hD0⟩, hE⟩ := hv
  have hx := B.exec
  have hb := B.bytes
  have hr := B.returns
  have hts := atoms_spec (ws := wz y_MO_atom b_MO_atom 6 none) B.pre
  have hG := wz_G hts
  have hown : s.vm.findClass rn_MO = some m.cls := findClass_of_methodNamed B.named
  have hlocks := B.notSynchronized
  subst hsz
  have hD := hD0.self (sz := s.heap.size)
  have hst := tw_st hP
  generalize hAe : va_A [(h0, .inr (8, mS f tn rm ln lx at_ bd fs dp on os bn df th tp mo_ ev ss so lk rs pt ot cl)), ((f 3), .inl (cL, 2000, .inr (.inl le))), ((f 4), .inl (cL, 2000, .inr (.inl ri))), ((f 14), .inl (cL, 120, .inr (.inl opd))), ((f 12), .inl (cZ, 9, .inl rdy)), ((f 13), .inl (cZ, 9, .inl frh)), ((f 5), .inl (cI, 2000, .inl fr)), ((f 9), .inl (cI, 9, .inl srt)), ((f 10), .inl (cI, 9, .inl bas)), ((f 11), .inl (cI, 9, .inl fst)), ((f 15), .inl (cI, 120, .inl opr))] s.heap.size = A at hD hst ⊢
  have hA : ∀ q : Nat, s.heap.size ≤ q → A q := fun q h => by rw [← hAe]; exact Or.inr h
  have hS : va_S A s.heap s.heap [] := va_S.rf
  have hl := lv_entry ([.ref h0, .long t]) (n := 6) (Nat.le_of_ble_eq_true rfl)
  rw [lg_entry_eq]
  generalize (lg_sl ([.ref h0, .long t]) ++ List.replicate (6 - (lg_sl ([.ref h0, .long t])).length) Slot.unset).toArray = ls at hl ⊢
  have hl : lv_has ls 6 [(0, .ref h0), (1, .long t)] := hl
  obtain ⟨hPS, hOT, hAC, hAG, hOP⟩ := id hRX
  obtain ⟨hLv, hn1, hn2, hn3, hn4, hn5⟩ := id hPS
  refine lv_aload_n hx hb d_MO_atom_0 rfl (lv_at hl 0 rfl) ?_
  refine va_get (D := D) (ci := 8) (v := .int (nI dp)) (C := rn_MO) (T := fl_MO) (N := 55) hx hb hG in_MO hown hK hP 0 rfl rfl 16 (by decide) (hG _ k_1207) (fun _ h9 => h9) rfl d_MO_atom_1 ?_
  refine lv_iconst (v := 1) hx hb d_MO_atom_4 (by decide) ?_
  refine lw_isub (a := dp) (b := 1) hx hb d_MO_atom_5 (by omega) ?_
  refine lv_istore_n (lv' := [(3, .int (nI (dp - 1))), (0, .ref h0), (1, .long t)]) hx hb d_MO_atom_6 rfl hl (Nat.le_of_ble_eq_true rfl) rfl (fun ls hl => ?_)
  refine lv_aload_n hx hb d_MO_atom_7 rfl (lv_at hl 1 rfl) ?_
  refine va_get (D := D) (ci := 8) (v := .ref (f 13)) (C := rn_MO) (T := fl_MO) (N := 55) hx hb hG in_MO hown hK hP 0 rfl rfl 24 (by decide) (hG _ k_1215) (fun _ h9 => h9) rfl d_MO_atom_8 ?_
  refine lv_iload_n hx hb d_MO_atom_11 rfl (lv_at hl 0 rfl) ?_
  refine lv_iconst (v := 0) hx hb d_MO_atom_12 (by decide) ?_
  refine va_zast hx hb hK hP hD hS 5 2 rfl rfl (vp_in_nI (n := dp - 1) (N := 9) (by omega) (by omega)) d_MO_atom_13 (fun H locs hP hD hS => ?_)
  have hP : va_P D classes [(h0, .inr (8, mS f tn rm ln lx at_ bd fs dp on os bn df th tp mo_ ev ss so lk rs pt ot cl)), ((f 3), .inl (cL, 2000, .inr (.inl le))), ((f 4), .inl (cL, 2000, .inr (.inl ri))), ((f 14), .inl (cL, 120, .inr (.inl opd))), ((f 12), .inl (cZ, 9, .inl rdy)), ((f 13), .inl (cZ, 9, .inl (upd frh (nI (dp - 1)).toNatClampNeg (vp_nar .boolean 0)))), ((f 5), .inl (cI, 2000, .inl fr)), ((f 9), .inl (cI, 9, .inl srt)), ((f 10), .inl (cI, 9, .inl bas)), ((f 11), .inl (cI, 9, .inl fst)), ((f 15), .inl (cI, 120, .inl opr))] H := hP
  have hD : va_D A [(h0, .inr (8, mS f tn rm ln lx at_ bd fs dp on os bn df th tp mo_ ev ss so lk rs pt ot cl)), ((f 3), .inl (cL, 2000, .inr (.inl le))), ((f 4), .inl (cL, 2000, .inr (.inl ri))), ((f 14), .inl (cL, 120, .inr (.inl opd))), ((f 12), .inl (cZ, 9, .inl rdy)), ((f 13), .inl (cZ, 9, .inl (upd frh (nI (dp - 1)).toNatClampNeg (vp_nar .boolean 0)))), ((f 5), .inl (cI, 2000, .inl fr)), ((f 9), .inl (cI, 9, .inl srt)), ((f 10), .inl (cI, 9, .inl bas)), ((f 11), .inl (cI, 9, .inl fst)), ((f 15), .inl (cI, 120, .inl opr))] := hD
  obtain ⟨g_1, eg_1⟩ : ∃ z, z = upd frh (dp - 1) 0 := ⟨_, rfl⟩
  rw [nI_clamp (n := dp - 1) (by omega), nar_b (Or.inl rfl), ← eg_1] at hP hD
  have hg_1 : bln g_1 := by rw [eg_1]; exact bln_ub hfrh (Or.inl rfl)
  refine lv_aload_n hx hb d_MO_atom_14 rfl (lv_at hl 1 rfl) ?_
  refine va_get (D := D) (ci := 8) (v := .ref (f 12)) (C := rn_MO) (T := fl_MO) (N := 55) hx hb hG in_MO hown hK hP 0 rfl rfl 23 (by decide) (hG _ k_1214) (fun _ h9 => h9) rfl d_MO_atom_15 ?_
  refine lv_iload_n hx hb d_MO_atom_18 rfl (lv_at hl 0 rfl) ?_
  refine va_zald hx hb hK hP 4 2 rfl rfl (vp_in_nI (n := dp - 1) (N := 9) (by omega) (by omega)) d_MO_atom_19 ?_
  refine W.eq (g2 := F0 m 20 ls [.int (rdy (dp - 1))]) (by rw [nI_clamp (n := dp - 1) (by omega)]) ?_
  refine lv_if_eq (tgt := 43) hx hb d_MO_atom_20 (by decide) (fun hb_2 => ?_) (fun hb_2 => ?_)
  · skip
    have hr0 : r1 = 0 := rdy_0 hn4 hn3 hb_2
    refine lv_aload_n hx hb d_MO_atom_43 rfl (lv_at hl 1 rfl) ?_
    refine lv_lload_n hx hb d_MO_atom_44 rfl (lv_at hl 2 rfl) ?_
    refine em_call (wr := [((f 3), .inl (cL, 2000, .inr (.inl le))), ((f 4), .inl (cL, 2000, .inr (.inl ri))), ((f 12), .inl (cZ, 9, .inl rdy)), ((f 13), .inl (cZ, 9, .inl g_1)), ((f 5), .inl (cI, 2000, .inl fr)), ((f 9), .inl (cI, 9, .inl srt)), ((f 10), .inl (cI, 9, .inl bas)), ((f 11), .inl (cI, 9, .inl fst)), ((f 15), .inl (cI, 120, .inl opr))]) (em_runV (As := [.long t]) (rest := []) ⟨hx, hb, hml, hown, hG⟩ (mo_push l D cI cL cZ cC f h0 tn rm ln lx at_ bd fs dp on os bn df th tp mo_ ev ss so lk rs pt ot cl opd t _ (by first | assumption | omega | exact Or.inl rfl) hnt) (cwV 1 hG (gd_V k_1464 k_1466 k_68 k_116 k_1467) rfl rfl rfl (by decide +kernel) ⟨Nat.le_of_ble_eq_true rfl, Nat.le_of_ble_eq_true rfl⟩) (tw_V (q0 := 0) hP hD hK hE hst hS rfl rfl [0, 3] rfl (by decide)) rfl rfl hl.1 rfl (lv_room (Nat.le_of_ble_eq_true rfl)) d_MO_atom_45 ⟨Nat.le_of_ble_eq_true rfl, Nat.le_of_ble_eq_true rfl⟩) hP hD hS hA [0, 3] [1, 2, 4, 5, 6, 7, 8, 9, 10] rfl rfl (by decide) (by decide) (fun v u H locs hok hP hD hS => ?_) (fun x C u H locs hbad hxx hP hD hS => ?_)
    · skip
      obtain ⟨on_3, opd_4⟩ := u
      obtain ⟨rfl, hp_6⟩ := hok
      obtain ⟨hpo_7, hpn_8⟩ : (opd_4 = vp_updL opd on t) ∧ (on_3 = on + 1) := hp_6
      have hP : va_P D classes [((f 3), .inl (cL, 2000, .inr (.inl le))), ((f 4), .inl (cL, 2000, .inr (.inl ri))), ((f 12), .inl (cZ, 9, .inl rdy)), ((f 13), .inl (cZ, 9, .inl g_1)), ((f 5), .inl (cI, 2000, .inl fr)), ((f 9), .inl (cI, 9, .inl srt)), ((f 10), .inl (cI, 9, .inl bas)), ((f 11), .inl (cI, 9, .inl fst)), ((f 15), .inl (cI, 120, .inl opr)), (h0, .inr (8, mS f tn rm ln lx at_ bd fs dp on_3 os bn df th tp mo_ ev ss so lk rs pt ot cl)), ((f 14), .inl (cL, 120, .inr (.inl opd_4)))] H := hP
      have hD : va_D A [((f 3), .inl (cL, 2000, .inr (.inl le))), ((f 4), .inl (cL, 2000, .inr (.inl ri))), ((f 12), .inl (cZ, 9, .inl rdy)), ((f 13), .inl (cZ, 9, .inl g_1)), ((f 5), .inl (cI, 2000, .inl fr)), ((f 9), .inl (cI, 9, .inl srt)), ((f 10), .inl (cI, 9, .inl bas)), ((f 11), .inl (cI, 9, .inl fst)), ((f 15), .inl (cI, 120, .inl opr)), (h0, .inr (8, mS f tn rm ln lx at_ bd fs dp on_3 os bn df th tp mo_ ev ss so lk rs pt ot cl)), ((f 14), .inl (cL, 120, .inr (.inl opd_4)))] := hD
      refine W.eq (g2 := F0 m 48 ls []) rfl ?_
      refine lv_aload_n hx hb d_MO_atom_48 rfl (lv_at hl 1 rfl) ?_
      refine va_get (D := D) (ci := 8) (v := .ref (f 12)) (C := rn_MO) (T := fl_MO) (N := 55) hx hb hG in_MO hown hK hP 9 rfl rfl 23 (by decide) (hG _ k_1214) (fun _ h9 => h9) rfl d_MO_atom_49 ?_
      refine lv_iload_n hx hb d_MO_atom_52 rfl (lv_at hl 0 rfl) ?_
      refine lv_iconst (v := 1) hx hb d_MO_atom_53 (by decide) ?_
      refine va_zast hx hb hK hP hD hS 2 2 rfl rfl (vp_in_nI (n := dp - 1) (N := 9) (by omega) (by omega)) d_MO_atom_54 (fun H locs hP hD hS => ?_)
      have hP : va_P D classes [((f 3), .inl (cL, 2000, .inr (.inl le))), ((f 4), .inl (cL, 2000, .inr (.inl ri))), ((f 12), .inl (cZ, 9, .inl (upd rdy (nI (dp - 1)).toNatClampNeg (vp_nar .boolean 1)))), ((f 13), .inl (cZ, 9, .inl g_1)), ((f 5), .inl (cI, 2000, .inl fr)), ((f 9), .inl (cI, 9, .inl srt)), ((f 10), .inl (cI, 9, .inl bas)), ((f 11), .inl (cI, 9, .inl fst)), ((f 15), .inl (cI, 120, .inl opr)), (h0, .inr (8, mS f tn rm ln lx at_ bd fs dp on_3 os bn df th tp mo_ ev ss so lk rs pt ot cl)), ((f 14), .inl (cL, 120, .inr (.inl opd_4)))] H := hP
      have hD : va_D A [((f 3), .inl (cL, 2000, .inr (.inl le))), ((f 4), .inl (cL, 2000, .inr (.inl ri))), ((f 12), .inl (cZ, 9, .inl (upd rdy (nI (dp - 1)).toNatClampNeg (vp_nar .boolean 1)))), ((f 13), .inl (cZ, 9, .inl g_1)), ((f 5), .inl (cI, 2000, .inl fr)), ((f 9), .inl (cI, 9, .inl srt)), ((f 10), .inl (cI, 9, .inl bas)), ((f 11), .inl (cI, 9, .inl fst)), ((f 15), .inl (cI, 120, .inl opr)), (h0, .inr (8, mS f tn rm ln lx at_ bd fs dp on_3 os bn df th tp mo_ ev ss so lk rs pt ot cl)), ((f 14), .inl (cL, 120, .inr (.inl opd_4)))] := hD
      obtain ⟨g_10, eg_10⟩ : ∃ z, z = upd rdy (dp - 1) 1 := ⟨_, rfl⟩
      rw [nI_clamp (n := dp - 1) (by omega), nar_b (Or.inr rfl), ← eg_10] at hP hD
      have hg_10 : bln g_10 := by rw [eg_10]; exact bln_ub hrdy (Or.inr rfl)
      exact em_vret hx hb hr hlocks hP hD hK hS (bd, fs, on_3, le, ri, opd_4, g_10, g_1) [9, 0, 1, 10, 2, 3, 4, 5, 6, 7, 8] (by decide) rfl ⟨rfl, ⟨hg_10, hg_1, (show bd = 0 → bd = 0 from (by first | exact id | exact (fun q => absurd q (by assumption)) | exact (id))), (show bdo bd from (by first | assumption | omega | exact Or.inl rfl)), (show on_3 = on - r1 + 1 from (by first | assumption | omega | exact Or.inl rfl)), (show ∃ St' : Nat → Tr, RX Bc le0 ri0 Q b0 srt bas fst g_10 opr opd_4 le ri fr fs on_3 os bn St' (dp - 1) m1 ob 1 from (by subst hr0; subst eg_10 hpo_7 hpn_8; exact RX_put0 hB hRX hT hkT hX))⟩⟩ d_MO_atom_55
    · skip
      exact hbad.elim
  · skip
    have hr0 : r1 = 1 := rdy_1 hn4 hn3 hb_2
    have hwl : ∀ c, ws St 0 on c = ws St 0 (on - 1) c + toc (St (on - 1)) c := ws_last (by omega)
    refine lv_aload_n hx hb d_MO_atom_23 rfl (lv_at hl 1 rfl) ?_
    refine em_call (wr := [((f 3), .inl (cL, 2000, .inr (.inl le))), ((f 4), .inl (cL, 2000, .inr (.inl ri))), ((f 12), .inl (cZ, 9, .inl rdy)), ((f 13), .inl (cZ, 9, .inl g_1)), ((f 5), .inl (cI, 2000, .inl fr)), ((f 9), .inl (cI, 9, .inl srt)), ((f 10), .inl (cI, 9, .inl bas)), ((f 11), .inl (cI, 9, .inl fst)), ((f 15), .inl (cI, 120, .inl opr))]) (em_runV (As := []) (rest := []) ⟨hx, hb, hml, hown, hG⟩ (mo_pop l D cI cL cZ cC f h0 tn rm ln lx at_ bd fs dp on os bn df th tp mo_ ev ss so lk rs pt ot cl opd _ (by first | assumption | omega | exact Or.inl rfl) (by first | assumption | omega | exact Or.inl rfl) hnt) (cwV 0 hG (gd_V k_1453 k_1455 k_66 k_116 k_1456) rfl rfl rfl (by decide +kernel) ⟨Nat.le_of_ble_eq_true rfl, Nat.le_of_ble_eq_true rfl⟩) (tw_V (q0 := 0) hP hD hK hE hst hS rfl rfl [0, 3] rfl (by decide)) rfl rfl hl.1 rfl (lv_room (Nat.le_of_ble_eq_true rfl)) d_MO_atom_24 ⟨Nat.le_of_ble_eq_true rfl, Nat.le_of_ble_eq_true rfl⟩) hP hD hS hA [0, 3] [1, 2, 4, 5, 6, 7, 8, 9, 10] rfl rfl (by decide) (by decide) (fun v u H locs hok hP hD hS => ?_) (fun x C u H locs hbad hxx hP hD hS => ?_)
    · skip
      obtain ⟨on_11, rfl⟩ : ∃ z, z = u := ⟨_, rfl⟩
      obtain ⟨r_12, rfl, hp_13⟩ := hok
      obtain ⟨hpn_14, hres_15⟩ : (on_11 = on - 1) ∧ (r_12 = opd (on - 1)) := hp_13
      subst hres_15
      have hP : va_P D classes [((f 3), .inl (cL, 2000, .inr (.inl le))), ((f 4), .inl (cL, 2000, .inr (.inl ri))), ((f 12), .inl (cZ, 9, .inl rdy)), ((f 13), .inl (cZ, 9, .inl g_1)), ((f 5), .inl (cI, 2000, .inl fr)), ((f 9), .inl (cI, 9, .inl srt)), ((f 10), .inl (cI, 9, .inl bas)), ((f 11), .inl (cI, 9, .inl fst)), ((f 15), .inl (cI, 120, .inl opr)), (h0, .inr (8, mS f tn rm ln lx at_ bd fs dp on_11 os bn df th tp mo_ ev ss so lk rs pt ot cl)), ((f 14), .inl (cL, 120, .inr (.inl opd)))] H := hP
      have hD : va_D A [((f 3), .inl (cL, 2000, .inr (.inl le))), ((f 4), .inl (cL, 2000, .inr (.inl ri))), ((f 12), .inl (cZ, 9, .inl rdy)), ((f 13), .inl (cZ, 9, .inl g_1)), ((f 5), .inl (cI, 2000, .inl fr)), ((f 9), .inl (cI, 9, .inl srt)), ((f 10), .inl (cI, 9, .inl bas)), ((f 11), .inl (cI, 9, .inl fst)), ((f 15), .inl (cI, 120, .inl opr)), (h0, .inr (8, mS f tn rm ln lx at_ bd fs dp on_11 os bn df th tp mo_ ev ss so lk rs pt ot cl)), ((f 14), .inl (cL, 120, .inr (.inl opd)))] := hD
      refine W.eq (g2 := F0 m 27 ls [.long (opd (on - 1))]) rfl ?_
      refine lv_lstore (lv' := [(4, .long (opd (on - 1))), (3, .int (nI (dp - 1))), (0, .ref h0), (1, .long t)]) hx hb d_MO_atom_27 hl (Nat.le_of_ble_eq_true rfl) rfl (fun ls hl => ?_)
      refine lv_aload_n hx hb d_MO_atom_29 rfl (lv_at hl 2 rfl) ?_
      refine lv_aload_n hx hb d_MO_atom_30 rfl (lv_at hl 2 rfl) ?_
      refine lv_lload hx hb d_MO_atom_31 (lv_at hl 0 rfl) ?_
      refine lv_lload_n hx hb d_MO_atom_33 rfl (lv_at hl 3 rfl) ?_
      refine em_call (wr := [((f 12), .inl (cZ, 9, .inl rdy)), ((f 13), .inl (cZ, 9, .inl g_1)), ((f 9), .inl (cI, 9, .inl srt)), ((f 10), .inl (cI, 9, .inl bas)), ((f 11), .inl (cI, 9, .inl fst)), ((f 15), .inl (cI, 120, .inl opr)), ((f 14), .inl (cL, 120, .inr (.inl opd)))]) (em_runV (As := [.long (opd (on - 1)), .long t]) (rest := [.ref h0]) ⟨hx, hb, hml, hown, hG⟩ (mo_apply l D cI cL cZ cC f h0 tn rm ln lx at_ bd fs dp on_11 os bn df th tp mo_ ev ss so lk rs pt ot cl le ri fr (St (on - 1)) T (Q bn) (opd (on - 1)) t _ hfr (hOT (on - 1) (by omega)) hT (by intro d; have a0 := hX d; have a1 := hB d; have a2 := hwl d; omega) (hn5 (on - 1) (by omega) (by omega)) hkT ((hQ bn) 2 (by decide) (by decide)) (by first | assumption | omega | exact Or.inl rfl) hnt) (cwV 2 hG (gd_V k_1457 k_1459 k_67 k_116 k_1460) rfl rfl rfl (by decide +kernel) ⟨Nat.le_of_ble_eq_true rfl, Nat.le_of_ble_eq_true rfl⟩) (tw_V (q0 := 9) hP hD hK hE hst hS rfl rfl [9, 0, 1, 4] rfl (by decide)) rfl rfl hl.1 rfl (lv_room (Nat.le_of_ble_eq_true rfl)) d_MO_atom_34 ⟨Nat.le_of_ble_eq_true rfl, Nat.le_of_ble_eq_true rfl⟩) hP hD hS hA [9, 0, 1, 4] [2, 3, 5, 6, 7, 8, 10] rfl rfl (by decide) (by decide) (fun v u H locs hok hP hD hS => ?_) (fun x C u H locs hbad hxx hP hD hS => ?_)
      · skip
        obtain ⟨bd_16, fs_17, le_18, ri_19⟩ := u
        obtain ⟨r_20, rfl, hp_21⟩ := hok
        obtain ⟨hbz_22, hbo_23, hres_24⟩ : (bd_16 = 0 → bd = 0) ∧ (bdo bd_16) ∧ (∃ T' : Tr, rep le_18 ri_19 r_20 T' ∧ okT (Q bn) T' ∧ (∀ d, fo fr fs_17 d + (toc T') d ≤ fo fr fs d + (toc (St (on - 1)) d + toc T d)) ∧ (∀ d, fo fr fs d + (toc (St (on - 1)) d + toc T d) = 0 → le_18 d = le d ∧ ri_19 d = ri d)) := hp_21
        obtain ⟨T_25, hR_26, hK_27, hF_28, hA_29⟩ := hres_24
        have hP : va_P D classes [((f 12), .inl (cZ, 9, .inl rdy)), ((f 13), .inl (cZ, 9, .inl g_1)), ((f 9), .inl (cI, 9, .inl srt)), ((f 10), .inl (cI, 9, .inl bas)), ((f 11), .inl (cI, 9, .inl fst)), ((f 15), .inl (cI, 120, .inl opr)), ((f 14), .inl (cL, 120, .inr (.inl opd))), (h0, .inr (8, mS f tn rm ln lx at_ bd_16 fs_17 dp on_11 os bn df th tp mo_ ev ss so lk rs pt ot cl)), ((f 3), .inl (cL, 2000, .inr (.inl le_18))), ((f 4), .inl (cL, 2000, .inr (.inl ri_19))), ((f 5), .inl (cI, 2000, .inl fr))] H := hP
        have hD : va_D A [((f 12), .inl (cZ, 9, .inl rdy)), ((f 13), .inl (cZ, 9, .inl g_1)), ((f 9), .inl (cI, 9, .inl srt)), ((f 10), .inl (cI, 9, .inl bas)), ((f 11), .inl (cI, 9, .inl fst)), ((f 15), .inl (cI, 120, .inl opr)), ((f 14), .inl (cL, 120, .inr (.inl opd))), (h0, .inr (8, mS f tn rm ln lx at_ bd_16 fs_17 dp on_11 os bn df th tp mo_ ev ss so lk rs pt ot cl)), ((f 3), .inl (cL, 2000, .inr (.inl le_18))), ((f 4), .inl (cL, 2000, .inr (.inl ri_19))), ((f 5), .inl (cI, 2000, .inl fr))] := hD
        refine W.eq (g2 := F0 m 37 ls [.long r_20, .ref h0]) rfl ?_
        refine em_call (wr := [((f 12), .inl (cZ, 9, .inl rdy)), ((f 13), .inl (cZ, 9, .inl g_1)), ((f 9), .inl (cI, 9, .inl srt)), ((f 10), .inl (cI, 9, .inl bas)), ((f 11), .inl (cI, 9, .inl fst)), ((f 15), .inl (cI, 120, .inl opr)), ((f 3), .inl (cL, 2000, .inr (.inl le_18))), ((f 4), .inl (cL, 2000, .inr (.inl ri_19))), ((f 5), .inl (cI, 2000, .inl fr))]) (em_runV (As := [.long r_20]) (rest := []) ⟨hx, hb, hml, hown, hG⟩ (mo_push l D cI cL cZ cC f h0 tn rm ln lx at_ bd_16 fs_17 dp on_11 os bn df th tp mo_ ev ss so lk rs pt ot cl opd r_20 _ (by first | assumption | omega | exact Or.inl rfl) hnt) (cwV 1 hG (gd_V k_1464 k_1466 k_68 k_116 k_1467) rfl rfl rfl (by decide +kernel) ⟨Nat.le_of_ble_eq_true rfl, Nat.le_of_ble_eq_true rfl⟩) (tw_V (q0 := 7) hP hD hK hE hst hS rfl rfl [7, 6] rfl (by decide)) rfl rfl hl.1 rfl (lv_room (Nat.le_of_ble_eq_true rfl)) d_MO_atom_37 ⟨Nat.le_of_ble_eq_true rfl, Nat.le_of_ble_eq_true rfl⟩) hP hD hS hA [7, 6] [0, 1, 2, 3, 4, 5, 8, 9, 10] rfl rfl (by decide) (by decide) (fun v u H locs hok hP hD hS => ?_) (fun x C u H locs hbad hxx hP hD hS => ?_)
        · skip
          obtain ⟨on_30, opd_31⟩ := u
          obtain ⟨rfl, hp_33⟩ := hok
          obtain ⟨hpo_34, hpn_35⟩ : (opd_31 = vp_updL opd on_11 r_20) ∧ (on_30 = on_11 + 1) := hp_33
          have hP : va_P D classes [((f 12), .inl (cZ, 9, .inl rdy)), ((f 13), .inl (cZ, 9, .inl g_1)), ((f 9), .inl (cI, 9, .inl srt)), ((f 10), .inl (cI, 9, .inl bas)), ((f 11), .inl (cI, 9, .inl fst)), ((f 15), .inl (cI, 120, .inl opr)), ((f 3), .inl (cL, 2000, .inr (.inl le_18))), ((f 4), .inl (cL, 2000, .inr (.inl ri_19))), ((f 5), .inl (cI, 2000, .inl fr)), (h0, .inr (8, mS f tn rm ln lx at_ bd_16 fs_17 dp on_30 os bn df th tp mo_ ev ss so lk rs pt ot cl)), ((f 14), .inl (cL, 120, .inr (.inl opd_31)))] H := hP
          have hD : va_D A [((f 12), .inl (cZ, 9, .inl rdy)), ((f 13), .inl (cZ, 9, .inl g_1)), ((f 9), .inl (cI, 9, .inl srt)), ((f 10), .inl (cI, 9, .inl bas)), ((f 11), .inl (cI, 9, .inl fst)), ((f 15), .inl (cI, 120, .inl opr)), ((f 3), .inl (cL, 2000, .inr (.inl le_18))), ((f 4), .inl (cL, 2000, .inr (.inl ri_19))), ((f 5), .inl (cI, 2000, .inl fr)), (h0, .inr (8, mS f tn rm ln lx at_ bd_16 fs_17 dp on_30 os bn df th tp mo_ ev ss so lk rs pt ot cl)), ((f 14), .inl (cL, 120, .inr (.inl opd_31)))] := hD
          refine W.eq (g2 := F0 m 40 ls []) rfl ?_
          refine lv_goto (tgt := 48) hx hb d_MO_atom_40 (by decide) ?_
          refine lv_aload_n hx hb d_MO_atom_48 rfl (lv_at hl 2 rfl) ?_
          refine va_get (D := D) (ci := 8) (v := .ref (f 12)) (C := rn_MO) (T := fl_MO) (N := 55) hx hb hG in_MO hown hK hP 9 rfl rfl 23 (by decide) (hG _ k_1214) (fun _ h9 => h9) rfl d_MO_atom_49 ?_
          refine lv_iload_n hx hb d_MO_atom_52 rfl (lv_at hl 1 rfl) ?_
          refine lv_iconst (v := 1) hx hb d_MO_atom_53 (by decide) ?_
          refine va_zast hx hb hK hP hD hS 0 2 rfl rfl (vp_in_nI (n := dp - 1) (N := 9) (by omega) (by omega)) d_MO_atom_54 (fun H locs hP hD hS => ?_)
          have hP : va_P D classes [((f 12), .inl (cZ, 9, .inl (upd rdy (nI (dp - 1)).toNatClampNeg (vp_nar .boolean 1)))), ((f 13), .inl (cZ, 9, .inl g_1)), ((f 9), .inl (cI, 9, .inl srt)), ((f 10), .inl (cI, 9, .inl bas)), ((f 11), .inl (cI, 9, .inl fst)), ((f 15), .inl (cI, 120, .inl opr)), ((f 3), .inl (cL, 2000, .inr (.inl le_18))), ((f 4), .inl (cL, 2000, .inr (.inl ri_19))), ((f 5), .inl (cI, 2000, .inl fr)), (h0, .inr (8, mS f tn rm ln lx at_ bd_16 fs_17 dp on_30 os bn df th tp mo_ ev ss so lk rs pt ot cl)), ((f 14), .inl (cL, 120, .inr (.inl opd_31)))] H := hP
          have hD : va_D A [((f 12), .inl (cZ, 9, .inl (upd rdy (nI (dp - 1)).toNatClampNeg (vp_nar .boolean 1)))), ((f 13), .inl (cZ, 9, .inl g_1)), ((f 9), .inl (cI, 9, .inl srt)), ((f 10), .inl (cI, 9, .inl bas)), ((f 11), .inl (cI, 9, .inl fst)), ((f 15), .inl (cI, 120, .inl opr)), ((f 3), .inl (cL, 2000, .inr (.inl le_18))), ((f 4), .inl (cL, 2000, .inr (.inl ri_19))), ((f 5), .inl (cI, 2000, .inl fr)), (h0, .inr (8, mS f tn rm ln lx at_ bd_16 fs_17 dp on_30 os bn df th tp mo_ ev ss so lk rs pt ot cl)), ((f 14), .inl (cL, 120, .inr (.inl opd_31)))] := hD
          obtain ⟨g_37, eg_37⟩ : ∃ z, z = upd rdy (dp - 1) 1 := ⟨_, rfl⟩
          rw [nI_clamp (n := dp - 1) (by omega), nar_b (Or.inr rfl), ← eg_37] at hP hD
          have hg_37 : bln g_37 := by rw [eg_37]; exact bln_ub hrdy (Or.inr rfl)
          exact em_vret hx hb hr hlocks hP hD hK hS (bd_16, fs_17, on_30, le_18, ri_19, opd_31, g_37, g_1) [9, 6, 7, 10, 0, 1, 8, 2, 3, 4, 5] (by decide) rfl ⟨rfl, ⟨hg_37, hg_1, (show bd_16 = 0 → bd = 0 from (by first | exact id | exact (fun q => absurd q (by assumption)) | exact (fun q => hbz_22 q))), (show bdo bd_16 from (by first | assumption | omega | exact Or.inl rfl)), (show on_30 = on - r1 + 1 from (by first | assumption | omega | exact Or.inl rfl)), (show ∃ St' : Nat → Tr, RX Bc le0 ri0 Q b0 srt bas fst g_37 opr opd_31 le_18 ri_19 fr fs_17 on_30 os bn St' (dp - 1) m1 ob 1 from (by subst hr0; subst eg_37 hpo_34 hpn_35 hpn_14; exact RX_put1 (T := T) hB hRX hX hR_26 hK_27 (fun c => by show _ ≤ _ + (toc (St (on - 1)) c + toc T c); have a0 := hX c; have a1 := hB c; have a2 := hwl c; have a3 := hF_28 c; omega) (fun c hc => by have hc : _ + (toc (St (on - 1)) c + toc T c) = 0 := hc; have a0 := hX c; have a1 := hB c; have a2 := hwl c; have a3 := hF_28 c; have g0 := hA_29 c (by omega); exact ⟨by rw [g0.1], by rw [g0.2]⟩)))⟩⟩ d_MO_atom_55
        · skip
          exact hbad.elim
      · skip
        exact hbad.elim
    · skip
      exact hbad.elim
set_option maxHeartbeats 8000000 in
set_option maxRecDepth 100000 in
theorem mo_whole (l : Launch) (D : va_G) (cI cL cZ cC : ClassId) (f : Nat → Nat) (h0 : Nat) (tn : Int32) (rm : Nat) (ln : Nat) (lx : Nat) (at_ : Nat) (bd : Int32) (fs : Nat) (dp : Nat) (on : Nat) (os : Nat) (bn : Nat) (df : Nat) (th : Int32) (tp : Nat) (mo_ : Int32) (ev : Nat) (ss : Int32) (so : Int32) (lk : Int64) (rs : Int64) (pt : Int32) (ot : Nat) (cl : Int32) (opd : Nat → Int64) (rdy : Nat → Int32) (frh : Nat → Int32) (fr : Nat → Int32) (srt : Nat → Int32) (bas : Nat → Int32) (fst : Nat → Int32) (opr : Nat → Int32) (le : Nat → Int64) (ri : Nat → Int64) (Bc : Nat → Nat) (le0 : Nat → Int64) (ri0 : Nat → Int64) (Q : Nat → Int64 → Prop) (b0 : Nat) (St : Nat → Tr) (m1 : Nat) (ob : Nat) (T : Tr) (t : Int64) (sz : Nat) (hrdy : bln rdy) (hfrh : bln frh) (hfr : rng 2000 fr) (hRX : RX Bc le0 ri0 Q b0 srt bas fst rdy opr opd le ri fr fs on os bn St (dp - 1) m1 ob 0) (hB : ∀ c, Bc c ≤ 1) (hdp1 : 1 ≤ dp) (hdp2 : dp ≤ 9) (hon : on ≤ 110) (hT : rep le ri t T) (hkT : okT (Q bn) T) (hX : ∀ c, fo fr fs c + ws St 0 on c + (toc T) c ≤ Bc c) (hnt : l.stackTraces = false) : em_Met l y_MO_whole (wz y_MO_whole b_MO_whole 3 none) ({ frames := 1, cells := 0, slots := 0, locals := 22 }) (va_Pc [.ref h0, .long t] (tw_pre D (tys4 cI cL cZ cC) [(h0, .inr (8, mS f tn rm ln lx at_ bd fs dp on os bn df th tp mo_ ev ss so lk rs pt ot cl)), ((f 14), .inl (cL, 120, .inr (.inl opd))), ((f 12), .inl (cZ, 9, .inl rdy)), ((f 13), .inl (cZ, 9, .inl frh)), ((f 5), .inl (cI, 2000, .inl fr)), ((f 9), .inl (cI, 9, .inl srt)), ((f 10), .inl (cI, 9, .inl bas)), ((f 11), .inl (cI, 9, .inl fst)), ((f 15), .inl (cI, 120, .inl opr)), ((f 3), .inl (cL, 2000, .inr (.inl le))), ((f 4), .inl (cL, 2000, .inr (.inl ri)))] sz)) D (tys4 cI cL cZ cC) (va_A [(h0, .inr (8, mS f tn rm ln lx at_ bd fs dp on os bn df th tp mo_ ev ss so lk rs pt ot cl)), ((f 14), .inl (cL, 120, .inr (.inl opd))), ((f 12), .inl (cZ, 9, .inl rdy)), ((f 13), .inl (cZ, 9, .inl frh)), ((f 5), .inl (cI, 2000, .inl fr)), ((f 9), .inl (cI, 9, .inl srt)), ((f 10), .inl (cI, 9, .inl bas)), ((f 11), .inl (cI, 9, .inl fst)), ((f 15), .inl (cI, 120, .inl opr)), ((f 3), .inl (cL, 2000, .inr (.inl le))), ((f 4), .inl (cL, 2000, .inr (.inl ri)))] sz) (fun (u : Nat × Int32 × (Nat → Int64) × (Nat → Int32) × (Nat → Int32)) => [(h0, .inr (8, mS f tn rm ln lx at_ bd fs dp u.1 os bn df th tp mo_ ev ss so lk rs pt ot u.2.1)), ((f 14), .inl (cL, 120, .inr (.inl u.2.2.1))), ((f 12), .inl (cZ, 9, .inl u.2.2.2.1)), ((f 13), .inl (cZ, 9, .inl u.2.2.2.2)), ((f 5), .inl (cI, 2000, .inl fr)), ((f 9), .inl (cI, 9, .inl srt)), ((f 10), .inl (cI, 9, .inl bas)), ((f 11), .inl (cI, 9, .inl fst)), ((f 15), .inl (cI, 120, .inl opr)), ((f 3), .inl (cL, 2000, .inr (.inl le))), ((f 4), .inl (cL, 2000, .inr (.inl ri)))]) (fun v (u : Nat × Int32 × (Nat → Int64) × (Nat → Int32) × (Nat → Int32)) => v = none ∧ ((bln u.2.2.2.1) ∧ (bln u.2.2.2.2) ∧ (u.1 = on + 1) ∧ (∃ St' : Nat → Tr, RX Bc le0 ri0 Q b0 srt bas fst u.2.2.2.1 opr u.2.2.1 le ri fr fs u.1 os bn St' (dp - 1) m1 ob 1))) (fun C (u : Nat × Int32 × (Nat → Int64) × (Nat → Int32) × (Nat → Int32)) => False) 0 0 := by
  refine em_Met.ofW (cc := b_MO_whole) (maxL := 3) (ret := none) (by decide) rfl ?_
  intro p e s m args below meth c s₁ B hml hv hno
  obtain ⟨rfl, ⟨hsz, hP, hK, hD0⟩, hE⟩ := hv
  have hx := B.exec
  have hb := B.bytes
  have hr := B.returns
  have hts := atoms_spec (ws := wz y_MO_whole b_MO_whole 3 none) B.pre
  have hG := wz_G hts
  have hown : s.vm.findClass rn_MO = some m.cls := findClass_of_methodNamed B.named
  have hlocks := B.notSynchronized
  subst hsz
  have hD := hD0.self (sz := s.heap.size)
  have hst := tw_st hP
  generalize hAe : va_A [(h0, .inr (8, mS f tn rm ln lx at_ bd fs dp on os bn df th tp mo_ ev ss so lk rs pt ot cl)), ((f 14), .inl (cL, 120, .inr (.inl opd))), ((f 12), .inl (cZ, 9, .inl rdy)), ((f 13), .inl (cZ, 9, .inl frh)), ((f 5), .inl (cI, 2000, .inl fr)), ((f 9), .inl (cI, 9, .inl srt)), ((f 10), .inl (cI, 9, .inl bas)), ((f 11), .inl (cI, 9, .inl fst)), ((f 15), .inl (cI, 120, .inl opr)), ((f 3), .inl (cL, 2000, .inr (.inl le))), ((f 4), .inl (cL, 2000, .inr (.inl ri)))] s.heap.size = A at hD hst ⊢
  have hA : ∀ q : Nat, s.heap.size ≤ q → A q := fun q h => by rw [← hAe]; exact Or.inr h
  have hS : va_S A s.heap s.heap [] := va_S.rf
  have hl := lv_entry ([.ref h0, .long t]) (n := 3) (Nat.le_of_ble_eq_true rfl)
  rw [lg_entry_eq]
  generalize (lg_sl ([.ref h0, .long t]) ++ List.replicate (3 - (lg_sl ([.ref h0, .long t])).length) Slot.unset).toArray = ls at hl ⊢
  have hl : lv_has ls 3 [(0, .ref h0), (1, .long t)] := hl
  obtain ⟨hPS, hOT, hAC, hAG, hOP⟩ := id hRX
  obtain ⟨hLv, hn1, hn2, hn3, hn4, hn5⟩ := id hPS
  refine lv_aload_n hx hb d_MO_whole_0 rfl (lv_at hl 0 rfl) ?_
  refine lv_lload_n hx hb d_MO_whole_1 rfl (lv_at hl 1 rfl) ?_
  refine em_call (wr := [((f 12), .inl (cZ, 9, .inl rdy)), ((f 13), .inl (cZ, 9, .inl frh)), ((f 5), .inl (cI, 2000, .inl fr)), ((f 9), .inl (cI, 9, .inl srt)), ((f 10), .inl (cI, 9, .inl bas)), ((f 11), .inl (cI, 9, .inl fst)), ((f 15), .inl (cI, 120, .inl opr)), ((f 3), .inl (cL, 2000, .inr (.inl le))), ((f 4), .inl (cL, 2000, .inr (.inl ri)))]) (em_runV (As := [.long t]) (rest := []) ⟨hx, hb, hml, hown, hG⟩ (mo_push l D cI cL cZ cC f h0 tn rm ln lx at_ bd fs dp on os bn df th tp mo_ ev ss so lk rs pt ot cl opd t _ (by first | assumption | omega | exact Or.inl rfl) hnt) (cwV 1 hG (gd_V k_1464 k_1466 k_68 k_116 k_1467) rfl rfl rfl (by decide +kernel) ⟨Nat.le_of_ble_eq_true rfl, Nat.le_of_ble_eq_true rfl⟩) (tw_V (q0 := 0) hP hD hK hE hst hS rfl rfl [0, 1] rfl (by decide)) rfl rfl hl.1 rfl (lv_room (Nat.le_of_ble_eq_true rfl)) d_MO_whole_2 ⟨Nat.le_of_ble_eq_true rfl, Nat.le_of_ble_eq_true rfl⟩) hP hD hS hA [0, 1] [2, 3, 4, 5, 6, 7, 8, 9, 10] rfl rfl (by decide) (by decide) (fun v u H locs hok hP hD hS => ?_) (fun x C u H locs hbad hxx hP hD hS => ?_)
  · skip
    obtain ⟨on_1, opd_2⟩ := u
    obtain ⟨rfl, hp_4⟩ := hok
    obtain ⟨hpo_5, hpn_6⟩ : (opd_2 = vp_updL opd on t) ∧ (on_1 = on + 1) := hp_4
    have hP : va_P D classes [((f 12), .inl (cZ, 9, .inl rdy)), ((f 13), .inl (cZ, 9, .inl frh)), ((f 5), .inl (cI, 2000, .inl fr)), ((f 9), .inl (cI, 9, .inl srt)), ((f 10), .inl (cI, 9, .inl bas)), ((f 11), .inl (cI, 9, .inl fst)), ((f 15), .inl (cI, 120, .inl opr)), ((f 3), .inl (cL, 2000, .inr (.inl le))), ((f 4), .inl (cL, 2000, .inr (.inl ri))), (h0, .inr (8, mS f tn rm ln lx at_ bd fs dp on_1 os bn df th tp mo_ ev ss so lk rs pt ot cl)), ((f 14), .inl (cL, 120, .inr (.inl opd_2)))] H := hP
    have hD : va_D A [((f 12), .inl (cZ, 9, .inl rdy)), ((f 13), .inl (cZ, 9, .inl frh)), ((f 5), .inl (cI, 2000, .inl fr)), ((f 9), .inl (cI, 9, .inl srt)), ((f 10), .inl (cI, 9, .inl bas)), ((f 11), .inl (cI, 9, .inl fst)), ((f 15), .inl (cI, 120, .inl opr)), ((f 3), .inl (cL, 2000, .inr (.inl le))), ((f 4), .inl (cL, 2000, .inr (.inl ri))), (h0, .inr (8, mS f tn rm ln lx at_ bd fs dp on_1 os bn df th tp mo_ ev ss so lk rs pt ot cl)), ((f 14), .inl (cL, 120, .inr (.inl opd_2)))] := hD
    refine W.eq (g2 := F0 m 5 ls []) rfl ?_
    refine lv_aload_n hx hb d_MO_whole_5 rfl (lv_at hl 0 rfl) ?_
    refine va_get (D := D) (ci := 8) (v := .ref (f 13)) (C := rn_MO) (T := fl_MO) (N := 55) hx hb hG in_MO hown hK hP 9 rfl rfl 24 (by decide) (hG _ k_1215) (fun _ h9 => h9) rfl d_MO_whole_6 ?_
    refine lv_aload_n hx hb d_MO_whole_9 rfl (lv_at hl 0 rfl) ?_
    refine va_get (D := D) (ci := 8) (v := .int (nI dp)) (C := rn_MO) (T := fl_MO) (N := 55) hx hb hG in_MO hown hK hP 9 rfl rfl 16 (by decide) (hG _ k_1207) (fun _ h9 => h9) rfl d_MO_whole_10 ?_
    refine lv_iconst (v := 1) hx hb d_MO_whole_13 (by decide) ?_
    refine lw_isub (a := dp) (b := 1) hx hb d_MO_whole_14 (by omega) ?_
    refine lv_iconst (v := 0) hx hb d_MO_whole_15 (by decide) ?_
    refine va_zast hx hb hK hP hD hS 1 2 rfl rfl (vp_in_nI (n := dp - 1) (N := 9) (by omega) (by omega)) d_MO_whole_16 (fun H locs hP hD hS => ?_)
    have hP : va_P D classes [((f 12), .inl (cZ, 9, .inl rdy)), ((f 13), .inl (cZ, 9, .inl (upd frh (nI (dp - 1)).toNatClampNeg (vp_nar .boolean 0)))), ((f 5), .inl (cI, 2000, .inl fr)), ((f 9), .inl (cI, 9, .inl srt)), ((f 10), .inl (cI, 9, .inl bas)), ((f 11), .inl (cI, 9, .inl fst)), ((f 15), .inl (cI, 120, .inl opr)), ((f 3), .inl (cL, 2000, .inr (.inl le))), ((f 4), .inl (cL, 2000, .inr (.inl ri))), (h0, .inr (8, mS f tn rm ln lx at_ bd fs dp on_1 os bn df th tp mo_ ev ss so lk rs pt ot cl)), ((f 14), .inl (cL, 120, .inr (.inl opd_2)))] H := hP
    have hD : va_D A [((f 12), .inl (cZ, 9, .inl rdy)), ((f 13), .inl (cZ, 9, .inl (upd frh (nI (dp - 1)).toNatClampNeg (vp_nar .boolean 0)))), ((f 5), .inl (cI, 2000, .inl fr)), ((f 9), .inl (cI, 9, .inl srt)), ((f 10), .inl (cI, 9, .inl bas)), ((f 11), .inl (cI, 9, .inl fst)), ((f 15), .inl (cI, 120, .inl opr)), ((f 3), .inl (cL, 2000, .inr (.inl le))), ((f 4), .inl (cL, 2000, .inr (.inl ri))), (h0, .inr (8, mS f tn rm ln lx at_ bd fs dp on_1 os bn df th tp mo_ ev ss so lk rs pt ot cl)), ((f 14), .inl (cL, 120, .inr (.inl opd_2)))] := hD
    obtain ⟨g_8, eg_8⟩ : ∃ z, z = upd frh (dp - 1) 0 := ⟨_, rfl⟩
    rw [nI_clamp (n := dp - 1) (by omega), nar_b (Or.inl rfl), ← eg_8] at hP hD
    have hg_8 : bln g_8 := by rw [eg_8]; exact bln_ub hfrh (Or.inl rfl)
    refine lv_aload_n hx hb d_MO_whole_17 rfl (lv_at hl 0 rfl) ?_
    refine va_get (D := D) (ci := 8) (v := .ref (f 12)) (C := rn_MO) (T := fl_MO) (N := 55) hx hb hG in_MO hown hK hP 9 rfl rfl 23 (by decide) (hG _ k_1214) (fun _ h9 => h9) rfl d_MO_whole_18 ?_
    refine lv_aload_n hx hb d_MO_whole_21 rfl (lv_at hl 0 rfl) ?_
    refine va_get (D := D) (ci := 8) (v := .int (nI dp)) (C := rn_MO) (T := fl_MO) (N := 55) hx hb hG in_MO hown hK hP 9 rfl rfl 16 (by decide) (hG _ k_1207) (fun _ h9 => h9) rfl d_MO_whole_22 ?_
    refine lv_iconst (v := 1) hx hb d_MO_whole_25 (by decide) ?_
    refine lw_isub (a := dp) (b := 1) hx hb d_MO_whole_26 (by omega) ?_
    refine lv_iconst (v := 1) hx hb d_MO_whole_27 (by decide) ?_
    refine va_zast hx hb hK hP hD hS 0 2 rfl rfl (vp_in_nI (n := dp - 1) (N := 9) (by omega) (by omega)) d_MO_whole_28 (fun H locs hP hD hS => ?_)
    have hP : va_P D classes [((f 12), .inl (cZ, 9, .inl (upd rdy (nI (dp - 1)).toNatClampNeg (vp_nar .boolean 1)))), ((f 13), .inl (cZ, 9, .inl g_8)), ((f 5), .inl (cI, 2000, .inl fr)), ((f 9), .inl (cI, 9, .inl srt)), ((f 10), .inl (cI, 9, .inl bas)), ((f 11), .inl (cI, 9, .inl fst)), ((f 15), .inl (cI, 120, .inl opr)), ((f 3), .inl (cL, 2000, .inr (.inl le))), ((f 4), .inl (cL, 2000, .inr (.inl ri))), (h0, .inr (8, mS f tn rm ln lx at_ bd fs dp on_1 os bn df th tp mo_ ev ss so lk rs pt ot cl)), ((f 14), .inl (cL, 120, .inr (.inl opd_2)))] H := hP
    have hD : va_D A [((f 12), .inl (cZ, 9, .inl (upd rdy (nI (dp - 1)).toNatClampNeg (vp_nar .boolean 1)))), ((f 13), .inl (cZ, 9, .inl g_8)), ((f 5), .inl (cI, 2000, .inl fr)), ((f 9), .inl (cI, 9, .inl srt)), ((f 10), .inl (cI, 9, .inl bas)), ((f 11), .inl (cI, 9, .inl fst)), ((f 15), .inl (cI, 120, .inl opr)), ((f 3), .inl (cL, 2000, .inr (.inl le))), ((f 4), .inl (cL, 2000, .inr (.inl ri))), (h0, .inr (8, mS f tn rm ln lx at_ bd fs dp on_1 os bn df th tp mo_ ev ss so lk rs pt ot cl)), ((f 14), .inl (cL, 120, .inr (.inl opd_2)))] := hD
    obtain ⟨g_9, eg_9⟩ : ∃ z, z = upd rdy (dp - 1) 1 := ⟨_, rfl⟩
    rw [nI_clamp (n := dp - 1) (by omega), nar_b (Or.inr rfl), ← eg_9] at hP hD
    have hg_9 : bln g_9 := by rw [eg_9]; exact bln_ub hrdy (Or.inr rfl)
    refine lv_aload_n hx hb d_MO_whole_29 rfl (lv_at hl 0 rfl) ?_
    refine lv_iconst (v := 1) hx hb d_MO_whole_30 (by decide) ?_
    refine va_put (D := D) (ci := 8) (v := .int 1) (ty := .boolean) (C := rn_MO) (T := fl_MO) (N := 55) hx hb hG in_MO tt_MO tk_MO nn_MO hown hK hP hD hS 9 rfl rfl 53 (by decide) (hG _ k_1244) (fun _ h9 => h9) rfl (by decide +kernel) rfl rfl (Nat.le_of_ble_eq_true rfl) d_MO_whole_31 (fun H locs hP hD hS => ?_)
    have hP : va_P D classes [((f 12), .inl (cZ, 9, .inl g_9)), ((f 13), .inl (cZ, 9, .inl g_8)), ((f 5), .inl (cI, 2000, .inl fr)), ((f 9), .inl (cI, 9, .inl srt)), ((f 10), .inl (cI, 9, .inl bas)), ((f 11), .inl (cI, 9, .inl fst)), ((f 15), .inl (cI, 120, .inl opr)), ((f 3), .inl (cL, 2000, .inr (.inl le))), ((f 4), .inl (cL, 2000, .inr (.inl ri))), (h0, .inr (8, mS f tn rm ln lx at_ bd fs dp on_1 os bn df th tp mo_ ev ss so lk rs pt ot 1)), ((f 14), .inl (cL, 120, .inr (.inl opd_2)))] H := hP
    have hD : va_D A [((f 12), .inl (cZ, 9, .inl g_9)), ((f 13), .inl (cZ, 9, .inl g_8)), ((f 5), .inl (cI, 2000, .inl fr)), ((f 9), .inl (cI, 9, .inl srt)), ((f 10), .inl (cI, 9, .inl bas)), ((f 11), .inl (cI, 9, .inl fst)), ((f 15), .inl (cI, 120, .inl opr)), ((f 3), .inl (cL, 2000, .inr (.inl le))), ((f 4), .inl (cL, 2000, .inr (.inl ri))), (h0, .inr (8, mS f tn rm ln lx at_ bd fs dp on_1 os bn df th tp mo_ ev ss so lk rs pt ot 1)), ((f 14), .inl (cL, 120, .inr (.inl opd_2)))] := hD
    exact em_vret hx hb hr hlocks hP hD hK hS (on_1, 1, opd_2, g_9, g_8) [9, 10, 0, 1, 2, 3, 4, 5, 6, 7, 8] (by decide) rfl ⟨rfl, ⟨hg_9, hg_8, (show on_1 = on + 1 from (by first | assumption | omega | exact Or.inl rfl)), (show ∃ St' : Nat → Tr, RX Bc le0 ri0 Q b0 srt bas fst g_9 opr opd_2 le ri fr fs on_1 os bn St' (dp - 1) m1 ob 1 from (by subst eg_9 eg_8 hpo_5 hpn_6; exact RX_put0 hB hRX hT hkT hX))⟩⟩ d_MO_whole_34
  · skip
    exact hbad.elim
set_option maxHeartbeats 8000000 in
set_option maxRecDepth 100000 in
theorem mo_reduce (l : Launch) (D : va_G) (cI cL cZ cC : ClassId) (f : Nat → Nat) (h0 : Nat) (tn : Int32) (rm : Nat) (ln : Nat) (lx : Nat) (at_ : Nat) (bd : Int32) (fs : Nat) (dp : Nat) (on : Nat) (os : Nat) (bn : Nat) (df : Nat) (th : Int32) (tp : Nat) (mo_ : Int32) (ev : Nat) (ss : Int32) (so : Int32) (lk : Int64) (rs : Int64) (pt : Int32) (ot : Nat) (cl : Int32) (le : Nat → Int64) (ri : Nat → Int64) (opd : Nat → Int64) (fr : Nat → Int32) (srt : Nat → Int32) (bas : Nat → Int32) (fst : Nat → Int32) (opr : Nat → Int32) (rdy : Nat → Int32) (Bc : Nat → Nat) (le0 : Nat → Int64) (ri0 : Nat → Int64) (Q : Nat → Int64 → Prop) (b0 : Nat) (St : Nat → Tr) (m1 : Nat) (ob : Nat) (sz : Nat) (hfr : rng 2000 fr) (hrdy : bln rdy) (hRX : RX Bc le0 ri0 Q b0 srt bas fst rdy opr opd le ri fr fs on os bn St (dp - 1) m1 ob 1) (hB : ∀ c, Bc c ≤ 1) (hon : on ≤ 110) (hos : ob < os) (hos2 : os ≤ 110) (hQ : ∀ (b c : Nat), 2 ≤ c → c ≤ 22 → Q b (wof 2 (nI c))) (hbo : bdo bd) (hnt : l.stackTraces = false) : em_Met l y_MO_reduce (wz y_MO_reduce b_MO_reduce 5 none) ({ frames := 3, cells := 0, slots := 0, locals := 66 }) (va_Pc [.ref h0] (tw_pre D (tys4 cI cL cZ cC) [(h0, .inr (8, mS f tn rm ln lx at_ bd fs dp on os bn df th tp mo_ ev ss so lk rs pt ot cl)), ((f 3), .inl (cL, 2000, .inr (.inl le))), ((f 4), .inl (cL, 2000, .inr (.inl ri))), ((f 14), .inl (cL, 120, .inr (.inl opd))), ((f 5), .inl (cI, 2000, .inl fr)), ((f 9), .inl (cI, 9, .inl srt)), ((f 10), .inl (cI, 9, .inl bas)), ((f 11), .inl (cI, 9, .inl fst)), ((f 15), .inl (cI, 120, .inl opr)), ((f 12), .inl (cZ, 9, .inl rdy))] sz)) D (tys4 cI cL cZ cC) (va_A [(h0, .inr (8, mS f tn rm ln lx at_ bd fs dp on os bn df th tp mo_ ev ss so lk rs pt ot cl)), ((f 3), .inl (cL, 2000, .inr (.inl le))), ((f 4), .inl (cL, 2000, .inr (.inl ri))), ((f 14), .inl (cL, 120, .inr (.inl opd))), ((f 5), .inl (cI, 2000, .inl fr)), ((f 9), .inl (cI, 9, .inl srt)), ((f 10), .inl (cI, 9, .inl bas)), ((f 11), .inl (cI, 9, .inl fst)), ((f 15), .inl (cI, 120, .inl opr)), ((f 12), .inl (cZ, 9, .inl rdy))] sz) (fun (u : Int32 × Nat × Nat × Nat × (Nat → Int64) × (Nat → Int64) × (Nat → Int64)) => [(h0, .inr (8, mS f tn rm ln lx at_ u.1 u.2.1 dp u.2.2.1 u.2.2.2.1 bn df th tp mo_ ev ss so lk rs pt ot cl)), ((f 3), .inl (cL, 2000, .inr (.inl u.2.2.2.2.1))), ((f 4), .inl (cL, 2000, .inr (.inl u.2.2.2.2.2.1))), ((f 14), .inl (cL, 120, .inr (.inl u.2.2.2.2.2.2))), ((f 5), .inl (cI, 2000, .inl fr)), ((f 9), .inl (cI, 9, .inl srt)), ((f 10), .inl (cI, 9, .inl bas)), ((f 11), .inl (cI, 9, .inl fst)), ((f 15), .inl (cI, 120, .inl opr)), ((f 12), .inl (cZ, 9, .inl rdy))]) (fun v (u : Int32 × Nat × Nat × Nat × (Nat → Int64) × (Nat → Int64) × (Nat → Int64)) => v = none ∧ ((u.1 = 0 → bd = 0) ∧ (bdo u.1) ∧ (u.2.2.1 = on - 1) ∧ (u.2.2.2.1 = os - 1) ∧ (∃ St' : Nat → Tr, RX Bc le0 ri0 Q b0 srt bas fst rdy opr u.2.2.2.2.2.2 u.2.2.2.2.1 u.2.2.2.2.2.1 fr u.2.1 u.2.2.1 u.2.2.2.1 bn St' (dp - 1) m1 ob 1))) (fun C (u : Int32 × Nat × Nat × Nat × (Nat → Int64) × (Nat → Int64) × (Nat → Int64)) => False) 0 0 := by
  refine em_Met.ofW (cc := b_MO_reduce) (maxL := 5) (ret := none) (by decide) rfl ?_
  intro p e s m args below meth c s₁ B hml hv hno
  obtain ⟨rfl, ⟨hsz, hP, hK, hD0⟩, hE⟩ := hv
  have hx := B.exec
  have hb := B.bytes
  have hr := B.returns
  have hts := atoms_spec (ws := wz y_MO_reduce b_MO_reduce 5 none) B.pre
  have hG := wz_G hts
  have hown : s.vm.findClass rn_MO = some m.cls := findClass_of_methodNamed B.named
  have hlocks := B.notSynchronized
  subst hsz
  have hD := hD0.self (sz := s.heap.size)
  have hst := tw_st hP
  generalize hAe : va_A [(h0, .inr (8, mS f tn rm ln lx at_ bd fs dp on os bn df th tp mo_ ev ss so lk rs pt ot cl)), ((f 3), .inl (cL, 2000, .inr (.inl le))), ((f 4), .inl (cL, 2000, .inr (.inl ri))), ((f 14), .inl (cL, 120, .inr (.inl opd))), ((f 5), .inl (cI, 2000, .inl fr)), ((f 9), .inl (cI, 9, .inl srt)), ((f 10), .inl (cI, 9, .inl bas)), ((f 11), .inl (cI, 9, .inl fst)), ((f 15), .inl (cI, 120, .inl opr)), ((f 12), .inl (cZ, 9, .inl rdy))] s.heap.size = A at hD hst ⊢
  have hA : ∀ q : Nat, s.heap.size ≤ q → A q := fun q h => by rw [← hAe]; exact Or.inr h
  have hS : va_S A s.heap s.heap [] := va_S.rf
  have hl := lv_entry ([.ref h0]) (n := 5) (Nat.le_of_ble_eq_true rfl)
  rw [lg_entry_eq]
  generalize (lg_sl ([.ref h0]) ++ List.replicate (5 - (lg_sl ([.ref h0])).length) Slot.unset).toArray = ls at hl ⊢
  have hl : lv_has ls 5 [(0, .ref h0)] := hl
  obtain ⟨hPS, hOT, hAC, hAG, hOP⟩ := id hRX
  obtain ⟨hLv, hn1, hn2, hn3, hn4, hn5⟩ := id hPS
  obtain ⟨vo, hv1, hv2, evo⟩ := hOP (os - 1) (by omega)
  have hwl : ∀ c, ws St 0 on c = ws St 0 (on - 1) c + toc (St (on - 1)) c := ws_last (by omega)
  have hwm : ∀ c, ws St 0 (on - 1) c = ws St 0 (on - 1 - 1) c + toc (St (on - 1 - 1)) c := ws_last (by omega)
  have hw2 : on - 1 - 1 = on - 2 := by omega
  rw [hw2] at hwm
  refine lv_aload_n hx hb d_MO_reduce_0 rfl (lv_at hl 0 rfl) ?_
  refine lv_dup hx hb d_MO_reduce_1 rfl ?_
  refine va_get (D := D) (ci := 8) (v := .int (nI os)) (C := rn_MO) (T := fl_MO) (N := 55) hx hb hG in_MO hown hK hP 0 rfl rfl 18 (by decide) (hG _ k_1209) (fun _ h9 => h9) rfl d_MO_reduce_2 ?_
  refine lv_iconst (v := 1) hx hb d_MO_reduce_5 (by decide) ?_
  refine lw_isub (a := os) (b := 1) hx hb d_MO_reduce_6 (by omega) ?_
  refine va_put (D := D) (ci := 8) (v := .int (nI (os - 1))) (ty := .int) (C := rn_MO) (T := fl_MO) (N := 55) hx hb hG in_MO tt_MO tk_MO nn_MO hown hK hP hD hS 0 rfl rfl 18 (by decide) (hG _ k_1209) (fun _ h9 => h9) rfl (by decide +kernel) rfl rfl (Nat.le_of_ble_eq_true rfl) d_MO_reduce_7 (fun H locs hP hD hS => ?_)
  have hP : va_P D classes [(h0, .inr (8, mS f tn rm ln lx at_ bd fs dp on (os - 1) bn df th tp mo_ ev ss so lk rs pt ot cl)), ((f 3), .inl (cL, 2000, .inr (.inl le))), ((f 4), .inl (cL, 2000, .inr (.inl ri))), ((f 14), .inl (cL, 120, .inr (.inl opd))), ((f 5), .inl (cI, 2000, .inl fr)), ((f 9), .inl (cI, 9, .inl srt)), ((f 10), .inl (cI, 9, .inl bas)), ((f 11), .inl (cI, 9, .inl fst)), ((f 15), .inl (cI, 120, .inl opr)), ((f 12), .inl (cZ, 9, .inl rdy))] H := hP
  have hD : va_D A [(h0, .inr (8, mS f tn rm ln lx at_ bd fs dp on (os - 1) bn df th tp mo_ ev ss so lk rs pt ot cl)), ((f 3), .inl (cL, 2000, .inr (.inl le))), ((f 4), .inl (cL, 2000, .inr (.inl ri))), ((f 14), .inl (cL, 120, .inr (.inl opd))), ((f 5), .inl (cI, 2000, .inl fr)), ((f 9), .inl (cI, 9, .inl srt)), ((f 10), .inl (cI, 9, .inl bas)), ((f 11), .inl (cI, 9, .inl fst)), ((f 15), .inl (cI, 120, .inl opr)), ((f 12), .inl (cZ, 9, .inl rdy))] := hD
  refine lv_aload_n hx hb d_MO_reduce_10 rfl (lv_at hl 0 rfl) ?_
  refine em_call (wr := [((f 3), .inl (cL, 2000, .inr (.inl le))), ((f 4), .inl (cL, 2000, .inr (.inl ri))), ((f 5), .inl (cI, 2000, .inl fr)), ((f 9), .inl (cI, 9, .inl srt)), ((f 10), .inl (cI, 9, .inl bas)), ((f 11), .inl (cI, 9, .inl fst)), ((f 15), .inl (cI, 120, .inl opr)), ((f 12), .inl (cZ, 9, .inl rdy))]) (em_runV (As := []) (rest := []) ⟨hx, hb, hml, hown, hG⟩ (mo_pop l D cI cL cZ cC f h0 tn rm ln lx at_ bd fs dp on (os - 1) bn df th tp mo_ ev ss so lk rs pt ot cl opd _ (by first | assumption | omega | exact Or.inl rfl) (by first | assumption | omega | exact Or.inl rfl) hnt) (cwV 0 hG (gd_V k_1453 k_1455 k_66 k_116 k_1456) rfl rfl rfl (by decide +kernel) ⟨Nat.le_of_ble_eq_true rfl, Nat.le_of_ble_eq_true rfl⟩) (tw_V (q0 := 0) hP hD hK hE hst hS rfl rfl [0, 3] rfl (by decide)) rfl rfl hl.1 rfl (lv_room (Nat.le_of_ble_eq_true rfl)) d_MO_reduce_11 ⟨Nat.le_of_ble_eq_true rfl, Nat.le_of_ble_eq_true rfl⟩) hP hD hS hA [0, 3] [1, 2, 4, 5, 6, 7, 8, 9] rfl rfl (by decide) (by decide) (fun v u H locs hok hP hD hS => ?_) (fun x C u H locs hbad hxx hP hD hS => ?_)
  · skip
    obtain ⟨on_1, rfl⟩ : ∃ z, z = u := ⟨_, rfl⟩
    obtain ⟨r_2, rfl, hp_3⟩ := hok
    obtain ⟨hpn_4, hres_5⟩ : (on_1 = on - 1) ∧ (r_2 = opd (on - 1)) := hp_3
    subst hres_5
    have hP : va_P D classes [((f 3), .inl (cL, 2000, .inr (.inl le))), ((f 4), .inl (cL, 2000, .inr (.inl ri))), ((f 5), .inl (cI, 2000, .inl fr)), ((f 9), .inl (cI, 9, .inl srt)), ((f 10), .inl (cI, 9, .inl bas)), ((f 11), .inl (cI, 9, .inl fst)), ((f 15), .inl (cI, 120, .inl opr)), ((f 12), .inl (cZ, 9, .inl rdy)), (h0, .inr (8, mS f tn rm ln lx at_ bd fs dp on_1 (os - 1) bn df th tp mo_ ev ss so lk rs pt ot cl)), ((f 14), .inl (cL, 120, .inr (.inl opd)))] H := hP
    have hD : va_D A [((f 3), .inl (cL, 2000, .inr (.inl le))), ((f 4), .inl (cL, 2000, .inr (.inl ri))), ((f 5), .inl (cI, 2000, .inl fr)), ((f 9), .inl (cI, 9, .inl srt)), ((f 10), .inl (cI, 9, .inl bas)), ((f 11), .inl (cI, 9, .inl fst)), ((f 15), .inl (cI, 120, .inl opr)), ((f 12), .inl (cZ, 9, .inl rdy)), (h0, .inr (8, mS f tn rm ln lx at_ bd fs dp on_1 (os - 1) bn df th tp mo_ ev ss so lk rs pt ot cl)), ((f 14), .inl (cL, 120, .inr (.inl opd)))] := hD
    refine W.eq (g2 := F0 m 14 ls [.long (opd (on - 1))]) rfl ?_
    refine lv_lstore_n (lv' := [(1, .long (opd (on - 1))), (0, .ref h0)]) hx hb d_MO_reduce_14 rfl hl (Nat.le_of_ble_eq_true rfl) rfl (fun ls hl => ?_)
    refine lv_aload_n hx hb d_MO_reduce_15 rfl (lv_at hl 1 rfl) ?_
    refine em_call (wr := [((f 3), .inl (cL, 2000, .inr (.inl le))), ((f 4), .inl (cL, 2000, .inr (.inl ri))), ((f 5), .inl (cI, 2000, .inl fr)), ((f 9), .inl (cI, 9, .inl srt)), ((f 10), .inl (cI, 9, .inl bas)), ((f 11), .inl (cI, 9, .inl fst)), ((f 15), .inl (cI, 120, .inl opr)), ((f 12), .inl (cZ, 9, .inl rdy))]) (em_runV (As := []) (rest := []) ⟨hx, hb, hml, hown, hG⟩ (mo_pop l D cI cL cZ cC f h0 tn rm ln lx at_ bd fs dp on_1 (os - 1) bn df th tp mo_ ev ss so lk rs pt ot cl opd _ (by first | assumption | omega | exact Or.inl rfl) (by first | assumption | omega | exact Or.inl rfl) hnt) (cwV 0 hG (gd_V k_1453 k_1455 k_66 k_116 k_1456) rfl rfl rfl (by decide +kernel) ⟨Nat.le_of_ble_eq_true rfl, Nat.le_of_ble_eq_true rfl⟩) (tw_V (q0 := 8) hP hD hK hE hst hS rfl rfl [8, 9] rfl (by decide)) rfl rfl hl.1 rfl (lv_room (Nat.le_of_ble_eq_true rfl)) d_MO_reduce_16 ⟨Nat.le_of_ble_eq_true rfl, Nat.le_of_ble_eq_true rfl⟩) hP hD hS hA [8, 9] [0, 1, 2, 3, 4, 5, 6, 7] rfl rfl (by decide) (by decide) (fun v u H locs hok hP hD hS => ?_) (fun x C u H locs hbad hxx hP hD hS => ?_)
    · skip
      obtain ⟨on_6, rfl⟩ : ∃ z, z = u := ⟨_, rfl⟩
      obtain ⟨r_7, rfl, hp_8⟩ := hok
      obtain ⟨hpn_9, hres_10⟩ : (on_6 = on_1 - 1) ∧ (r_7 = opd (on_1 - 1)) := hp_8
      subst hres_10
      have hP : va_P D classes [((f 3), .inl (cL, 2000, .inr (.inl le))), ((f 4), .inl (cL, 2000, .inr (.inl ri))), ((f 5), .inl (cI, 2000, .inl fr)), ((f 9), .inl (cI, 9, .inl srt)), ((f 10), .inl (cI, 9, .inl bas)), ((f 11), .inl (cI, 9, .inl fst)), ((f 15), .inl (cI, 120, .inl opr)), ((f 12), .inl (cZ, 9, .inl rdy)), (h0, .inr (8, mS f tn rm ln lx at_ bd fs dp on_6 (os - 1) bn df th tp mo_ ev ss so lk rs pt ot cl)), ((f 14), .inl (cL, 120, .inr (.inl opd)))] H := hP
      have hD : va_D A [((f 3), .inl (cL, 2000, .inr (.inl le))), ((f 4), .inl (cL, 2000, .inr (.inl ri))), ((f 5), .inl (cI, 2000, .inl fr)), ((f 9), .inl (cI, 9, .inl srt)), ((f 10), .inl (cI, 9, .inl bas)), ((f 11), .inl (cI, 9, .inl fst)), ((f 15), .inl (cI, 120, .inl opr)), ((f 12), .inl (cZ, 9, .inl rdy)), (h0, .inr (8, mS f tn rm ln lx at_ bd fs dp on_6 (os - 1) bn df th tp mo_ ev ss so lk rs pt ot cl)), ((f 14), .inl (cL, 120, .inr (.inl opd)))] := hD
      refine W.eq (g2 := F0 m 19 ls [.long (opd (on_1 - 1))]) rfl ?_
      have hpw : opd (on_1 - 1) = opd (on - 2) := by rw [hpn_4]; exact congrArg opd (by omega)
      refine W.eq (g2 := F0 m 19 ls [.long (opd (on - 2))]) (by rw [hpw]) ?_
      refine lv_lstore_n (lv' := [(3, .long (opd (on - 2))), (1, .long (opd (on - 1))), (0, .ref h0)]) hx hb d_MO_reduce_19 rfl hl (Nat.le_of_ble_eq_true rfl) rfl (fun ls hl => ?_)
      refine lv_aload_n hx hb d_MO_reduce_20 rfl (lv_at hl 2 rfl) ?_
      refine lv_aload_n hx hb d_MO_reduce_21 rfl (lv_at hl 2 rfl) ?_
      refine lv_aload_n hx hb d_MO_reduce_22 rfl (lv_at hl 2 rfl) ?_
      refine lv_aload_n hx hb d_MO_reduce_23 rfl (lv_at hl 2 rfl) ?_
      refine va_get (D := D) (ci := 8) (v := .ref (f 15)) (C := rn_MO) (T := fl_MO) (N := 55) hx hb hG in_MO hown hK hP 8 rfl rfl 26 (by decide) (hG _ k_1217) (fun _ h9 => h9) rfl d_MO_reduce_24 ?_
      refine lv_aload_n hx hb d_MO_reduce_27 rfl (lv_at hl 2 rfl) ?_
      refine va_get (D := D) (ci := 8) (v := .int (nI (os - 1))) (C := rn_MO) (T := fl_MO) (N := 55) hx hb hG in_MO hown hK hP 8 rfl rfl 18 (by decide) (hG _ k_1209) (fun _ h9 => h9) rfl d_MO_reduce_28 ?_
      refine va_iald hx hb hK hP 6 0 rfl rfl (vp_in_nI (n := os - 1) (N := 120) (by omega) (by omega)) d_MO_reduce_31 ?_
      refine W.eq (g2 := F0 m 32 ls [.int (nI vo), .ref h0, .ref h0, .ref h0]) (by rw [nI_clamp (n := os - 1) (by omega)]; rw [evo]) ?_
      refine W.callRL (W.runS (As := [.int (nI vo)]) (rest := [.ref h0, .ref h0, .ref h0]) ⟨hx, hb, hml, hown, hG⟩ (mo_constant l D cI cL cZ cC (nI vo) ) (cwS 1 hG (gd_S k_1461 k_1462 k_116 k_1463) rfl rfl rfl (by decide +kernel) ⟨Nat.le_of_ble_eq_true rfl, Nat.le_of_ble_eq_true rfl⟩) (wq_S hP hK [] rfl) rfl rfl hl.1 rfl (lv_room (Nat.le_of_ble_eq_true rfl)) d_MO_reduce_32 ⟨Nat.le_of_ble_eq_true rfl, Nat.le_of_ble_eq_true rfl⟩) ?_
      refine W.eq (g2 := F0 m 35 ls [.long (wof 2 (nI vo)), .ref h0, .ref h0, .ref h0]) rfl ?_
      refine lv_lload_n hx hb d_MO_reduce_35 rfl (lv_at hl 0 rfl) ?_
      refine em_call (wr := [((f 9), .inl (cI, 9, .inl srt)), ((f 10), .inl (cI, 9, .inl bas)), ((f 11), .inl (cI, 9, .inl fst)), ((f 15), .inl (cI, 120, .inl opr)), ((f 12), .inl (cZ, 9, .inl rdy)), ((f 14), .inl (cL, 120, .inr (.inl opd)))]) (em_runV (As := [.long (wof 2 (nI vo)), .long (opd (on - 2))]) (rest := [.ref h0, .ref h0]) ⟨hx, hb, hml, hown, hG⟩ (mo_apply l D cI cL cZ cC f h0 tn rm ln lx at_ bd fs dp on_6 (os - 1) bn df th tp mo_ ev ss so lk rs pt ot cl le ri fr (Lean.RArray.leaf (wof 2 (nI vo))) (St (on - 2)) (Q bn) (wof 2 (nI vo)) (opd (on - 2)) _ hfr (rep_lf (by rw [wkind_of]; decide)) (hOT (on - 2) (by omega)) (by intro d; have a0 := hAC d; have a1 := hB d; have a2 := hwl d; have a3 := hwm d; have a4 := (Tr.occ_lf (wof 2 (nI vo))) d; omega) (hQ bn vo (by omega) (by omega)) (hn5 (on - 2) (by omega) (by omega)) ((hQ bn) 2 (by decide) (by decide)) (by first | assumption | omega | exact Or.inl rfl) hnt) (cwV 2 hG (gd_V k_1457 k_1459 k_67 k_116 k_1460) rfl rfl rfl (by decide +kernel) ⟨Nat.le_of_ble_eq_true rfl, Nat.le_of_ble_eq_true rfl⟩) (tw_V (q0 := 8) hP hD hK hE hst hS rfl rfl [8, 0, 1, 2] rfl (by decide)) rfl rfl hl.1 rfl (lv_room (Nat.le_of_ble_eq_true rfl)) d_MO_reduce_36 ⟨Nat.le_of_ble_eq_true rfl, Nat.le_of_ble_eq_true rfl⟩) hP hD hS hA [8, 0, 1, 2] [3, 4, 5, 6, 7, 9] rfl rfl (by decide) (by decide) (fun v u H locs hok hP hD hS => ?_) (fun x C u H locs hbad hxx hP hD hS => ?_)
      · skip
        obtain ⟨bd_11, fs_12, le_13, ri_14⟩ := u
        obtain ⟨r_15, rfl, hp_16⟩ := hok
        obtain ⟨hbz_17, hbo_18, hres_19⟩ : (bd_11 = 0 → bd = 0) ∧ (bdo bd_11) ∧ (∃ T' : Tr, rep le_13 ri_14 r_15 T' ∧ okT (Q bn) T' ∧ (∀ d, fo fr fs_12 d + (toc T') d ≤ fo fr fs d + (toc (Lean.RArray.leaf (wof 2 (nI vo))) d + toc (St (on - 2)) d)) ∧ (∀ d, fo fr fs d + (toc (Lean.RArray.leaf (wof 2 (nI vo))) d + toc (St (on - 2)) d) = 0 → le_13 d = le d ∧ ri_14 d = ri d)) := hp_16
        obtain ⟨T_20, hR_21, hK_22, hF_23, hA_24⟩ := hres_19
        have hR_25 : rep le_13 ri_14 (opd (on - 1)) (St (on - 1)) := rep_fr (hOT (on - 1) (by omega)) (fun d hd => hA_24 d (by have a0 := hAC d; have a1 := hB d; have a2 := hwl d; have a3 := hwm d; have a4 := (Tr.occ_lf (wof 2 (nI vo))) d; have a5 := hF_23 d; omega))
        have hP : va_P D classes [((f 9), .inl (cI, 9, .inl srt)), ((f 10), .inl (cI, 9, .inl bas)), ((f 11), .inl (cI, 9, .inl fst)), ((f 15), .inl (cI, 120, .inl opr)), ((f 12), .inl (cZ, 9, .inl rdy)), ((f 14), .inl (cL, 120, .inr (.inl opd))), (h0, .inr (8, mS f tn rm ln lx at_ bd_11 fs_12 dp on_6 (os - 1) bn df th tp mo_ ev ss so lk rs pt ot cl)), ((f 3), .inl (cL, 2000, .inr (.inl le_13))), ((f 4), .inl (cL, 2000, .inr (.inl ri_14))), ((f 5), .inl (cI, 2000, .inl fr))] H := hP
        have hD : va_D A [((f 9), .inl (cI, 9, .inl srt)), ((f 10), .inl (cI, 9, .inl bas)), ((f 11), .inl (cI, 9, .inl fst)), ((f 15), .inl (cI, 120, .inl opr)), ((f 12), .inl (cZ, 9, .inl rdy)), ((f 14), .inl (cL, 120, .inr (.inl opd))), (h0, .inr (8, mS f tn rm ln lx at_ bd_11 fs_12 dp on_6 (os - 1) bn df th tp mo_ ev ss so lk rs pt ot cl)), ((f 3), .inl (cL, 2000, .inr (.inl le_13))), ((f 4), .inl (cL, 2000, .inr (.inl ri_14))), ((f 5), .inl (cI, 2000, .inl fr))] := hD
        refine W.eq (g2 := F0 m 39 ls [.long r_15, .ref h0, .ref h0]) rfl ?_
        refine lv_lload_n hx hb d_MO_reduce_39 rfl (lv_at hl 1 rfl) ?_
        refine em_call (wr := [((f 9), .inl (cI, 9, .inl srt)), ((f 10), .inl (cI, 9, .inl bas)), ((f 11), .inl (cI, 9, .inl fst)), ((f 15), .inl (cI, 120, .inl opr)), ((f 12), .inl (cZ, 9, .inl rdy)), ((f 14), .inl (cL, 120, .inr (.inl opd)))]) (em_runV (As := [.long r_15, .long (opd (on - 1))]) (rest := [.ref h0]) ⟨hx, hb, hml, hown, hG⟩ (mo_apply l D cI cL cZ cC f h0 tn rm ln lx at_ bd_11 fs_12 dp on_6 (os - 1) bn df th tp mo_ ev ss so lk rs pt ot cl le_13 ri_14 fr T_20 (St (on - 1)) (Q bn) r_15 (opd (on - 1)) _ hfr hR_21 hR_25 (by intro d; have a0 := hAC d; have a1 := hB d; have a2 := hwl d; have a3 := hwm d; have a4 := (Tr.occ_lf (wof 2 (nI vo))) d; have a5 := hF_23 d; omega) hK_22 (hn5 (on - 1) (by omega) (by omega)) ((hQ bn) 2 (by decide) (by decide)) (by first | assumption | omega | exact Or.inl rfl) hnt) (cwV 2 hG (gd_V k_1457 k_1459 k_67 k_116 k_1460) rfl rfl rfl (by decide +kernel) ⟨Nat.le_of_ble_eq_true rfl, Nat.le_of_ble_eq_true rfl⟩) (tw_V (q0 := 6) hP hD hK hE hst hS rfl rfl [6, 7, 8, 9] rfl (by decide)) rfl rfl hl.1 rfl (lv_room (Nat.le_of_ble_eq_true rfl)) d_MO_reduce_40 ⟨Nat.le_of_ble_eq_true rfl, Nat.le_of_ble_eq_true rfl⟩) hP hD hS hA [6, 7, 8, 9] [0, 1, 2, 3, 4, 5] rfl rfl (by decide) (by decide) (fun v u H locs hok hP hD hS => ?_) (fun x C u H locs hbad hxx hP hD hS => ?_)
        · skip
          obtain ⟨bd_26, fs_27, le_28, ri_29⟩ := u
          obtain ⟨r_30, rfl, hp_31⟩ := hok
          obtain ⟨hbz_32, hbo_33, hres_34⟩ : (bd_26 = 0 → bd_11 = 0) ∧ (bdo bd_26) ∧ (∃ T' : Tr, rep le_28 ri_29 r_30 T' ∧ okT (Q bn) T' ∧ (∀ d, fo fr fs_27 d + (toc T') d ≤ fo fr fs_12 d + (toc T_20 d + toc (St (on - 1)) d)) ∧ (∀ d, fo fr fs_12 d + (toc T_20 d + toc (St (on - 1)) d) = 0 → le_28 d = le_13 d ∧ ri_29 d = ri_14 d)) := hp_31
          obtain ⟨T_35, hR_36, hK_37, hF_38, hA_39⟩ := hres_34
          have hP : va_P D classes [((f 9), .inl (cI, 9, .inl srt)), ((f 10), .inl (cI, 9, .inl bas)), ((f 11), .inl (cI, 9, .inl fst)), ((f 15), .inl (cI, 120, .inl opr)), ((f 12), .inl (cZ, 9, .inl rdy)), ((f 14), .inl (cL, 120, .inr (.inl opd))), (h0, .inr (8, mS f tn rm ln lx at_ bd_26 fs_27 dp on_6 (os - 1) bn df th tp mo_ ev ss so lk rs pt ot cl)), ((f 3), .inl (cL, 2000, .inr (.inl le_28))), ((f 4), .inl (cL, 2000, .inr (.inl ri_29))), ((f 5), .inl (cI, 2000, .inl fr))] H := hP
          have hD : va_D A [((f 9), .inl (cI, 9, .inl srt)), ((f 10), .inl (cI, 9, .inl bas)), ((f 11), .inl (cI, 9, .inl fst)), ((f 15), .inl (cI, 120, .inl opr)), ((f 12), .inl (cZ, 9, .inl rdy)), ((f 14), .inl (cL, 120, .inr (.inl opd))), (h0, .inr (8, mS f tn rm ln lx at_ bd_26 fs_27 dp on_6 (os - 1) bn df th tp mo_ ev ss so lk rs pt ot cl)), ((f 3), .inl (cL, 2000, .inr (.inl le_28))), ((f 4), .inl (cL, 2000, .inr (.inl ri_29))), ((f 5), .inl (cI, 2000, .inl fr))] := hD
          refine W.eq (g2 := F0 m 43 ls [.long r_30, .ref h0]) rfl ?_
          refine em_call (wr := [((f 9), .inl (cI, 9, .inl srt)), ((f 10), .inl (cI, 9, .inl bas)), ((f 11), .inl (cI, 9, .inl fst)), ((f 15), .inl (cI, 120, .inl opr)), ((f 12), .inl (cZ, 9, .inl rdy)), ((f 3), .inl (cL, 2000, .inr (.inl le_28))), ((f 4), .inl (cL, 2000, .inr (.inl ri_29))), ((f 5), .inl (cI, 2000, .inl fr))]) (em_runV (As := [.long r_30]) (rest := []) ⟨hx, hb, hml, hown, hG⟩ (mo_push l D cI cL cZ cC f h0 tn rm ln lx at_ bd_26 fs_27 dp on_6 (os - 1) bn df th tp mo_ ev ss so lk rs pt ot cl opd r_30 _ (by first | assumption | omega | exact Or.inl rfl) hnt) (cwV 1 hG (gd_V k_1464 k_1466 k_68 k_116 k_1467) rfl rfl rfl (by decide +kernel) ⟨Nat.le_of_ble_eq_true rfl, Nat.le_of_ble_eq_true rfl⟩) (tw_V (q0 := 6) hP hD hK hE hst hS rfl rfl [6, 5] rfl (by decide)) rfl rfl hl.1 rfl (lv_room (Nat.le_of_ble_eq_true rfl)) d_MO_reduce_43 ⟨Nat.le_of_ble_eq_true rfl, Nat.le_of_ble_eq_true rfl⟩) hP hD hS hA [6, 5] [0, 1, 2, 3, 4, 7, 8, 9] rfl rfl (by decide) (by decide) (fun v u H locs hok hP hD hS => ?_) (fun x C u H locs hbad hxx hP hD hS => ?_)
          · skip
            obtain ⟨on_40, opd_41⟩ := u
            obtain ⟨rfl, hp_43⟩ := hok
            obtain ⟨hpo_44, hpn_45⟩ : (opd_41 = vp_updL opd on_6 r_30) ∧ (on_40 = on_6 + 1) := hp_43
            have hP : va_P D classes [((f 9), .inl (cI, 9, .inl srt)), ((f 10), .inl (cI, 9, .inl bas)), ((f 11), .inl (cI, 9, .inl fst)), ((f 15), .inl (cI, 120, .inl opr)), ((f 12), .inl (cZ, 9, .inl rdy)), ((f 3), .inl (cL, 2000, .inr (.inl le_28))), ((f 4), .inl (cL, 2000, .inr (.inl ri_29))), ((f 5), .inl (cI, 2000, .inl fr)), (h0, .inr (8, mS f tn rm ln lx at_ bd_26 fs_27 dp on_40 (os - 1) bn df th tp mo_ ev ss so lk rs pt ot cl)), ((f 14), .inl (cL, 120, .inr (.inl opd_41)))] H := hP
            have hD : va_D A [((f 9), .inl (cI, 9, .inl srt)), ((f 10), .inl (cI, 9, .inl bas)), ((f 11), .inl (cI, 9, .inl fst)), ((f 15), .inl (cI, 120, .inl opr)), ((f 12), .inl (cZ, 9, .inl rdy)), ((f 3), .inl (cL, 2000, .inr (.inl le_28))), ((f 4), .inl (cL, 2000, .inr (.inl ri_29))), ((f 5), .inl (cI, 2000, .inl fr)), (h0, .inr (8, mS f tn rm ln lx at_ bd_26 fs_27 dp on_40 (os - 1) bn df th tp mo_ ev ss so lk rs pt ot cl)), ((f 14), .inl (cL, 120, .inr (.inl opd_41)))] := hD
            refine W.eq (g2 := F0 m 46 ls []) rfl ?_
            exact em_vret hx hb hr hlocks hP hD hK hS (bd_26, fs_27, on_40, os - 1, le_28, ri_29, opd_41) [8, 5, 6, 9, 7, 0, 1, 2, 3, 4] (by decide) rfl ⟨rfl, ⟨(show bd_26 = 0 → bd = 0 from (by first | exact id | exact (fun q => absurd q (by assumption)) | exact (fun q => hbz_17 (hbz_32 q)))), (show bdo bd_26 from (by first | assumption | omega | exact Or.inl rfl)), (show on_40 = on - 1 from (by first | assumption | omega | exact Or.inl rfl)), (show (os - 1) = os - 1 from (by first | assumption | omega | exact Or.inl rfl)), (show ∃ St' : Nat → Tr, RX Bc le0 ri0 Q b0 srt bas fst rdy opr opd_41 le_28 ri_29 fr fs_27 on_40 (os - 1) bn St' (dp - 1) m1 ob 1 from (by have hz : on_6 = on - 2 := (by omega); have hz2 : on_40 = on - 1 := (by omega); rw [hz2, hpo_44, hz]; exact RX_red hB hRX (by omega) hR_36 hK_37 (fun c => by show _ ≤ _ + (toc (St (on - 2)) c + toc (St (on - 1)) c); have a0 := hAC c; have a1 := hB c; have a2 := hwl c; have a3 := hwm c; have a4 := (Tr.occ_lf (wof 2 (nI vo))) c; have a5 := hF_23 c; have a6 := hF_38 c; omega) (fun c hc => by have hc : _ + (toc (St (on - 2)) c + toc (St (on - 1)) c) = 0 := hc; have a0 := hAC c; have a1 := hB c; have a2 := hwl c; have a3 := hwm c; have a4 := (Tr.occ_lf (wof 2 (nI vo))) c; have a5 := hF_23 c; have a6 := hF_38 c; have g0 := hA_24 c (by omega); have g1 := hA_39 c (by omega); exact ⟨by rw [g1.1, g0.1], by rw [g1.2, g0.2]⟩)))⟩⟩ d_MO_reduce_46
          · skip
            exact hbad.elim
        · skip
          exact hbad.elim
      · skip
        exact hbad.elim
    · skip
      exact hbad.elim
  · skip
    exact hbad.elim
