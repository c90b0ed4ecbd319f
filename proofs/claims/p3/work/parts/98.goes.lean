set_option maxHeartbeats 8000000 in
set_option maxRecDepth 100000 in
theorem mo_eval0 (l : Launch) (D : va_G) (cI cL cZ cC : ClassId) (f : Nat → Nat) (h0 : Nat) (tn : Int32) (rm : Nat) (ln : Nat) (lx : Nat) (at_ : Nat) (bd : Int32) (fs : Nat) (dp : Nat) (on : Nat) (os : Nat) (bn : Nat) (df : Nat) (th : Int32) (tp : Nat) (mo_ : Int32) (ev : Nat) (ss : Int32) (so : Int32) (lk : Int64) (rs : Int64) (pt : Int32) (ot : Nat) (cl : Int32) (bss : Nat → Int32) (wts : Nat → Int32) (snd : Nat → Int32) (nbr : Nat → Int32) (a : Nat) (t : Int64) (v : Int32) (sz : Nat) (hsnd : bln snd) (hak1 : 10 ≤ a) (hak2 : a ≤ 20) (hak3 : a ≠ 16) (hak4 : a ≠ 17) (hsl : me bss wts ev tp (nd a)) (hev : ev ≤ 40) (hnt : l.stackTraces = false) : em_Met l y_MO_evaluate (wz y_MO_evaluate b_MO_evaluate 6 none) ({ frames := 0, cells := 0, slots := 0, locals := 0 }) (va_Pc [.ref h0, .int (nI a), .long t, .int 0, .int v] (tw_pre D (tys4 cI cL cZ cC) [(h0, .inr (8, mS f tn rm ln lx at_ bd fs dp on os bn df th tp mo_ ev ss so lk rs pt ot cl)), ((f 25), .inl (cI, 41, .inl bss)), ((f 26), .inl (cI, 41, .inl wts)), ((f 27), .inl (cZ, 41, .inl snd)), ((f 28), .inl (cI, 41, .inl nbr))] sz)) D (tys4 cI cL cZ cC) (va_A [(h0, .inr (8, mS f tn rm ln lx at_ bd fs dp on os bn df th tp mo_ ev ss so lk rs pt ot cl)), ((f 25), .inl (cI, 41, .inl bss)), ((f 26), .inl (cI, 41, .inl wts)), ((f 27), .inl (cZ, 41, .inl snd)), ((f 28), .inl (cI, 41, .inl nbr))] sz) (fun (u : Int32 × Nat × Int64 × (Nat → Int32) × (Nat → Int32) × (Nat → Int32) × (Nat → Int32)) => [(h0, .inr (8, mS f tn rm ln lx at_ bd fs dp on os bn df th tp mo_ u.2.1 ss u.1 u.2.2.1 rs pt ot cl)), ((f 25), .inl (cI, 41, .inl u.2.2.2.1)), ((f 26), .inl (cI, 41, .inl u.2.2.2.2.1)), ((f 27), .inl (cZ, 41, .inl u.2.2.2.2.2.1)), ((f 28), .inl (cI, 41, .inl u.2.2.2.2.2.2))]) (fun v (u : Int32 × Nat × Int64 × (Nat → Int32) × (Nat → Int32) × (Nat → Int32) × (Nat → Int32)) => v = none ∧ ((bln u.2.2.2.2.2.1) ∧ (me u.2.2.2.1 u.2.2.2.2.1 u.2.1 tp 0) ∧ (u.2.1 ≤ 40) ∧ (((¬ u.1 = 0 ∧ u.2.1 = ev ∧ u.2.2.1 = lk) ∨ (u.1 = so ∧ u.2.1 = ev + 1 ∧ u.2.2.1 = t ∧ fz u.2.2.2.2.2.1 u.2.1 = fz snd ev + 1))))) (fun C (u : Int32 × Nat × Int64 × (Nat → Int32) × (Nat → Int32) × (Nat → Int32) × (Nat → Int32)) => False) 0 0 := by
  refine em_Met.ofW (cc := b_MO_evaluate) (maxL := 6) (ret := none) (by decide) rfl ?_
  intro p e s m args below meth c s₁ B hml hv hno
  obtain ⟨rfl, ⟨hsz, hP, hK, hD0⟩, hE⟩ := hv
  have hx := B.exec
  have hb := B.bytes
  have hr := B.returns
  have hts := atoms_spec (ws := wz y_MO_evaluate b_MO_evaluate 6 none) B.pre
  have hG := wz_G hts
  have hown : s.vm.findClass rn_MO = some m.cls := findClass_of_methodNamed B.named
  have hlocks := B.notSynchronized
  subst hsz
  have hD := hD0.self (sz := s.heap.size)
  have hst := tw_st hP
  generalize hAe : va_A [(h0, .inr (8, mS f tn rm ln lx at_ bd fs dp on os bn df th tp mo_ ev ss so lk rs pt ot cl)), ((f 25), .inl (cI, 41, .inl bss)), ((f 26), .inl (cI, 41, .inl wts)), ((f 27), .inl (cZ, 41, .inl snd)), ((f 28), .inl (cI, 41, .inl nbr))] s.heap.size = A at hD hst ⊢
  have hA : ∀ q : Nat, s.heap.size ≤ q → A q := fun q h => by rw [← hAe]; exact Or.inr h
  have hS : va_S A s.heap s.heap [] := va_S.rf
  have hl := lv_entry ([.ref h0, .int (nI a), .long t, .int 0, .int v]) (n := 6) (Nat.le_of_ble_eq_true rfl)
  rw [lg_entry_eq]
  generalize (lg_sl ([.ref h0, .int (nI a), .long t, .int 0, .int v]) ++ List.replicate (6 - (lg_sl ([.ref h0, .int (nI a), .long t, .int 0, .int v])).length) Slot.unset).toArray = ls at hl ⊢
  have hl : lv_has ls 6 [(0, .ref h0), (1, .int (nI a)), (2, .long t), (4, .int 0), (5, .int v)] := hl
  refine lv_aload_n hx hb d_MO_evaluate_0 rfl (lv_at hl 0 rfl) ?_
  refine va_get (D := D) (ci := 8) (v := .int (nI ev)) (C := rn_MO) (T := fl_MO) (N := 55) hx hb hG in_MO hown hK hP 0 rfl rfl 40 (by decide) (hG _ k_1231) (fun _ h9 => h9) rfl d_MO_evaluate_1 ?_
  refine lv_bipush (v := 40) hx hb d_MO_evaluate_4 (by decide) ?_
  refine lv_icmp_ne (tgt := 15) hx hb d_MO_evaluate_6 (by decide) (fun hb_1 => ?_) (fun hb_1 => ?_)
  · skip
    have hn_2 : ¬ ev = 40 := fun h => hb_1 ((nI_eq (a := ev) (b := 40) (by omega) (by omega)).mpr h)
    refine lv_aload_n hx hb d_MO_evaluate_15 rfl (lv_at hl 0 rfl) ?_
    refine va_get (D := D) (ci := 8) (v := .ref (f 25)) (C := rn_MO) (T := fl_MO) (N := 55) hx hb hG in_MO hown hK hP 0 rfl rfl 43 (by decide) (hG _ k_1234) (fun _ h9 => h9) rfl d_MO_evaluate_16 ?_
    refine lv_aload_n hx hb d_MO_evaluate_19 rfl (lv_at hl 0 rfl) ?_
    refine va_get (D := D) (ci := 8) (v := .int (nI ev)) (C := rn_MO) (T := fl_MO) (N := 55) hx hb hG in_MO hown hK hP 0 rfl rfl 40 (by decide) (hG _ k_1231) (fun _ h9 => h9) rfl d_MO_evaluate_20 ?_
    refine lv_aload_n hx hb d_MO_evaluate_23 rfl (lv_at hl 0 rfl) ?_
    refine va_get (D := D) (ci := 8) (v := .int (nI tp)) (C := rn_MO) (T := fl_MO) (N := 55) hx hb hG in_MO hown hK hP 0 rfl rfl 38 (by decide) (hG _ k_1229) (fun _ h9 => h9) rfl d_MO_evaluate_24 ?_
    refine va_iast hx hb hK hP hD hS 1 0 rfl rfl (vp_in_nI (n := ev) (N := 41) (by omega) (by omega)) d_MO_evaluate_27 (fun H locs hP hD hS => ?_)
    have hP : va_P D classes [(h0, .inr (8, mS f tn rm ln lx at_ bd fs dp on os bn df th tp mo_ ev ss so lk rs pt ot cl)), ((f 25), .inl (cI, 41, .inl (upd bss (nI ev).toNatClampNeg (nI tp)))), ((f 26), .inl (cI, 41, .inl wts)), ((f 27), .inl (cZ, 41, .inl snd)), ((f 28), .inl (cI, 41, .inl nbr))] H := hP
    have hD : va_D A [(h0, .inr (8, mS f tn rm ln lx at_ bd fs dp on os bn df th tp mo_ ev ss so lk rs pt ot cl)), ((f 25), .inl (cI, 41, .inl (upd bss (nI ev).toNatClampNeg (nI tp)))), ((f 26), .inl (cI, 41, .inl wts)), ((f 27), .inl (cZ, 41, .inl snd)), ((f 28), .inl (cI, 41, .inl nbr))] := hD
    obtain ⟨g_3, eg_3⟩ : ∃ z, z = upd bss ev (nI tp) := ⟨_, rfl⟩
    rw [nI_clamp (n := ev) (by omega), ← eg_3] at hP hD
    refine lv_aload_n hx hb d_MO_evaluate_28 rfl (lv_at hl 0 rfl) ?_
    refine va_get (D := D) (ci := 8) (v := .ref (f 26)) (C := rn_MO) (T := fl_MO) (N := 55) hx hb hG in_MO hown hK hP 0 rfl rfl 44 (by decide) (hG _ k_1235) (fun _ h9 => h9) rfl d_MO_evaluate_29 ?_
    refine lv_aload_n hx hb d_MO_evaluate_32 rfl (lv_at hl 0 rfl) ?_
    refine va_get (D := D) (ci := 8) (v := .int (nI ev)) (C := rn_MO) (T := fl_MO) (N := 55) hx hb hG in_MO hown hK hP 0 rfl rfl 40 (by decide) (hG _ k_1231) (fun _ h9 => h9) rfl d_MO_evaluate_33 ?_
    refine lv_iload_n hx hb d_MO_evaluate_36 rfl (lv_at hl 1 rfl) ?_
    refine va_iast hx hb hK hP hD hS 2 0 rfl rfl (vp_in_nI (n := ev) (N := 41) (by omega) (by omega)) d_MO_evaluate_37 (fun H locs hP hD hS => ?_)
    have hP : va_P D classes [(h0, .inr (8, mS f tn rm ln lx at_ bd fs dp on os bn df th tp mo_ ev ss so lk rs pt ot cl)), ((f 25), .inl (cI, 41, .inl g_3)), ((f 26), .inl (cI, 41, .inl (upd wts (nI ev).toNatClampNeg (nI a)))), ((f 27), .inl (cZ, 41, .inl snd)), ((f 28), .inl (cI, 41, .inl nbr))] H := hP
    have hD : va_D A [(h0, .inr (8, mS f tn rm ln lx at_ bd fs dp on os bn df th tp mo_ ev ss so lk rs pt ot cl)), ((f 25), .inl (cI, 41, .inl g_3)), ((f 26), .inl (cI, 41, .inl (upd wts (nI ev).toNatClampNeg (nI a)))), ((f 27), .inl (cZ, 41, .inl snd)), ((f 28), .inl (cI, 41, .inl nbr))] := hD
    obtain ⟨g_4, eg_4⟩ : ∃ z, z = upd wts ev (nI a) := ⟨_, rfl⟩
    rw [nI_clamp (n := ev) (by omega), ← eg_4] at hP hD
    refine lv_aload_n hx hb d_MO_evaluate_38 rfl (lv_at hl 0 rfl) ?_
    refine va_get (D := D) (ci := 8) (v := .ref (f 27)) (C := rn_MO) (T := fl_MO) (N := 55) hx hb hG in_MO hown hK hP 0 rfl rfl 45 (by decide) (hG _ k_1236) (fun _ h9 => h9) rfl d_MO_evaluate_39 ?_
    refine lv_aload_n hx hb d_MO_evaluate_42 rfl (lv_at hl 0 rfl) ?_
    refine va_get (D := D) (ci := 8) (v := .int (nI ev)) (C := rn_MO) (T := fl_MO) (N := 55) hx hb hG in_MO hown hK hP 0 rfl rfl 40 (by decide) (hG _ k_1231) (fun _ h9 => h9) rfl d_MO_evaluate_43 ?_
    refine lv_iload hx hb d_MO_evaluate_46 (lv_at hl 3 rfl) ?_
    refine va_zast hx hb hK hP hD hS 3 2 rfl rfl (vp_in_nI (n := ev) (N := 41) (by omega) (by omega)) d_MO_evaluate_48 (fun H locs hP hD hS => ?_)
    have hP : va_P D classes [(h0, .inr (8, mS f tn rm ln lx at_ bd fs dp on os bn df th tp mo_ ev ss so lk rs pt ot cl)), ((f 25), .inl (cI, 41, .inl g_3)), ((f 26), .inl (cI, 41, .inl g_4)), ((f 27), .inl (cZ, 41, .inl (upd snd (nI ev).toNatClampNeg (vp_nar .boolean 0)))), ((f 28), .inl (cI, 41, .inl nbr))] H := hP
    have hD : va_D A [(h0, .inr (8, mS f tn rm ln lx at_ bd fs dp on os bn df th tp mo_ ev ss so lk rs pt ot cl)), ((f 25), .inl (cI, 41, .inl g_3)), ((f 26), .inl (cI, 41, .inl g_4)), ((f 27), .inl (cZ, 41, .inl (upd snd (nI ev).toNatClampNeg (vp_nar .boolean 0)))), ((f 28), .inl (cI, 41, .inl nbr))] := hD
    obtain ⟨g_5, eg_5⟩ : ∃ z, z = upd snd ev 0 := ⟨_, rfl⟩
    rw [nI_clamp (n := ev) (by omega), nar_b (Or.inl rfl), ← eg_5] at hP hD
    have hg_5 : bln g_5 := by rw [eg_5]; exact bln_ub hsnd (Or.inl rfl)
    refine lv_aload_n hx hb d_MO_evaluate_49 rfl (lv_at hl 0 rfl) ?_
    refine va_get (D := D) (ci := 8) (v := .ref (f 28)) (C := rn_MO) (T := fl_MO) (N := 55) hx hb hG in_MO hown hK hP 0 rfl rfl 46 (by decide) (hG _ k_1237) (fun _ h9 => h9) rfl d_MO_evaluate_50 ?_
    refine lv_aload_n hx hb d_MO_evaluate_53 rfl (lv_at hl 0 rfl) ?_
    refine va_get (D := D) (ci := 8) (v := .int (nI ev)) (C := rn_MO) (T := fl_MO) (N := 55) hx hb hG in_MO hown hK hP 0 rfl rfl 40 (by decide) (hG _ k_1231) (fun _ h9 => h9) rfl d_MO_evaluate_54 ?_
    refine lv_iload hx hb d_MO_evaluate_57 (lv_at hl 4 rfl) ?_
    refine va_iast hx hb hK hP hD hS 4 0 rfl rfl (vp_in_nI (n := ev) (N := 41) (by omega) (by omega)) d_MO_evaluate_59 (fun H locs hP hD hS => ?_)
    have hP : va_P D classes [(h0, .inr (8, mS f tn rm ln lx at_ bd fs dp on os bn df th tp mo_ ev ss so lk rs pt ot cl)), ((f 25), .inl (cI, 41, .inl g_3)), ((f 26), .inl (cI, 41, .inl g_4)), ((f 27), .inl (cZ, 41, .inl g_5)), ((f 28), .inl (cI, 41, .inl (upd nbr (nI ev).toNatClampNeg v)))] H := hP
    have hD : va_D A [(h0, .inr (8, mS f tn rm ln lx at_ bd fs dp on os bn df th tp mo_ ev ss so lk rs pt ot cl)), ((f 25), .inl (cI, 41, .inl g_3)), ((f 26), .inl (cI, 41, .inl g_4)), ((f 27), .inl (cZ, 41, .inl g_5)), ((f 28), .inl (cI, 41, .inl (upd nbr (nI ev).toNatClampNeg v)))] := hD
    obtain ⟨g_6, eg_6⟩ : ∃ z, z = upd nbr ev v := ⟨_, rfl⟩
    rw [nI_clamp (n := ev) (by omega), ← eg_6] at hP hD
    refine lv_aload_n hx hb d_MO_evaluate_60 rfl (lv_at hl 0 rfl) ?_
    refine lv_dup hx hb d_MO_evaluate_61 rfl ?_
    refine va_get (D := D) (ci := 8) (v := .int (nI ev)) (C := rn_MO) (T := fl_MO) (N := 55) hx hb hG in_MO hown hK hP 0 rfl rfl 40 (by decide) (hG _ k_1231) (fun _ h9 => h9) rfl d_MO_evaluate_62 ?_
    refine lv_iconst (v := 1) hx hb d_MO_evaluate_65 (by decide) ?_
    refine lw_iadd (a := ev) (b := 1) hx hb d_MO_evaluate_66 ?_
    refine va_put (D := D) (ci := 8) (v := .int (nI (ev + 1))) (ty := .int) (C := rn_MO) (T := fl_MO) (N := 55) hx hb hG in_MO tt_MO tk_MO nn_MO hown hK hP hD hS 0 rfl rfl 40 (by decide) (hG _ k_1231) (fun _ h9 => h9) rfl (by decide +kernel) rfl rfl (Nat.le_of_ble_eq_true rfl) d_MO_evaluate_67 (fun H locs hP hD hS => ?_)
    have hP : va_P D classes [(h0, .inr (8, mS f tn rm ln lx at_ bd fs dp on os bn df th tp mo_ (ev + 1) ss so lk rs pt ot cl)), ((f 25), .inl (cI, 41, .inl g_3)), ((f 26), .inl (cI, 41, .inl g_4)), ((f 27), .inl (cZ, 41, .inl g_5)), ((f 28), .inl (cI, 41, .inl g_6))] H := hP
    have hD : va_D A [(h0, .inr (8, mS f tn rm ln lx at_ bd fs dp on os bn df th tp mo_ (ev + 1) ss so lk rs pt ot cl)), ((f 25), .inl (cI, 41, .inl g_3)), ((f 26), .inl (cI, 41, .inl g_4)), ((f 27), .inl (cZ, 41, .inl g_5)), ((f 28), .inl (cI, 41, .inl g_6))] := hD
    refine lv_aload_n hx hb d_MO_evaluate_70 rfl (lv_at hl 0 rfl) ?_
    refine lv_lload_n hx hb d_MO_evaluate_71 rfl (lv_at hl 2 rfl) ?_
    refine va_put (D := D) (ci := 8) (v := .long t) (ty := .long) (C := rn_MO) (T := fl_MO) (N := 55) hx hb hG in_MO tt_MO tk_MO nn_MO hown hK hP hD hS 0 rfl rfl 47 (by decide) (hG _ k_1238) (fun _ h9 => h9) rfl (by decide +kernel) rfl rfl (Nat.le_of_ble_eq_true rfl) d_MO_evaluate_72 (fun H locs hP hD hS => ?_)
    have hP : va_P D classes [(h0, .inr (8, mS f tn rm ln lx at_ bd fs dp on os bn df th tp mo_ (ev + 1) ss so t rs pt ot cl)), ((f 25), .inl (cI, 41, .inl g_3)), ((f 26), .inl (cI, 41, .inl g_4)), ((f 27), .inl (cZ, 41, .inl g_5)), ((f 28), .inl (cI, 41, .inl g_6))] H := hP
    have hD : va_D A [(h0, .inr (8, mS f tn rm ln lx at_ bd fs dp on os bn df th tp mo_ (ev + 1) ss so t rs pt ot cl)), ((f 25), .inl (cI, 41, .inl g_3)), ((f 26), .inl (cI, 41, .inl g_4)), ((f 27), .inl (cZ, 41, .inl g_5)), ((f 28), .inl (cI, 41, .inl g_6))] := hD
    exact em_vret hx hb hr hlocks hP hD hK hS (so, ev + 1, t, g_3, g_4, g_5, g_6) [0, 1, 2, 3, 4] (by decide) rfl ⟨rfl, ⟨hg_5, (show me g_3 g_4 (ev + 1) tp 0 from (by rw [eg_3, eg_4]; exact hsl.push hak1 hak2 hak3 hak4)), (show (ev + 1) ≤ 40 from (by first | assumption | omega | exact Or.inl rfl)), (show ((¬ so = 0 ∧ (ev + 1) = ev ∧ t = lk) ∨ (so = so ∧ (ev + 1) = ev + 1 ∧ t = t ∧ fz g_5 (ev + 1) = fz snd ev + 1)) from (Or.inr ⟨rfl, rfl, rfl, by rw [eg_5]; exact fz_up0 _ _⟩))⟩⟩ d_MO_evaluate_75
  · skip
    have hn_7 : ev = 40 := (nI_eq (a := ev) (b := 40) (by omega) (by omega)).mp hb_1
    refine lv_aload_n hx hb d_MO_evaluate_9 rfl (lv_at hl 0 rfl) ?_
    refine lv_iconst (v := 4) hx hb d_MO_evaluate_10 (by decide) ?_
    refine va_put (D := D) (ci := 8) (v := .int 4) (ty := .int) (C := rn_MO) (T := fl_MO) (N := 55) hx hb hG in_MO tt_MO tk_MO nn_MO hown hK hP hD hS 0 rfl rfl 42 (by decide) (hG _ k_1233) (fun _ h9 => h9) rfl (by decide +kernel) rfl rfl (Nat.le_of_ble_eq_true rfl) d_MO_evaluate_11 (fun H locs hP hD hS => ?_)
    have hP : va_P D classes [(h0, .inr (8, mS f tn rm ln lx at_ bd fs dp on os bn df th tp mo_ ev ss 4 lk rs pt ot cl)), ((f 25), .inl (cI, 41, .inl bss)), ((f 26), .inl (cI, 41, .inl wts)), ((f 27), .inl (cZ, 41, .inl snd)), ((f 28), .inl (cI, 41, .inl nbr))] H := hP
    have hD : va_D A [(h0, .inr (8, mS f tn rm ln lx at_ bd fs dp on os bn df th tp mo_ ev ss 4 lk rs pt ot cl)), ((f 25), .inl (cI, 41, .inl bss)), ((f 26), .inl (cI, 41, .inl wts)), ((f 27), .inl (cZ, 41, .inl snd)), ((f 28), .inl (cI, 41, .inl nbr))] := hD
    exact em_vret hx hb hr hlocks hP hD hK hS (4, ev, lk, bss, wts, snd, nbr) [0, 1, 2, 3, 4] (by decide) rfl ⟨rfl, ⟨hsnd, (show me bss wts ev tp 0 from (hsl.mono (by omega))), (show ev ≤ 40 from (by first | assumption | omega | exact Or.inl rfl)), (show ((¬ 4 = 0 ∧ ev = ev ∧ lk = lk) ∨ (4 = so ∧ ev = ev + 1 ∧ lk = t ∧ fz snd ev = fz snd ev + 1)) from (Or.inl ⟨by decide, rfl, rfl⟩))⟩⟩ d_MO_evaluate_14
set_option maxHeartbeats 8000000 in
set_option maxRecDepth 100000 in
theorem mo_eval1 (l : Launch) (D : va_G) (cI cL cZ cC : ClassId) (f : Nat → Nat) (h0 : Nat) (tn : Int32) (rm : Nat) (ln : Nat) (lx : Nat) (at_ : Nat) (bd : Int32) (fs : Nat) (dp : Nat) (on : Nat) (os : Nat) (bn : Nat) (df : Nat) (th : Int32) (tp : Nat) (mo_ : Int32) (ev : Nat) (ss : Int32) (so : Int32) (lk : Int64) (rs : Int64) (pt : Int32) (ot : Nat) (cl : Int32) (bss : Nat → Int32) (wts : Nat → Int32) (snd : Nat → Int32) (nbr : Nat → Int32) (a : Nat) (t : Int64) (v : Int32) (sz : Nat) (hsnd : bln snd) (hak1 : 10 ≤ a) (hak2 : a ≤ 20) (hak3 : a ≠ 16) (hak4 : a ≠ 17) (hsl : me bss wts ev tp (nd a)) (hev : ev ≤ 40) (hnt : l.stackTraces = false) : em_Met l y_MO_evaluate (wz y_MO_evaluate b_MO_evaluate 6 none) ({ frames := 0, cells := 0, slots := 0, locals := 0 }) (va_Pc [.ref h0, .int (nI a), .long t, .int 1, .int v] (tw_pre D (tys4 cI cL cZ cC) [(h0, .inr (8, mS f tn rm ln lx at_ bd fs dp on os bn df th tp mo_ ev ss so lk rs pt ot cl)), ((f 25), .inl (cI, 41, .inl bss)), ((f 26), .inl (cI, 41, .inl wts)), ((f 27), .inl (cZ, 41, .inl snd)), ((f 28), .inl (cI, 41, .inl nbr))] sz)) D (tys4 cI cL cZ cC) (va_A [(h0, .inr (8, mS f tn rm ln lx at_ bd fs dp on os bn df th tp mo_ ev ss so lk rs pt ot cl)), ((f 25), .inl (cI, 41, .inl bss)), ((f 26), .inl (cI, 41, .inl wts)), ((f 27), .inl (cZ, 41, .inl snd)), ((f 28), .inl (cI, 41, .inl nbr))] sz) (fun (u : Int32 × Nat × Int64 × (Nat → Int32) × (Nat → Int32) × (Nat → Int32) × (Nat → Int32)) => [(h0, .inr (8, mS f tn rm ln lx at_ bd fs dp on os bn df th tp mo_ u.2.1 ss u.1 u.2.2.1 rs pt ot cl)), ((f 25), .inl (cI, 41, .inl u.2.2.2.1)), ((f 26), .inl (cI, 41, .inl u.2.2.2.2.1)), ((f 27), .inl (cZ, 41, .inl u.2.2.2.2.2.1)), ((f 28), .inl (cI, 41, .inl u.2.2.2.2.2.2))]) (fun v (u : Int32 × Nat × Int64 × (Nat → Int32) × (Nat → Int32) × (Nat → Int32) × (Nat → Int32)) => v = none ∧ ((bln u.2.2.2.2.2.1) ∧ (me u.2.2.2.1 u.2.2.2.2.1 u.2.1 tp 0) ∧ (u.2.1 ≤ 40) ∧ (((¬ u.1 = 0 ∧ u.2.1 = ev ∧ u.2.2.1 = lk) ∨ (u.1 = so ∧ u.2.1 = ev + 1 ∧ u.2.2.1 = t ∧ fz u.2.2.2.2.2.1 u.2.1 = fz snd ev))))) (fun C (u : Int32 × Nat × Int64 × (Nat → Int32) × (Nat → Int32) × (Nat → Int32) × (Nat → Int32)) => False) 0 0 := by
  refine em_Met.ofW (cc := b_MO_evaluate) (maxL := 6) (ret := none) (by decide) rfl ?_
  intro p e s m args below meth c s₁ B hml hv hno
  obtain ⟨rfl, ⟨hsz, hP, hK, hD0⟩, hE⟩ := hv
  have hx := B.exec
  have hb := B.bytes
  have hr := B.returns
  have hts := atoms_spec (ws := wz y_MO_evaluate b_MO_evaluate 6 none) B.pre
  have hG := wz_G hts
  have hown : s.vm.findClass rn_MO = some m.cls := findClass_of_methodNamed B.named
  have hlocks := B.notSynchronized
  subst hsz
  have hD := hD0.self (sz := s.heap.size)
  have hst := tw_st hP
  generalize hAe : va_A [(h0, .inr (8, mS f tn rm ln lx at_ bd fs dp on os bn df th tp mo_ ev ss so lk rs pt ot cl)), ((f 25), .inl (cI, 41, .inl bss)), ((f 26), .inl (cI, 41, .inl wts)), ((f 27), .inl (cZ, 41, .inl snd)), ((f 28), .inl (cI, 41, .inl nbr))] s.heap.size = A at hD hst ⊢
  have hA : ∀ q : Nat, s.heap.size ≤ q → A q := fun q h => by rw [← hAe]; exact Or.inr h
  have hS : va_S A s.heap s.heap [] := va_S.rf
  have hl := lv_entry ([.ref h0, .int (nI a), .long t, .int 1, .int v]) (n := 6) (Nat.le_of_ble_eq_true rfl)
  rw [lg_entry_eq]
  generalize (lg_sl ([.ref h0, .int (nI a), .long t, .int 1, .int v]) ++ List.replicate (6 - (lg_sl ([.ref h0, .int (nI a), .long t, .int 1, .int v])).length) Slot.unset).toArray = ls at hl ⊢
  have hl : lv_has ls 6 [(0, .ref h0), (1, .int (nI a)), (2, .long t), (4, .int 1), (5, .int v)] := hl
  refine lv_aload_n hx hb d_MO_evaluate_0 rfl (lv_at hl 0 rfl) ?_
  refine va_get (D := D) (ci := 8) (v := .int (nI ev)) (C := rn_MO) (T := fl_MO) (N := 55) hx hb hG in_MO hown hK hP 0 rfl rfl 40 (by decide) (hG _ k_1231) (fun _ h9 => h9) rfl d_MO_evaluate_1 ?_
  refine lv_bipush (v := 40) hx hb d_MO_evaluate_4 (by decide) ?_
  refine lv_icmp_ne (tgt := 15) hx hb d_MO_evaluate_6 (by decide) (fun hb_1 => ?_) (fun hb_1 => ?_)
  · skip
    have hn_2 : ¬ ev = 40 := fun h => hb_1 ((nI_eq (a := ev) (b := 40) (by omega) (by omega)).mpr h)
    refine lv_aload_n hx hb d_MO_evaluate_15 rfl (lv_at hl 0 rfl) ?_
    refine va_get (D := D) (ci := 8) (v := .ref (f 25)) (C := rn_MO) (T := fl_MO) (N := 55) hx hb hG in_MO hown hK hP 0 rfl rfl 43 (by decide) (hG _ k_1234) (fun _ h9 => h9) rfl d_MO_evaluate_16 ?_
    refine lv_aload_n hx hb d_MO_evaluate_19 rfl (lv_at hl 0 rfl) ?_
    refine va_get (D := D) (ci := 8) (v := .int (nI ev)) (C := rn_MO) (T := fl_MO) (N := 55) hx hb hG in_MO hown hK hP 0 rfl rfl 40 (by decide) (hG _ k_1231) (fun _ h9 => h9) rfl d_MO_evaluate_20 ?_
    refine lv_aload_n hx hb d_MO_evaluate_23 rfl (lv_at hl 0 rfl) ?_
    refine va_get (D := D) (ci := 8) (v := .int (nI tp)) (C := rn_MO) (T := fl_MO) (N := 55) hx hb hG in_MO hown hK hP 0 rfl rfl 38 (by decide) (hG _ k_1229) (fun _ h9 => h9) rfl d_MO_evaluate_24 ?_
    refine va_iast hx hb hK hP hD hS 1 0 rfl rfl (vp_in_nI (n := ev) (N := 41) (by omega) (by omega)) d_MO_evaluate_27 (fun H locs hP hD hS => ?_)
    have hP : va_P D classes [(h0, .inr (8, mS f tn rm ln lx at_ bd fs dp on os bn df th tp mo_ ev ss so lk rs pt ot cl)), ((f 25), .inl (cI, 41, .inl (upd bss (nI ev).toNatClampNeg (nI tp)))), ((f 26), .inl (cI, 41, .inl wts)), ((f 27), .inl (cZ, 41, .inl snd)), ((f 28), .inl (cI, 41, .inl nbr))] H := hP
    have hD : va_D A [(h0, .inr (8, mS f tn rm ln lx at_ bd fs dp on os bn df th tp mo_ ev ss so lk rs pt ot cl)), ((f 25), .inl (cI, 41, .inl (upd bss (nI ev).toNatClampNeg (nI tp)))), ((f 26), .inl (cI, 41, .inl wts)), ((f 27), .inl (cZ, 41, .inl snd)), ((f 28), .inl (cI, 41, .inl nbr))] := hD
    obtain ⟨g_3, eg_3⟩ : ∃ z, z = upd bss ev (nI tp) := ⟨_, rfl⟩
    rw [nI_clamp (n := ev) (by omega), ← eg_3] at hP hD
    refine lv_aload_n hx hb d_MO_evaluate_28 rfl (lv_at hl 0 rfl) ?_
    refine va_get (D := D) (ci := 8) (v := .ref (f 26)) (C := rn_MO) (T := fl_MO) (N := 55) hx hb hG in_MO hown hK hP 0 rfl rfl 44 (by decide) (hG _ k_1235) (fun _ h9 => h9) rfl d_MO_evaluate_29 ?_
    refine lv_aload_n hx hb d_MO_evaluate_32 rfl (lv_at hl 0 rfl) ?_
    refine va_get (D := D) (ci := 8) (v := .int (nI ev)) (C := rn_MO) (T := fl_MO) (N := 55) hx hb hG in_MO hown hK hP 0 rfl rfl 40 (by decide) (hG _ k_1231) (fun _ h9 => h9) rfl d_MO_evaluate_33 ?_
    refine lv_iload_n hx hb d_MO_evaluate_36 rfl (lv_at hl 1 rfl) ?_
    refine va_iast hx hb hK hP hD hS 2 0 rfl rfl (vp_in_nI (n := ev) (N := 41) (by omega) (by omega)) d_MO_evaluate_37 (fun H locs hP hD hS => ?_)
    have hP : va_P D classes [(h0, .inr (8, mS f tn rm ln lx at_ bd fs dp on os bn df th tp mo_ ev ss so lk rs pt ot cl)), ((f 25), .inl (cI, 41, .inl g_3)), ((f 26), .inl (cI, 41, .inl (upd wts (nI ev).toNatClampNeg (nI a)))), ((f 27), .inl (cZ, 41, .inl snd)), ((f 28), .inl (cI, 41, .inl nbr))] H := hP
    have hD : va_D A [(h0, .inr (8, mS f tn rm ln lx at_ bd fs dp on os bn df th tp mo_ ev ss so lk rs pt ot cl)), ((f 25), .inl (cI, 41, .inl g_3)), ((f 26), .inl (cI, 41, .inl (upd wts (nI ev).toNatClampNeg (nI a)))), ((f 27), .inl (cZ, 41, .inl snd)), ((f 28), .inl (cI, 41, .inl nbr))] := hD
    obtain ⟨g_4, eg_4⟩ : ∃ z, z = upd wts ev (nI a) := ⟨_, rfl⟩
    rw [nI_clamp (n := ev) (by omega), ← eg_4] at hP hD
    refine lv_aload_n hx hb d_MO_evaluate_38 rfl (lv_at hl 0 rfl) ?_
    refine va_get (D := D) (ci := 8) (v := .ref (f 27)) (C := rn_MO) (T := fl_MO) (N := 55) hx hb hG in_MO hown hK hP 0 rfl rfl 45 (by decide) (hG _ k_1236) (fun _ h9 => h9) rfl d_MO_evaluate_39 ?_
    refine lv_aload_n hx hb d_MO_evaluate_42 rfl (lv_at hl 0 rfl) ?_
    refine va_get (D := D) (ci := 8) (v := .int (nI ev)) (C := rn_MO) (T := fl_MO) (N := 55) hx hb hG in_MO hown hK hP 0 rfl rfl 40 (by decide) (hG _ k_1231) (fun _ h9 => h9) rfl d_MO_evaluate_43 ?_
    refine lv_iload hx hb d_MO_evaluate_46 (lv_at hl 3 rfl) ?_
    refine va_zast hx hb hK hP hD hS 3 2 rfl rfl (vp_in_nI (n := ev) (N := 41) (by omega) (by omega)) d_MO_evaluate_48 (fun H locs hP hD hS => ?_)
    have hP : va_P D classes [(h0, .inr (8, mS f tn rm ln lx at_ bd fs dp on os bn df th tp mo_ ev ss so lk rs pt ot cl)), ((f 25), .inl (cI, 41, .inl g_3)), ((f 26), .inl (cI, 41, .inl g_4)), ((f 27), .inl (cZ, 41, .inl (upd snd (nI ev).toNatClampNeg (vp_nar .boolean 1)))), ((f 28), .inl (cI, 41, .inl nbr))] H := hP
    have hD : va_D A [(h0, .inr (8, mS f tn rm ln lx at_ bd fs dp on os bn df th tp mo_ ev ss so lk rs pt ot cl)), ((f 25), .inl (cI, 41, .inl g_3)), ((f 26), .inl (cI, 41, .inl g_4)), ((f 27), .inl (cZ, 41, .inl (upd snd (nI ev).toNatClampNeg (vp_nar .boolean 1)))), ((f 28), .inl (cI, 41, .inl nbr))] := hD
    obtain ⟨g_5, eg_5⟩ : ∃ z, z = upd snd ev 1 := ⟨_, rfl⟩
    rw [nI_clamp (n := ev) (by omega), nar_b (Or.inr rfl), ← eg_5] at hP hD
    have hg_5 : bln g_5 := by rw [eg_5]; exact bln_ub hsnd (Or.inr rfl)
    refine lv_aload_n hx hb d_MO_evaluate_49 rfl (lv_at hl 0 rfl) ?_
    refine va_get (D := D) (ci := 8) (v := .ref (f 28)) (C := rn_MO) (T := fl_MO) (N := 55) hx hb hG in_MO hown hK hP 0 rfl rfl 46 (by decide) (hG _ k_1237) (fun _ h9 => h9) rfl d_MO_evaluate_50 ?_
    refine lv_aload_n hx hb d_MO_evaluate_53 rfl (lv_at hl 0 rfl) ?_
    refine va_get (D := D) (ci := 8) (v := .int (nI ev)) (C := rn_MO) (T := fl_MO) (N := 55) hx hb hG in_MO hown hK hP 0 rfl rfl 40 (by decide) (hG _ k_1231) (fun _ h9 => h9) rfl d_MO_evaluate_54 ?_
    refine lv_iload hx hb d_MO_evaluate_57 (lv_at hl 4 rfl) ?_
    refine va_iast hx hb hK hP hD hS 4 0 rfl rfl (vp_in_nI (n := ev) (N := 41) (by omega) (by omega)) d_MO_evaluate_59 (fun H locs hP hD hS => ?_)
    have hP : va_P D classes [(h0, .inr (8, mS f tn rm ln lx at_ bd fs dp on os bn df th tp mo_ ev ss so lk rs pt ot cl)), ((f 25), .inl (cI, 41, .inl g_3)), ((f 26), .inl (cI, 41, .inl g_4)), ((f 27), .inl (cZ, 41, .inl g_5)), ((f 28), .inl (cI, 41, .inl (upd nbr (nI ev).toNatClampNeg v)))] H := hP
    have hD : va_D A [(h0, .inr (8, mS f tn rm ln lx at_ bd fs dp on os bn df th tp mo_ ev ss so lk rs pt ot cl)), ((f 25), .inl (cI, 41, .inl g_3)), ((f 26), .inl (cI, 41, .inl g_4)), ((f 27), .inl (cZ, 41, .inl g_5)), ((f 28), .inl (cI, 41, .inl (upd nbr (nI ev).toNatClampNeg v)))] := hD
    obtain ⟨g_6, eg_6⟩ : ∃ z, z = upd nbr ev v := ⟨_, rfl⟩
    rw [nI_clamp (n := ev) (by omega), ← eg_6] at hP hD
    refine lv_aload_n hx hb d_MO_evaluate_60 rfl (lv_at hl 0 rfl) ?_
    refine lv_dup hx hb d_MO_evaluate_61 rfl ?_
    refine va_get (D := D) (ci := 8) (v := .int (nI ev)) (C := rn_MO) (T := fl_MO) (N := 55) hx hb hG in_MO hown hK hP 0 rfl rfl 40 (by decide) (hG _ k_1231) (fun _ h9 => h9) rfl d_MO_evaluate_62 ?_
    refine lv_iconst (v := 1) hx hb d_MO_evaluate_65 (by decide) ?_
    refine lw_iadd (a := ev) (b := 1) hx hb d_MO_evaluate_66 ?_
    refine va_put (D := D) (ci := 8) (v := .int (nI (ev + 1))) (ty := .int) (C := rn_MO) (T := fl_MO) (N := 55) hx hb hG in_MO tt_MO tk_MO nn_MO hown hK hP hD hS 0 rfl rfl 40 (by decide) (hG _ k_1231) (fun _ h9 => h9) rfl (by decide +kernel) rfl rfl (Nat.le_of_ble_eq_true rfl) d_MO_evaluate_67 (fun H locs hP hD hS => ?_)
    have hP : va_P D classes [(h0, .inr (8, mS f tn rm ln lx at_ bd fs dp on os bn df th tp mo_ (ev + 1) ss so lk rs pt ot cl)), ((f 25), .inl (cI, 41, .inl g_3)), ((f 26), .inl (cI, 41, .inl g_4)), ((f 27), .inl (cZ, 41, .inl g_5)), ((f 28), .inl (cI, 41, .inl g_6))] H := hP
    have hD : va_D A [(h0, .inr (8, mS f tn rm ln lx at_ bd fs dp on os bn df th tp mo_ (ev + 1) ss so lk rs pt ot cl)), ((f 25), .inl (cI, 41, .inl g_3)), ((f 26), .inl (cI, 41, .inl g_4)), ((f 27), .inl (cZ, 41, .inl g_5)), ((f 28), .inl (cI, 41, .inl g_6))] := hD
    refine lv_aload_n hx hb d_MO_evaluate_70 rfl (lv_at hl 0 rfl) ?_
    refine lv_lload_n hx hb d_MO_evaluate_71 rfl (lv_at hl 2 rfl) ?_
    refine va_put (D := D) (ci := 8) (v := .long t) (ty := .long) (C := rn_MO) (T := fl_MO) (N := 55) hx hb hG in_MO tt_MO tk_MO nn_MO hown hK hP hD hS 0 rfl rfl 47 (by decide) (hG _ k_1238) (fun _ h9 => h9) rfl (by decide +kernel) rfl rfl (Nat.le_of_ble_eq_true rfl) d_MO_evaluate_72 (fun H locs hP hD hS => ?_)
    have hP : va_P D classes [(h0, .inr (8, mS f tn rm ln lx at_ bd fs dp on os bn df th tp mo_ (ev + 1) ss so t rs pt ot cl)), ((f 25), .inl (cI, 41, .inl g_3)), ((f 26), .inl (cI, 41, .inl g_4)), ((f 27), .inl (cZ, 41, .inl g_5)), ((f 28), .inl (cI, 41, .inl g_6))] H := hP
    have hD : va_D A [(h0, .inr (8, mS f tn rm ln lx at_ bd fs dp on os bn df th tp mo_ (ev + 1) ss so t rs pt ot cl)), ((f 25), .inl (cI, 41, .inl g_3)), ((f 26), .inl (cI, 41, .inl g_4)), ((f 27), .inl (cZ, 41, .inl g_5)), ((f 28), .inl (cI, 41, .inl g_6))] := hD
    exact em_vret hx hb hr hlocks hP hD hK hS (so, ev + 1, t, g_3, g_4, g_5, g_6) [0, 1, 2, 3, 4] (by decide) rfl ⟨rfl, ⟨hg_5, (show me g_3 g_4 (ev + 1) tp 0 from (by rw [eg_3, eg_4]; exact hsl.push hak1 hak2 hak3 hak4)), (show (ev + 1) ≤ 40 from (by first | assumption | omega | exact Or.inl rfl)), (show ((¬ so = 0 ∧ (ev + 1) = ev ∧ t = lk) ∨ (so = so ∧ (ev + 1) = ev + 1 ∧ t = t ∧ fz g_5 (ev + 1) = fz snd ev)) from (Or.inr ⟨rfl, rfl, rfl, by rw [eg_5]; exact fz_up1 _ _⟩))⟩⟩ d_MO_evaluate_75
  · skip
    have hn_7 : ev = 40 := (nI_eq (a := ev) (b := 40) (by omega) (by omega)).mp hb_1
    refine lv_aload_n hx hb d_MO_evaluate_9 rfl (lv_at hl 0 rfl) ?_
    refine lv_iconst (v := 4) hx hb d_MO_evaluate_10 (by decide) ?_
    refine va_put (D := D) (ci := 8) (v := .int 4) (ty := .int) (C := rn_MO) (T := fl_MO) (N := 55) hx hb hG in_MO tt_MO tk_MO nn_MO hown hK hP hD hS 0 rfl rfl 42 (by decide) (hG _ k_1233) (fun _ h9 => h9) rfl (by decide +kernel) rfl rfl (Nat.le_of_ble_eq_true rfl) d_MO_evaluate_11 (fun H locs hP hD hS => ?_)
    have hP : va_P D classes [(h0, .inr (8, mS f tn rm ln lx at_ bd fs dp on os bn df th tp mo_ ev ss 4 lk rs pt ot cl)), ((f 25), .inl (cI, 41, .inl bss)), ((f 26), .inl (cI, 41, .inl wts)), ((f 27), .inl (cZ, 41, .inl snd)), ((f 28), .inl (cI, 41, .inl nbr))] H := hP
    have hD : va_D A [(h0, .inr (8, mS f tn rm ln lx at_ bd fs dp on os bn df th tp mo_ ev ss 4 lk rs pt ot cl)), ((f 25), .inl (cI, 41, .inl bss)), ((f 26), .inl (cI, 41, .inl wts)), ((f 27), .inl (cZ, 41, .inl snd)), ((f 28), .inl (cI, 41, .inl nbr))] := hD
    exact em_vret hx hb hr hlocks hP hD hK hS (4, ev, lk, bss, wts, snd, nbr) [0, 1, 2, 3, 4] (by decide) rfl ⟨rfl, ⟨hsnd, (show me bss wts ev tp 0 from (hsl.mono (by omega))), (show ev ≤ 40 from (by first | assumption | omega | exact Or.inl rfl)), (show ((¬ 4 = 0 ∧ ev = ev ∧ lk = lk) ∨ (4 = so ∧ ev = ev + 1 ∧ lk = t ∧ fz snd ev = fz snd ev)) from (Or.inl ⟨by decide, rfl, rfl⟩))⟩⟩ d_MO_evaluate_14
set_option maxHeartbeats 8000000 in
set_option maxRecDepth 100000 in
theorem mo_comb2 (l : Launch) (D : va_G) (cI cL cZ cC : ClassId) (f : Nat → Nat) (h0 : Nat) (tn : Int32) (rm : Nat) (ln : Nat) (lx : Nat) (at_ : Nat) (bd : Int32) (fs : Nat) (dp : Nat) (on : Nat) (os : Nat) (bn : Nat) (df : Nat) (th : Int32) (tp : Nat) (mo_ : Int32) (ev : Nat) (ss : Int32) (so : Int32) (lk : Int64) (rs : Int64) (pt : Int32) (ot : Nat) (cl : Int32) (one : Nat → Int64) (two : Nat → Int64) (mrk : Nat → Int32) (wlk : Nat → Int32) (spn : Nat → Int32) (trm : Nat → Int64) (Gc : Nat → Prop) (sz : Nat) (hmrk : bln mrk) (hMI : MI df Gc trm one two spn tp lk rs pt) (hrm : rm ≤ 400) (hneed : 1 ≤ tp) (hnt : l.stackTraces = false) : em_Met l y_MO_combinator (wz y_MO_combinator b_MO_combinator 13 none) ({ frames := 1, cells := 0, slots := 0, locals := 21 }) (va_Pc [.ref h0, .int 2] (tw_pre D (tys4 cI cL cZ cC) [(h0, .inr (8, mS f tn rm ln lx at_ bd fs dp on os bn df th tp mo_ ev ss so lk rs pt ot cl)), ((f 20), .inl (cL, 400, .inr (.inl one))), ((f 21), .inl (cL, 400, .inr (.inl two))), ((f 22), .inl (cZ, 400, .inl mrk)), ((f 23), .inl (cI, 810, .inl wlk)), ((f 24), .inl (cI, 150, .inl spn)), ((f 18), .inl (cL, 9, .inr (.inl trm)))] sz)) D (tys4 cI cL cZ cC) (va_A [(h0, .inr (8, mS f tn rm ln lx at_ bd fs dp on os bn df th tp mo_ ev ss so lk rs pt ot cl)), ((f 20), .inl (cL, 400, .inr (.inl one))), ((f 21), .inl (cL, 400, .inr (.inl two))), ((f 22), .inl (cZ, 400, .inl mrk)), ((f 23), .inl (cI, 810, .inl wlk)), ((f 24), .inl (cI, 150, .inl spn)), ((f 18), .inl (cL, 9, .inr (.inl trm)))] sz) (fun (u : Nat × Int64 × Int32 × Int32 × (Nat → Int64) × (Nat → Int64) × (Nat → Int32) × (Nat → Int32)) => [(h0, .inr (8, mS f tn rm ln lx at_ bd fs dp on os bn df th u.1 mo_ ev u.2.2.1 u.2.2.2.1 u.2.1 rs pt ot cl)), ((f 20), .inl (cL, 400, .inr (.inl u.2.2.2.2.1))), ((f 21), .inl (cL, 400, .inr (.inl u.2.2.2.2.2.1))), ((f 22), .inl (cZ, 400, .inl u.2.2.2.2.2.2.1)), ((f 23), .inl (cI, 810, .inl u.2.2.2.2.2.2.2)), ((f 24), .inl (cI, 150, .inl spn)), ((f 18), .inl (cL, 9, .inr (.inl trm)))]) (fun v (u : Nat × Int64 × Int32 × Int32 × (Nat → Int64) × (Nat → Int64) × (Nat → Int32) × (Nat → Int32)) => v = none ∧ ((bln u.2.2.2.2.2.2.1) ∧ (∃ G' : Nat → Prop, MI df G' trm u.2.2.2.2.1 u.2.2.2.2.2.1 spn u.1 u.2.1 rs pt ∧ ((u.2.2.1 = ss + 1 ∧ u.2.2.2.1 = so ∧ tp ≤ u.1 + 1) ∨ (u.2.2.1 = ss ∧ ¬ u.2.2.2.1 = 0 ∧ u.1 = tp))))) (fun C (u : Nat × Int64 × Int32 × Int32 × (Nat → Int64) × (Nat → Int64) × (Nat → Int32) × (Nat → Int32)) => False) 0 0 := by
  refine em_Met.ofW (cc := b_MO_combinator) (maxL := 13) (ret := none) (by decide) rfl ?_
  intro p e s m args below meth c s₁ B hml hv hno
  obtain ⟨rfl, ⟨hsz, hP, hK, hD0⟩, hE⟩ := hv
  have hx := B.exec
  have hb := B.bytes
  have hr := B.returns
  have hts := atoms_spec (ws := wz y_MO_combinator b_MO_combinator 13 none) B.pre
  have hG := wz_G hts
  have hown : s.vm.findClass rn_MO = some m.cls := findClass_of_methodNamed B.named
  have hlocks := B.notSynchronized
  subst hsz
  have hD := hD0.self (sz := s.heap.size)
  have hst := tw_st hP
  generalize hAe : va_A [(h0, .inr (8, mS f tn rm ln lx at_ bd fs dp on os bn df th tp mo_ ev ss so lk rs pt ot cl)), ((f 20), .inl (cL, 400, .inr (.inl one))), ((f 21), .inl (cL, 400, .inr (.inl two))), ((f 22), .inl (cZ, 400, .inl mrk)), ((f 23), .inl (cI, 810, .inl wlk)), ((f 24), .inl (cI, 150, .inl spn)), ((f 18), .inl (cL, 9, .inr (.inl trm)))] s.heap.size = A at hD hst ⊢
  have hA : ∀ q : Nat, s.heap.size ≤ q → A q := fun q h => by rw [← hAe]; exact Or.inr h
  have hS : va_S A s.heap s.heap [] := va_S.rf
  have hl := lv_entry ([.ref h0, .int 2]) (n := 13) (Nat.le_of_ble_eq_true rfl)
  rw [lg_entry_eq]
  generalize (lg_sl ([.ref h0, .int 2]) ++ List.replicate (13 - (lg_sl ([.ref h0, .int 2])).length) Slot.unset).toArray = ls at hl ⊢
  have hl : lv_has ls 13 [(0, .ref h0), (1, .int 2)] := hl
  obtain ⟨hHG, hlk, hrs, htp, hsp⟩ := id hMI
  refine lv_aload_n hx hb d_MO_combinator_0 rfl (lv_at hl 0 rfl) ?_
  refine lv_iconst (v := 0) hx hb d_MO_combinator_1 (by decide) ?_
  refine em_call (wr := [((f 22), .inl (cZ, 400, .inl mrk)), ((f 23), .inl (cI, 810, .inl wlk))]) (em_runV (As := [.int (nI 0)]) (rest := []) ⟨hx, hb, hml, hown, hG⟩ (mo_argument l D cI cL cZ cC f h0 tn rm ln lx at_ bd fs dp on os bn df th tp mo_ ev ss so lk rs pt ot cl two spn trm one Gc 0 _ (by omega) (by omega) hHG hsp hnt) (cwV 1 hG (gd_V k_1581 k_1583 k_92 k_116 k_1584) rfl rfl rfl (by decide +kernel) ⟨Nat.le_of_ble_eq_true rfl, Nat.le_of_ble_eq_true rfl⟩) (tw_V (q0 := 0) hP hD hK hE hst hS rfl rfl [0, 2, 5, 6, 1] rfl (by decide)) rfl rfl hl.1 rfl (lv_room (Nat.le_of_ble_eq_true rfl)) d_MO_combinator_2 ⟨Nat.le_of_ble_eq_true rfl, Nat.le_of_ble_eq_true rfl⟩) hP hD hS hA [0, 2, 5, 6, 1] [3, 4] rfl rfl (by decide) (by decide) (fun v u H locs hok hP hD hS => ?_) (fun x C u H locs hbad hxx hP hD hS => ?_)
  · skip
    obtain ⟨r_1, rfl, hp_2⟩ := hok
    have hres_3 : (okh df Gc r_1) := hp_2
    have hP : va_P D classes [((f 22), .inl (cZ, 400, .inl mrk)), ((f 23), .inl (cI, 810, .inl wlk)), (h0, .inr (8, mS f tn rm ln lx at_ bd fs dp on os bn df th tp mo_ ev ss so lk rs pt ot cl)), ((f 21), .inl (cL, 400, .inr (.inl two))), ((f 24), .inl (cI, 150, .inl spn)), ((f 18), .inl (cL, 9, .inr (.inl trm))), ((f 20), .inl (cL, 400, .inr (.inl one)))] H := hP
    have hD : va_D A [((f 22), .inl (cZ, 400, .inl mrk)), ((f 23), .inl (cI, 810, .inl wlk)), (h0, .inr (8, mS f tn rm ln lx at_ bd fs dp on os bn df th tp mo_ ev ss so lk rs pt ot cl)), ((f 21), .inl (cL, 400, .inr (.inl two))), ((f 24), .inl (cI, 150, .inl spn)), ((f 18), .inl (cL, 9, .inr (.inl trm))), ((f 20), .inl (cL, 400, .inr (.inl one)))] := hD
    refine W.eq (g2 := F0 m 5 ls [.long r_1]) rfl ?_
    refine lv_lstore_n (lv' := [(2, .long r_1), (0, .ref h0), (1, .int 2)]) hx hb d_MO_combinator_5 rfl hl (Nat.le_of_ble_eq_true rfl) rfl (fun ls hl => ?_)
    refine lv_iload_n hx hb d_MO_combinator_6 rfl (lv_at hl 2 rfl) ?_
    refine lv_iconst (v := 2) hx hb d_MO_combinator_7 (by decide) ?_
    refine lv_icmp_le (tgt := 19) hx hb d_MO_combinator_8 (by decide) (fun hbr => ?_) (fun hbr => absurd (by decide) hbr)
    refine lv_lconst (v := 0) hx hb d_MO_combinator_19 (by decide) ?_
    refine lv_lstore (lv' := [(4, .long 0), (2, .long r_1), (0, .ref h0), (1, .int 2)]) hx hb d_MO_combinator_20 hl (Nat.le_of_ble_eq_true rfl) rfl (fun ls hl => ?_)
    refine lv_iload_n hx hb d_MO_combinator_22 rfl (lv_at hl 3 rfl) ?_
    refine W.callR (W.runS (As := [.int 2]) (rest := []) ⟨hx, hb, hml, hown, hG⟩ (mo_needs l D cI cL cZ cC 2 ) (cwS 1 hG (gd_S k_1621 k_1622 k_116 k_1623) rfl rfl rfl (by decide +kernel) ⟨Nat.le_of_ble_eq_true rfl, Nat.le_of_ble_eq_true rfl⟩) (wq_S hP hK [] rfl) rfl rfl hl.1 rfl (lv_room (Nat.le_of_ble_eq_true rfl)) d_MO_combinator_23 ⟨Nat.le_of_ble_eq_true rfl, Nat.le_of_ble_eq_true rfl⟩) ?_
    refine W.eq (g2 := F0 m 26 ls [.int (mneeds (2 : Int32))]) rfl ?_
    refine W.eq (g2 := F0 m 26 ls [.int 1]) (by rw [show mneeds 2 = 1 by decide]) ?_
    refine lv_iconst (v := 2) hx hb d_MO_combinator_26 (by decide) ?_
    refine lv_icmp_le (tgt := 38) hx hb d_MO_combinator_27 (by decide) (fun hbr => ?_) (fun hbr => absurd (by decide) hbr)
    refine lv_lconst (v := 0) hx hb d_MO_combinator_38 (by decide) ?_
    refine lv_lstore (lv' := [(6, .long 0), (4, .long 0), (2, .long r_1), (0, .ref h0), (1, .int 2)]) hx hb d_MO_combinator_39 hl (Nat.le_of_ble_eq_true rfl) rfl (fun ls hl => ?_)
    refine lv_iload_n hx hb d_MO_combinator_41 rfl (lv_at hl 4 rfl) ?_
    refine W.callR (W.runS (As := [.int 2]) (rest := []) ⟨hx, hb, hml, hown, hG⟩ (mo_needs l D cI cL cZ cC 2 ) (cwS 1 hG (gd_S k_1621 k_1622 k_116 k_1623) rfl rfl rfl (by decide +kernel) ⟨Nat.le_of_ble_eq_true rfl, Nat.le_of_ble_eq_true rfl⟩) (wq_S hP hK [] rfl) rfl rfl hl.1 rfl (lv_room (Nat.le_of_ble_eq_true rfl)) d_MO_combinator_42 ⟨Nat.le_of_ble_eq_true rfl, Nat.le_of_ble_eq_true rfl⟩) ?_
    refine W.eq (g2 := F0 m 45 ls [.int (mneeds (2 : Int32))]) rfl ?_
    refine W.eq (g2 := F0 m 45 ls [.int 1]) (by rw [show mneeds 2 = 1 by decide]) ?_
    refine lv_iconst (v := 3) hx hb d_MO_combinator_45 (by decide) ?_
    refine lv_icmp_le (tgt := 57) hx hb d_MO_combinator_46 (by decide) (fun hbr => ?_) (fun hbr => absurd (by decide) hbr)
    refine lv_lconst (v := 0) hx hb d_MO_combinator_57 (by decide) ?_
    refine lv_lstore (lv' := [(8, .long 0), (6, .long 0), (4, .long 0), (2, .long r_1), (0, .ref h0), (1, .int 2)]) hx hb d_MO_combinator_58 hl (Nat.le_of_ble_eq_true rfl) rfl (fun ls hl => ?_)
    refine lv_iload_n hx hb d_MO_combinator_60 rfl (lv_at hl 5 rfl) ?_
    refine lv_iconst (v := 4) hx hb d_MO_combinator_61 (by decide) ?_
    refine lv_icmp_ne (tgt := 69) hx hb d_MO_combinator_62 (by decide) (fun hbr => ?_) (fun hbr => absurd hbr (by decide))
    refine lv_iload_n hx hb d_MO_combinator_69 rfl (lv_at hl 5 rfl) ?_
    refine lv_iconst (v := 5) hx hb d_MO_combinator_70 (by decide) ?_
    refine lv_icmp_eq (tgt := 80) hx hb d_MO_combinator_71 (by decide) (fun hbr => absurd hbr (by decide)) (fun hbr => ?_)
    refine lv_iload_n hx hb d_MO_combinator_74 rfl (lv_at hl 5 rfl) ?_
    refine lv_bipush (v := 6) hx hb d_MO_combinator_75 (by decide) ?_
    refine lv_icmp_ne (tgt := 84) hx hb d_MO_combinator_77 (by decide) (fun hbr => ?_) (fun hbr => absurd hbr (by decide))
    refine lv_iload_n hx hb d_MO_combinator_84 rfl (lv_at hl 5 rfl) ?_
    refine lv_bipush (v := 7) hx hb d_MO_combinator_85 (by decide) ?_
    refine lv_icmp_ne (tgt := 94) hx hb d_MO_combinator_87 (by decide) (fun hbr => ?_) (fun hbr => absurd hbr (by decide))
    refine lv_iload_n hx hb d_MO_combinator_94 rfl (lv_at hl 5 rfl) ?_
    refine lv_bipush (v := 8) hx hb d_MO_combinator_95 (by decide) ?_
    refine lv_icmp_eq (tgt := 106) hx hb d_MO_combinator_97 (by decide) (fun hbr => absurd hbr (by decide)) (fun hbr => ?_)
    refine lv_iload_n hx hb d_MO_combinator_100 rfl (lv_at hl 5 rfl) ?_
    refine lv_bipush (v := 9) hx hb d_MO_combinator_101 (by decide) ?_
    refine lv_icmp_ne (tgt := 110) hx hb d_MO_combinator_103 (by decide) (fun hbr => ?_) (fun hbr => absurd hbr (by decide))
    refine lv_iconst (v := 0) hx hb d_MO_combinator_110 (by decide) ?_
    refine lv_istore (lv' := [(10, .int 0), (8, .long 0), (6, .long 0), (4, .long 0), (2, .long r_1), (0, .ref h0), (1, .int 2)]) hx hb d_MO_combinator_111 hl (Nat.le_of_ble_eq_true rfl) rfl (fun ls hl => ?_)
    refine lv_iload hx hb d_MO_combinator_113 (lv_at hl 0 rfl) ?_
    refine lv_if_le (tgt := 128) hx hb d_MO_combinator_115 (by decide) (fun hbr => ?_) (fun hbr => absurd (by decide) hbr)
    refine lv_iload_n hx hb d_MO_combinator_128 rfl (lv_at hl 6 rfl) ?_
    refine lv_iconst (v := 2) hx hb d_MO_combinator_129 (by decide) ?_
    refine lv_icmp_ne (tgt := 161) hx hb d_MO_combinator_130 (by decide) (fun hbr => absurd (by decide) hbr) (fun hbr => ?_)
    refine lv_aload_n hx hb d_MO_combinator_133 rfl (lv_at hl 5 rfl) ?_
    refine lv_dup hx hb d_MO_combinator_134 rfl ?_
    refine va_get (D := D) (ci := 8) (v := .int (nI tp)) (C := rn_MO) (T := fl_MO) (N := 55) hx hb hG in_MO hown hK hP 2 rfl rfl 38 (by decide) (hG _ k_1229) (fun _ h9 => h9) rfl d_MO_combinator_135 ?_
    refine lv_iconst (v := 1) hx hb d_MO_combinator_138 (by decide) ?_
    refine lw_isub (a := tp) (b := 1) hx hb d_MO_combinator_139 (by omega) ?_
    refine va_put (D := D) (ci := 8) (v := .int (nI (tp - 1))) (ty := .int) (C := rn_MO) (T := fl_MO) (N := 55) hx hb hG in_MO tt_MO tk_MO nn_MO hown hK hP hD hS 2 rfl rfl 38 (by decide) (hG _ k_1229) (fun _ h9 => h9) rfl (by decide +kernel) rfl rfl (Nat.le_of_ble_eq_true rfl) d_MO_combinator_140 (fun H locs hP hD hS => ?_)
    have hP : va_P D classes [((f 22), .inl (cZ, 400, .inl mrk)), ((f 23), .inl (cI, 810, .inl wlk)), (h0, .inr (8, mS f tn rm ln lx at_ bd fs dp on os bn df th (tp - 1) mo_ ev ss so lk rs pt ot cl)), ((f 21), .inl (cL, 400, .inr (.inl two))), ((f 24), .inl (cI, 150, .inl spn)), ((f 18), .inl (cL, 9, .inr (.inl trm))), ((f 20), .inl (cL, 400, .inr (.inl one)))] H := hP
    have hD : va_D A [((f 22), .inl (cZ, 400, .inl mrk)), ((f 23), .inl (cI, 810, .inl wlk)), (h0, .inr (8, mS f tn rm ln lx at_ bd fs dp on os bn df th (tp - 1) mo_ ev ss so lk rs pt ot cl)), ((f 21), .inl (cL, 400, .inr (.inl two))), ((f 24), .inl (cI, 150, .inl spn)), ((f 18), .inl (cL, 9, .inr (.inl trm))), ((f 20), .inl (cL, 400, .inr (.inl one)))] := hD
    refine lv_aload_n hx hb d_MO_combinator_143 rfl (lv_at hl 5 rfl) ?_
    refine lv_lload_n hx hb d_MO_combinator_144 rfl (lv_at hl 4 rfl) ?_
    refine va_put (D := D) (ci := 8) (v := .long r_1) (ty := .long) (C := rn_MO) (T := fl_MO) (N := 55) hx hb hG in_MO tt_MO tk_MO nn_MO hown hK hP hD hS 2 rfl rfl 47 (by decide) (hG _ k_1238) (fun _ h9 => h9) rfl (by decide +kernel) rfl rfl (Nat.le_of_ble_eq_true rfl) d_MO_combinator_145 (fun H locs hP hD hS => ?_)
    have hP : va_P D classes [((f 22), .inl (cZ, 400, .inl mrk)), ((f 23), .inl (cI, 810, .inl wlk)), (h0, .inr (8, mS f tn rm ln lx at_ bd fs dp on os bn df th (tp - 1) mo_ ev ss so r_1 rs pt ot cl)), ((f 21), .inl (cL, 400, .inr (.inl two))), ((f 24), .inl (cI, 150, .inl spn)), ((f 18), .inl (cL, 9, .inr (.inl trm))), ((f 20), .inl (cL, 400, .inr (.inl one)))] H := hP
    have hD : va_D A [((f 22), .inl (cZ, 400, .inl mrk)), ((f 23), .inl (cI, 810, .inl wlk)), (h0, .inr (8, mS f tn rm ln lx at_ bd fs dp on os bn df th (tp - 1) mo_ ev ss so r_1 rs pt ot cl)), ((f 21), .inl (cL, 400, .inr (.inl two))), ((f 24), .inl (cI, 150, .inl spn)), ((f 18), .inl (cL, 9, .inr (.inl trm))), ((f 20), .inl (cL, 400, .inr (.inl one)))] := hD
    refine lv_aload_n hx hb d_MO_combinator_148 rfl (lv_at hl 5 rfl) ?_
    refine lv_dup hx hb d_MO_combinator_149 rfl ?_
    refine va_get (D := D) (ci := 8) (v := .int ss) (C := rn_MO) (T := fl_MO) (N := 55) hx hb hG in_MO hown hK hP 2 rfl rfl 41 (by decide) (hG _ k_1232) (fun _ h9 => h9) rfl d_MO_combinator_150 ?_
    refine lv_iconst (v := 1) hx hb d_MO_combinator_153 (by decide) ?_
    refine lv_iadd hx hb d_MO_combinator_154 ?_
    refine va_put (D := D) (ci := 8) (v := .int (ss + 1)) (ty := .int) (C := rn_MO) (T := fl_MO) (N := 55) hx hb hG in_MO tt_MO tk_MO nn_MO hown hK hP hD hS 2 rfl rfl 41 (by decide) (hG _ k_1232) (fun _ h9 => h9) rfl (by decide +kernel) rfl rfl (Nat.le_of_ble_eq_true rfl) d_MO_combinator_155 (fun H locs hP hD hS => ?_)
    have hP : va_P D classes [((f 22), .inl (cZ, 400, .inl mrk)), ((f 23), .inl (cI, 810, .inl wlk)), (h0, .inr (8, mS f tn rm ln lx at_ bd fs dp on os bn df th (tp - 1) mo_ ev (ss + 1) so r_1 rs pt ot cl)), ((f 21), .inl (cL, 400, .inr (.inl two))), ((f 24), .inl (cI, 150, .inl spn)), ((f 18), .inl (cL, 9, .inr (.inl trm))), ((f 20), .inl (cL, 400, .inr (.inl one)))] H := hP
    have hD : va_D A [((f 22), .inl (cZ, 400, .inl mrk)), ((f 23), .inl (cI, 810, .inl wlk)), (h0, .inr (8, mS f tn rm ln lx at_ bd fs dp on os bn df th (tp - 1) mo_ ev (ss + 1) so r_1 rs pt ot cl)), ((f 21), .inl (cL, 400, .inr (.inl two))), ((f 24), .inl (cI, 150, .inl spn)), ((f 18), .inl (cL, 9, .inr (.inl trm))), ((f 20), .inl (cL, 400, .inr (.inl one)))] := hD
    refine lv_goto (tgt := 330) hx hb d_MO_combinator_158 (by decide) ?_
    exact em_vret hx hb hr hlocks hP hD hK hS (tp - 1, r_1, ss + 1, so, one, two, mrk, wlk) [2, 6, 3, 0, 1, 4, 5] (by decide) rfl ⟨rfl, ⟨hmrk, (show ∃ G' : Nat → Prop, MI df G' trm one two spn (tp - 1) r_1 rs pt ∧ (((ss + 1) = ss + 1 ∧ so = so ∧ tp ≤ (tp - 1) + 1) ∨ ((ss + 1) = ss ∧ ¬ so = 0 ∧ (tp - 1) = tp)) from ⟨Gc, ⟨hHG, hres_3, hrs, (by omega), (fun k hk => hsp k (by omega))⟩, Or.inl ⟨rfl, rfl, by omega⟩⟩)⟩⟩ d_MO_combinator_330
  · skip
    exact hbad.elim
set_option maxHeartbeats 8000000 in
set_option maxRecDepth 100000 in
theorem mo_comb3 (l : Launch) (D : va_G) (cI cL cZ cC : ClassId) (f : Nat → Nat) (h0 : Nat) (tn : Int32) (rm : Nat) (ln : Nat) (lx : Nat) (at_ : Nat) (bd : Int32) (fs : Nat) (dp : Nat) (on : Nat) (os : Nat) (bn : Nat) (df : Nat) (th : Int32) (tp : Nat) (mo_ : Int32) (ev : Nat) (ss : Int32) (so : Int32) (lk : Int64) (rs : Int64) (pt : Int32) (ot : Nat) (cl : Int32) (one : Nat → Int64) (two : Nat → Int64) (mrk : Nat → Int32) (wlk : Nat → Int32) (spn : Nat → Int32) (trm : Nat → Int64) (Gc : Nat → Prop) (sz : Nat) (hmrk : bln mrk) (hMI : MI df Gc trm one two spn tp lk rs pt) (hrm : rm ≤ 400) (hneed : 2 ≤ tp) (hnt : l.stackTraces = false) : em_Met l y_MO_combinator (wz y_MO_combinator b_MO_combinator 13 none) ({ frames := 2, cells := 0, slots := 0, locals := 41 }) (va_Pc [.ref h0, .int 3] (tw_pre D (tys4 cI cL cZ cC) [(h0, .inr (8, mS f tn rm ln lx at_ bd fs dp on os bn df th tp mo_ ev ss so lk rs pt ot cl)), ((f 20), .inl (cL, 400, .inr (.inl one))), ((f 21), .inl (cL, 400, .inr (.inl two))), ((f 22), .inl (cZ, 400, .inl mrk)), ((f 23), .inl (cI, 810, .inl wlk)), ((f 24), .inl (cI, 150, .inl spn)), ((f 18), .inl (cL, 9, .inr (.inl trm)))] sz)) D (tys4 cI cL cZ cC) (va_A [(h0, .inr (8, mS f tn rm ln lx at_ bd fs dp on os bn df th tp mo_ ev ss so lk rs pt ot cl)), ((f 20), .inl (cL, 400, .inr (.inl one))), ((f 21), .inl (cL, 400, .inr (.inl two))), ((f 22), .inl (cZ, 400, .inl mrk)), ((f 23), .inl (cI, 810, .inl wlk)), ((f 24), .inl (cI, 150, .inl spn)), ((f 18), .inl (cL, 9, .inr (.inl trm)))] sz) (fun (u : Nat × Int64 × Int32 × Int32 × (Nat → Int64) × (Nat → Int64) × (Nat → Int32) × (Nat → Int32)) => [(h0, .inr (8, mS f tn rm ln lx at_ bd fs dp on os bn df th u.1 mo_ ev u.2.2.1 u.2.2.2.1 u.2.1 rs pt ot cl)), ((f 20), .inl (cL, 400, .inr (.inl u.2.2.2.2.1))), ((f 21), .inl (cL, 400, .inr (.inl u.2.2.2.2.2.1))), ((f 22), .inl (cZ, 400, .inl u.2.2.2.2.2.2.1)), ((f 23), .inl (cI, 810, .inl u.2.2.2.2.2.2.2)), ((f 24), .inl (cI, 150, .inl spn)), ((f 18), .inl (cL, 9, .inr (.inl trm)))]) (fun v (u : Nat × Int64 × Int32 × Int32 × (Nat → Int64) × (Nat → Int64) × (Nat → Int32) × (Nat → Int32)) => v = none ∧ ((bln u.2.2.2.2.2.2.1) ∧ (∃ G' : Nat → Prop, MI df G' trm u.2.2.2.2.1 u.2.2.2.2.2.1 spn u.1 u.2.1 rs pt ∧ ((u.2.2.1 = ss + 1 ∧ u.2.2.2.1 = so ∧ tp ≤ u.1 + 2) ∨ (u.2.2.1 = ss ∧ ¬ u.2.2.2.1 = 0 ∧ u.1 = tp))))) (fun C (u : Nat × Int64 × Int32 × Int32 × (Nat → Int64) × (Nat → Int64) × (Nat → Int32) × (Nat → Int32)) => False) 0 0 := by
  refine em_Met.ofW (cc := b_MO_combinator) (maxL := 13) (ret := none) (by decide) rfl ?_
  intro p e s m args below meth c s₁ B hml hv hno
  obtain ⟨rfl, ⟨hsz, hP, hK, hD0⟩, hE⟩ := hv
  have hx := B.exec
  have hb := B.bytes
  have hr := B.returns
  have hts := atoms_spec (ws := wz y_MO_combinator b_MO_combinator 13 none) B.pre
  have hG := wz_G hts
  have hown : s.vm.findClass rn_MO = some m.cls := findClass_of_methodNamed B.named
  have hlocks := B.notSynchronized
  subst hsz
  have hD := hD0.self (sz := s.heap.size)
  have hst := tw_st hP
  generalize hAe : va_A [(h0, .inr (8, mS f tn rm ln lx at_ bd fs dp on os bn df th tp mo_ ev ss so lk rs pt ot cl)), ((f 20), .inl (cL, 400, .inr (.inl one))), ((f 21), .inl (cL, 400, .inr (.inl two))), ((f 22), .inl (cZ, 400, .inl mrk)), ((f 23), .inl (cI, 810, .inl wlk)), ((f 24), .inl (cI, 150, .inl spn)), ((f 18), .inl (cL, 9, .inr (.inl trm)))] s.heap.size = A at hD hst ⊢
  have hA : ∀ q : Nat, s.heap.size ≤ q → A q := fun q h => by rw [← hAe]; exact Or.inr h
  have hS : va_S A s.heap s.heap [] := va_S.rf
  have hl := lv_entry ([.ref h0, .int 3]) (n := 13) (Nat.le_of_ble_eq_true rfl)
  rw [lg_entry_eq]
  generalize (lg_sl ([.ref h0, .int 3]) ++ List.replicate (13 - (lg_sl ([.ref h0, .int 3])).length) Slot.unset).toArray = ls at hl ⊢
  have hl : lv_has ls 13 [(0, .ref h0), (1, .int 3)] := hl
  obtain ⟨hHG, hlk, hrs, htp, hsp⟩ := id hMI
  refine lv_aload_n hx hb d_MO_combinator_0 rfl (lv_at hl 0 rfl) ?_
  refine lv_iconst (v := 0) hx hb d_MO_combinator_1 (by decide) ?_
  refine em_call (wr := [((f 22), .inl (cZ, 400, .inl mrk)), ((f 23), .inl (cI, 810, .inl wlk))]) (em_runV (As := [.int (nI 0)]) (rest := []) ⟨hx, hb, hml, hown, hG⟩ (mo_argument l D cI cL cZ cC f h0 tn rm ln lx at_ bd fs dp on os bn df th tp mo_ ev ss so lk rs pt ot cl two spn trm one Gc 0 _ (by omega) (by omega) hHG hsp hnt) (cwV 1 hG (gd_V k_1581 k_1583 k_92 k_116 k_1584) rfl rfl rfl (by decide +kernel) ⟨Nat.le_of_ble_eq_true rfl, Nat.le_of_ble_eq_true rfl⟩) (tw_V (q0 := 0) hP hD hK hE hst hS rfl rfl [0, 2, 5, 6, 1] rfl (by decide)) rfl rfl hl.1 rfl (lv_room (Nat.le_of_ble_eq_true rfl)) d_MO_combinator_2 ⟨Nat.le_of_ble_eq_true rfl, Nat.le_of_ble_eq_true rfl⟩) hP hD hS hA [0, 2, 5, 6, 1] [3, 4] rfl rfl (by decide) (by decide) (fun v u H locs hok hP hD hS => ?_) (fun x C u H locs hbad hxx hP hD hS => ?_)
  · skip
    obtain ⟨r_1, rfl, hp_2⟩ := hok
    have hres_3 : (okh df Gc r_1) := hp_2
    have hP : va_P D classes [((f 22), .inl (cZ, 400, .inl mrk)), ((f 23), .inl (cI, 810, .inl wlk)), (h0, .inr (8, mS f tn rm ln lx at_ bd fs dp on os bn df th tp mo_ ev ss so lk rs pt ot cl)), ((f 21), .inl (cL, 400, .inr (.inl two))), ((f 24), .inl (cI, 150, .inl spn)), ((f 18), .inl (cL, 9, .inr (.inl trm))), ((f 20), .inl (cL, 400, .inr (.inl one)))] H := hP
    have hD : va_D A [((f 22), .inl (cZ, 400, .inl mrk)), ((f 23), .inl (cI, 810, .inl wlk)), (h0, .inr (8, mS f tn rm ln lx at_ bd fs dp on os bn df th tp mo_ ev ss so lk rs pt ot cl)), ((f 21), .inl (cL, 400, .inr (.inl two))), ((f 24), .inl (cI, 150, .inl spn)), ((f 18), .inl (cL, 9, .inr (.inl trm))), ((f 20), .inl (cL, 400, .inr (.inl one)))] := hD
    refine W.eq (g2 := F0 m 5 ls [.long r_1]) rfl ?_
    refine lv_lstore_n (lv' := [(2, .long r_1), (0, .ref h0), (1, .int 3)]) hx hb d_MO_combinator_5 rfl hl (Nat.le_of_ble_eq_true rfl) rfl (fun ls hl => ?_)
    refine lv_iload_n hx hb d_MO_combinator_6 rfl (lv_at hl 2 rfl) ?_
    refine lv_iconst (v := 2) hx hb d_MO_combinator_7 (by decide) ?_
    refine lv_icmp_le (tgt := 19) hx hb d_MO_combinator_8 (by decide) (fun hbr => absurd hbr (by decide)) (fun hbr => ?_)
    refine lv_aload_n hx hb d_MO_combinator_11 rfl (lv_at hl 1 rfl) ?_
    refine lv_iconst (v := 1) hx hb d_MO_combinator_12 (by decide) ?_
    refine em_call (wr := [((f 22), .inl (cZ, 400, .inl mrk)), ((f 23), .inl (cI, 810, .inl wlk))]) (em_runV (As := [.int (nI 1)]) (rest := []) ⟨hx, hb, hml, hown, hG⟩ (mo_argument l D cI cL cZ cC f h0 tn rm ln lx at_ bd fs dp on os bn df th tp mo_ ev ss so lk rs pt ot cl two spn trm one Gc 1 _ (by omega) (by omega) hHG hsp hnt) (cwV 1 hG (gd_V k_1581 k_1583 k_92 k_116 k_1584) rfl rfl rfl (by decide +kernel) ⟨Nat.le_of_ble_eq_true rfl, Nat.le_of_ble_eq_true rfl⟩) (tw_V (q0 := 2) hP hD hK hE hst hS rfl rfl [2, 3, 4, 5, 6] rfl (by decide)) rfl rfl hl.1 rfl (lv_room (Nat.le_of_ble_eq_true rfl)) d_MO_combinator_13 ⟨Nat.le_of_ble_eq_true rfl, Nat.le_of_ble_eq_true rfl⟩) hP hD hS hA [2, 3, 4, 5, 6] [0, 1] rfl rfl (by decide) (by decide) (fun v u H locs hok hP hD hS => ?_) (fun x C u H locs hbad hxx hP hD hS => ?_)
    · skip
      obtain ⟨r_4, rfl, hp_5⟩ := hok
      have hres_6 : (okh df Gc r_4) := hp_5
      have hP : va_P D classes [((f 22), .inl (cZ, 400, .inl mrk)), ((f 23), .inl (cI, 810, .inl wlk)), (h0, .inr (8, mS f tn rm ln lx at_ bd fs dp on os bn df th tp mo_ ev ss so lk rs pt ot cl)), ((f 21), .inl (cL, 400, .inr (.inl two))), ((f 24), .inl (cI, 150, .inl spn)), ((f 18), .inl (cL, 9, .inr (.inl trm))), ((f 20), .inl (cL, 400, .inr (.inl one)))] H := hP
      have hD : va_D A [((f 22), .inl (cZ, 400, .inl mrk)), ((f 23), .inl (cI, 810, .inl wlk)), (h0, .inr (8, mS f tn rm ln lx at_ bd fs dp on os bn df th tp mo_ ev ss so lk rs pt ot cl)), ((f 21), .inl (cL, 400, .inr (.inl two))), ((f 24), .inl (cI, 150, .inl spn)), ((f 18), .inl (cL, 9, .inr (.inl trm))), ((f 20), .inl (cL, 400, .inr (.inl one)))] := hD
      refine W.eq (g2 := F0 m 16 ls [.long r_4]) rfl ?_
      refine lv_goto (tgt := 20) hx hb d_MO_combinator_16 (by decide) ?_
      refine lv_lstore (lv' := [(4, .long r_4), (2, .long r_1), (0, .ref h0), (1, .int 3)]) hx hb d_MO_combinator_20 hl (Nat.le_of_ble_eq_true rfl) rfl (fun ls hl => ?_)
      refine lv_iload_n hx hb d_MO_combinator_22 rfl (lv_at hl 3 rfl) ?_
      refine W.callR (W.runS (As := [.int 3]) (rest := []) ⟨hx, hb, hml, hown, hG⟩ (mo_needs l D cI cL cZ cC 3 ) (cwS 1 hG (gd_S k_1621 k_1622 k_116 k_1623) rfl rfl rfl (by decide +kernel) ⟨Nat.le_of_ble_eq_true rfl, Nat.le_of_ble_eq_true rfl⟩) (wq_S hP hK [] rfl) rfl rfl hl.1 rfl (lv_room (Nat.le_of_ble_eq_true rfl)) d_MO_combinator_23 ⟨Nat.le_of_ble_eq_true rfl, Nat.le_of_ble_eq_true rfl⟩) ?_
      refine W.eq (g2 := F0 m 26 ls [.int (mneeds (3 : Int32))]) rfl ?_
      refine W.eq (g2 := F0 m 26 ls [.int 2]) (by rw [show mneeds 3 = 2 by decide]) ?_
      refine lv_iconst (v := 2) hx hb d_MO_combinator_26 (by decide) ?_
      refine lv_icmp_le (tgt := 38) hx hb d_MO_combinator_27 (by decide) (fun hbr => ?_) (fun hbr => absurd (by decide) hbr)
      refine lv_lconst (v := 0) hx hb d_MO_combinator_38 (by decide) ?_
      refine lv_lstore (lv' := [(6, .long 0), (4, .long r_4), (2, .long r_1), (0, .ref h0), (1, .int 3)]) hx hb d_MO_combinator_39 hl (Nat.le_of_ble_eq_true rfl) rfl (fun ls hl => ?_)
      refine lv_iload_n hx hb d_MO_combinator_41 rfl (lv_at hl 4 rfl) ?_
      refine W.callR (W.runS (As := [.int 3]) (rest := []) ⟨hx, hb, hml, hown, hG⟩ (mo_needs l D cI cL cZ cC 3 ) (cwS 1 hG (gd_S k_1621 k_1622 k_116 k_1623) rfl rfl rfl (by decide +kernel) ⟨Nat.le_of_ble_eq_true rfl, Nat.le_of_ble_eq_true rfl⟩) (wq_S hP hK [] rfl) rfl rfl hl.1 rfl (lv_room (Nat.le_of_ble_eq_true rfl)) d_MO_combinator_42 ⟨Nat.le_of_ble_eq_true rfl, Nat.le_of_ble_eq_true rfl⟩) ?_
      refine W.eq (g2 := F0 m 45 ls [.int (mneeds (3 : Int32))]) rfl ?_
      refine W.eq (g2 := F0 m 45 ls [.int 2]) (by rw [show mneeds 3 = 2 by decide]) ?_
      refine lv_iconst (v := 3) hx hb d_MO_combinator_45 (by decide) ?_
      refine lv_icmp_le (tgt := 57) hx hb d_MO_combinator_46 (by decide) (fun hbr => ?_) (fun hbr => absurd (by decide) hbr)
      refine lv_lconst (v := 0) hx hb d_MO_combinator_57 (by decide) ?_
      refine lv_lstore (lv' := [(8, .long 0), (6, .long 0), (4, .long r_4), (2, .long r_1), (0, .ref h0), (1, .int 3)]) hx hb d_MO_combinator_58 hl (Nat.le_of_ble_eq_true rfl) rfl (fun ls hl => ?_)
      refine lv_iload_n hx hb d_MO_combinator_60 rfl (lv_at hl 5 rfl) ?_
      refine lv_iconst (v := 4) hx hb d_MO_combinator_61 (by decide) ?_
      refine lv_icmp_ne (tgt := 69) hx hb d_MO_combinator_62 (by decide) (fun hbr => ?_) (fun hbr => absurd hbr (by decide))
      refine lv_iload_n hx hb d_MO_combinator_69 rfl (lv_at hl 5 rfl) ?_
      refine lv_iconst (v := 5) hx hb d_MO_combinator_70 (by decide) ?_
      refine lv_icmp_eq (tgt := 80) hx hb d_MO_combinator_71 (by decide) (fun hbr => absurd hbr (by decide)) (fun hbr => ?_)
      refine lv_iload_n hx hb d_MO_combinator_74 rfl (lv_at hl 5 rfl) ?_
      refine lv_bipush (v := 6) hx hb d_MO_combinator_75 (by decide) ?_
      refine lv_icmp_ne (tgt := 84) hx hb d_MO_combinator_77 (by decide) (fun hbr => ?_) (fun hbr => absurd hbr (by decide))
      refine lv_iload_n hx hb d_MO_combinator_84 rfl (lv_at hl 5 rfl) ?_
      refine lv_bipush (v := 7) hx hb d_MO_combinator_85 (by decide) ?_
      refine lv_icmp_ne (tgt := 94) hx hb d_MO_combinator_87 (by decide) (fun hbr => ?_) (fun hbr => absurd hbr (by decide))
      refine lv_iload_n hx hb d_MO_combinator_94 rfl (lv_at hl 5 rfl) ?_
      refine lv_bipush (v := 8) hx hb d_MO_combinator_95 (by decide) ?_
      refine lv_icmp_eq (tgt := 106) hx hb d_MO_combinator_97 (by decide) (fun hbr => absurd hbr (by decide)) (fun hbr => ?_)
      refine lv_iload_n hx hb d_MO_combinator_100 rfl (lv_at hl 5 rfl) ?_
      refine lv_bipush (v := 9) hx hb d_MO_combinator_101 (by decide) ?_
      refine lv_icmp_ne (tgt := 110) hx hb d_MO_combinator_103 (by decide) (fun hbr => ?_) (fun hbr => absurd hbr (by decide))
      refine lv_iconst (v := 0) hx hb d_MO_combinator_110 (by decide) ?_
      refine lv_istore (lv' := [(10, .int 0), (8, .long 0), (6, .long 0), (4, .long r_4), (2, .long r_1), (0, .ref h0), (1, .int 3)]) hx hb d_MO_combinator_111 hl (Nat.le_of_ble_eq_true rfl) rfl (fun ls hl => ?_)
      refine lv_iload hx hb d_MO_combinator_113 (lv_at hl 0 rfl) ?_
      refine lv_if_le (tgt := 128) hx hb d_MO_combinator_115 (by decide) (fun hbr => ?_) (fun hbr => absurd (by decide) hbr)
      refine lv_iload_n hx hb d_MO_combinator_128 rfl (lv_at hl 6 rfl) ?_
      refine lv_iconst (v := 2) hx hb d_MO_combinator_129 (by decide) ?_
      refine lv_icmp_ne (tgt := 161) hx hb d_MO_combinator_130 (by decide) (fun hbr => ?_) (fun hbr => absurd hbr (by decide))
      refine lv_iload_n hx hb d_MO_combinator_161 rfl (lv_at hl 6 rfl) ?_
      refine lv_iconst (v := 3) hx hb d_MO_combinator_162 (by decide) ?_
      refine lv_icmp_ne (tgt := 179) hx hb d_MO_combinator_163 (by decide) (fun hbr => absurd (by decide) hbr) (fun hbr => ?_)
      refine lv_aload_n hx hb d_MO_combinator_166 rfl (lv_at hl 5 rfl) ?_
      refine lv_iconst (v := 2) hx hb d_MO_combinator_167 (by decide) ?_
      refine lv_iconst (v := 2) hx hb d_MO_combinator_168 (by decide) ?_
      refine W.callRL (W.runS (As := [.int 2]) (rest := [.int 2, .ref h0]) ⟨hx, hb, hml, hown, hG⟩ (mo_constant l D cI cL cZ cC 2 ) (cwS 1 hG (gd_S k_1461 k_1462 k_116 k_1463) rfl rfl rfl (by decide +kernel) ⟨Nat.le_of_ble_eq_true rfl, Nat.le_of_ble_eq_true rfl⟩) (wq_S hP hK [] rfl) rfl rfl hl.1 rfl (lv_room (Nat.le_of_ble_eq_true rfl)) d_MO_combinator_169 ⟨Nat.le_of_ble_eq_true rfl, Nat.le_of_ble_eq_true rfl⟩) ?_
      refine W.eq (g2 := F0 m 172 ls [.long (wof 2 2), .int 2, .ref h0]) rfl ?_
      refine lv_lload_n hx hb d_MO_combinator_172 rfl (lv_at hl 4 rfl) ?_
      refine em_call (wr := [((f 22), .inl (cZ, 400, .inl mrk)), ((f 23), .inl (cI, 810, .inl wlk))]) (em_runV (As := [.int (nI 2), .long (wof 2 2), .long r_1]) (rest := []) ⟨hx, hb, hml, hown, hG⟩ (mo_overwrite l D cI cL cZ cC f h0 tn rm ln lx at_ bd fs dp on os bn df th tp mo_ ev ss so lk rs pt ot cl one two spn trm Gc 2 (wof 2 2) r_1 _ (by omega) (by omega) (by omega) hHG (okh_con 2 (by decide) (by decide)) hres_3 hsp hnt) (cwV 3 hG (gd_V k_1592 k_1594 k_94 k_116 k_1595) rfl rfl rfl (by decide +kernel) ⟨Nat.le_of_ble_eq_true rfl, Nat.le_of_ble_eq_true rfl⟩) (tw_V (q0 := 2) hP hD hK hE hst hS rfl rfl [2, 6, 3, 4, 5] rfl (by decide)) rfl rfl hl.1 rfl (lv_room (Nat.le_of_ble_eq_true rfl)) d_MO_combinator_173 ⟨Nat.le_of_ble_eq_true rfl, Nat.le_of_ble_eq_true rfl⟩) hP hD hS hA [2, 6, 3, 4, 5] [0, 1] rfl rfl (by decide) (by decide) (fun v u H locs hok hP hD hS => ?_) (fun x C u H locs hbad hxx hP hD hS => ?_)
      · skip
        obtain ⟨tp_7, lk_8, ss_9, one_10, two_11⟩ := u
        obtain ⟨rfl, hp_13⟩ := hok
        obtain ⟨hHG_14, htp_15, hlk_16, hss_17⟩ : (HG df Gc trm one_10 two_11) ∧ (tp_7 + 2 = tp + 1) ∧ (lk_8 = (wof 2 2)) ∧ (ss_9 = ss + 1) := hp_13
        have hP : va_P D classes [((f 22), .inl (cZ, 400, .inl mrk)), ((f 23), .inl (cI, 810, .inl wlk)), (h0, .inr (8, mS f tn rm ln lx at_ bd fs dp on os bn df th tp_7 mo_ ev ss_9 so lk_8 rs pt ot cl)), ((f 20), .inl (cL, 400, .inr (.inl one_10))), ((f 21), .inl (cL, 400, .inr (.inl two_11))), ((f 24), .inl (cI, 150, .inl spn)), ((f 18), .inl (cL, 9, .inr (.inl trm)))] H := hP
        have hD : va_D A [((f 22), .inl (cZ, 400, .inl mrk)), ((f 23), .inl (cI, 810, .inl wlk)), (h0, .inr (8, mS f tn rm ln lx at_ bd fs dp on os bn df th tp_7 mo_ ev ss_9 so lk_8 rs pt ot cl)), ((f 20), .inl (cL, 400, .inr (.inl one_10))), ((f 21), .inl (cL, 400, .inr (.inl two_11))), ((f 24), .inl (cI, 150, .inl spn)), ((f 18), .inl (cL, 9, .inr (.inl trm)))] := hD
        refine W.eq (g2 := F0 m 176 ls []) rfl ?_
        refine lv_goto (tgt := 330) hx hb d_MO_combinator_176 (by decide) ?_
        exact em_vret hx hb hr hlocks hP hD hK hS (tp_7, lk_8, ss_9, so, one_10, two_11, mrk, wlk) [2, 3, 4, 0, 1, 5, 6] (by decide) rfl ⟨rfl, ⟨hmrk, (show ∃ G' : Nat → Prop, MI df G' trm one_10 two_11 spn tp_7 lk_8 rs pt ∧ ((ss_9 = ss + 1 ∧ so = so ∧ tp ≤ tp_7 + 2) ∨ (ss_9 = ss ∧ ¬ so = 0 ∧ tp_7 = tp)) from ⟨Gc, ⟨hHG_14, (by rw [hlk_16]; exact (okh_con 2 (by decide) (by decide))), hrs, (by omega), (fun k hk => hsp k (by omega))⟩, Or.inl ⟨hss_17, rfl, by omega⟩⟩)⟩⟩ d_MO_combinator_330
      · skip
        exact hbad.elim
    · skip
      exact hbad.elim
  · skip
    exact hbad.elim
set_option maxHeartbeats 8000000 in
set_option maxRecDepth 100000 in
theorem mo_comb4 (l : Launch) (D : va_G) (cI cL cZ cC : ClassId) (f : Nat → Nat) (h0 : Nat) (tn : Int32) (rm : Nat) (ln : Nat) (lx : Nat) (at_ : Nat) (bd : Int32) (fs : Nat) (dp : Nat) (on : Nat) (os : Nat) (bn : Nat) (df : Nat) (th : Int32) (tp : Nat) (mo_ : Int32) (ev : Nat) (ss : Int32) (so : Int32) (lk : Int64) (rs : Int64) (pt : Int32) (ot : Nat) (cl : Int32) (one : Nat → Int64) (two : Nat → Int64) (mrk : Nat → Int32) (wlk : Nat → Int32) (spn : Nat → Int32) (trm : Nat → Int64) (Gc : Nat → Prop) (sz : Nat) (hmrk : bln mrk) (hMI : MI df Gc trm one two spn tp lk rs pt) (hrm : rm ≤ 400) (hneed : 3 ≤ tp) (hnt : l.stackTraces = false) : em_Met l y_MO_combinator (wz y_MO_combinator b_MO_combinator 13 none) ({ frames := 4, cells := 0, slots := 0, locals := 87 }) (va_Pc [.ref h0, .int 4] (tw_pre D (tys4 cI cL cZ cC) [(h0, .inr (8, mS f tn rm ln lx at_ bd fs dp on os bn df th tp mo_ ev ss so lk rs pt ot cl)), ((f 20), .inl (cL, 400, .inr (.inl one))), ((f 21), .inl (cL, 400, .inr (.inl two))), ((f 22), .inl (cZ, 400, .inl mrk)), ((f 23), .inl (cI, 810, .inl wlk)), ((f 24), .inl (cI, 150, .inl spn)), ((f 18), .inl (cL, 9, .inr (.inl trm)))] sz)) D (tys4 cI cL cZ cC) (va_A [(h0, .inr (8, mS f tn rm ln lx at_ bd fs dp on os bn df th tp mo_ ev ss so lk rs pt ot cl)), ((f 20), .inl (cL, 400, .inr (.inl one))), ((f 21), .inl (cL, 400, .inr (.inl two))), ((f 22), .inl (cZ, 400, .inl mrk)), ((f 23), .inl (cI, 810, .inl wlk)), ((f 24), .inl (cI, 150, .inl spn)), ((f 18), .inl (cL, 9, .inr (.inl trm)))] sz) (fun (u : Nat × Int64 × Int32 × Int32 × (Nat → Int64) × (Nat → Int64) × (Nat → Int32) × (Nat → Int32)) => [(h0, .inr (8, mS f tn rm ln lx at_ bd fs dp on os bn df th u.1 mo_ ev u.2.2.1 u.2.2.2.1 u.2.1 rs pt ot cl)), ((f 20), .inl (cL, 400, .inr (.inl u.2.2.2.2.1))), ((f 21), .inl (cL, 400, .inr (.inl u.2.2.2.2.2.1))), ((f 22), .inl (cZ, 400, .inl u.2.2.2.2.2.2.1)), ((f 23), .inl (cI, 810, .inl u.2.2.2.2.2.2.2)), ((f 24), .inl (cI, 150, .inl spn)), ((f 18), .inl (cL, 9, .inr (.inl trm)))]) (fun v (u : Nat × Int64 × Int32 × Int32 × (Nat → Int64) × (Nat → Int64) × (Nat → Int32) × (Nat → Int32)) => v = none ∧ ((bln u.2.2.2.2.2.2.1) ∧ (∃ G' : Nat → Prop, MI df G' trm u.2.2.2.2.1 u.2.2.2.2.2.1 spn u.1 u.2.1 rs pt ∧ ((u.2.2.1 = ss + 1 ∧ u.2.2.2.1 = so ∧ tp ≤ u.1 + 3) ∨ (u.2.2.1 = ss ∧ ¬ u.2.2.2.1 = 0 ∧ u.1 = tp))))) (fun C (u : Nat × Int64 × Int32 × Int32 × (Nat → Int64) × (Nat → Int64) × (Nat → Int32) × (Nat → Int32)) => False) 0 0 := by
  refine em_Met.ofW (cc := b_MO_combinator) (maxL := 13) (ret := none) (by decide) rfl ?_
  intro p e s m args below meth c s₁ B hml hv hno
  obtain ⟨rfl, ⟨hsz, hP, hK, hD0⟩, hE⟩ := hv
  have hx := B.exec
  have hb := B.bytes
  have hr := B.returns
  have hts := atoms_spec (ws := wz y_MO_combinator b_MO_combinator 13 none) B.pre
  have hG := wz_G hts
  have hown : s.vm.findClass rn_MO = some m.cls := findClass_of_methodNamed B.named
  have hlocks := B.notSynchronized
  subst hsz
  have hD := hD0.self (sz := s.heap.size)
  have hst := tw_st hP
  generalize hAe : va_A [(h0, .inr (8, mS f tn rm ln lx at_ bd fs dp on os bn df th tp mo_ ev ss so lk rs pt ot cl)), ((f 20), .inl (cL, 400, .inr (.inl one))), ((f 21), .inl (cL, 400, .inr (.inl two))), ((f 22), .inl (cZ, 400, .inl mrk)), ((f 23), .inl (cI, 810, .inl wlk)), ((f 24), .inl (cI, 150, .inl spn)), ((f 18), .inl (cL, 9, .inr (.inl trm)))] s.heap.size = A at hD hst ⊢
  have hA : ∀ q : Nat, s.heap.size ≤ q → A q := fun q h => by rw [← hAe]; exact Or.inr h
  have hS : va_S A s.heap s.heap [] := va_S.rf
  have hl := lv_entry ([.ref h0, .int 4]) (n := 13) (Nat.le_of_ble_eq_true rfl)
  rw [lg_entry_eq]
  generalize (lg_sl ([.ref h0, .int 4]) ++ List.replicate (13 - (lg_sl ([.ref h0, .int 4])).length) Slot.unset).toArray = ls at hl ⊢
  have hl : lv_has ls 13 [(0, .ref h0), (1, .int 4)] := hl
  obtain ⟨hHG, hlk, hrs, htp, hsp⟩ := id hMI
  refine lv_aload_n hx hb d_MO_combinator_0 rfl (lv_at hl 0 rfl) ?_
  refine lv_iconst (v := 0) hx hb d_MO_combinator_1 (by decide) ?_
  refine em_call (wr := [((f 22), .inl (cZ, 400, .inl mrk)), ((f 23), .inl (cI, 810, .inl wlk))]) (em_runV (As := [.int (nI 0)]) (rest := []) ⟨hx, hb, hml, hown, hG⟩ (mo_argument l D cI cL cZ cC f h0 tn rm ln lx at_ bd fs dp on os bn df th tp mo_ ev ss so lk rs pt ot cl two spn trm one Gc 0 _ (by omega) (by omega) hHG hsp hnt) (cwV 1 hG (gd_V k_1581 k_1583 k_92 k_116 k_1584) rfl rfl rfl (by decide +kernel) ⟨Nat.le_of_ble_eq_true rfl, Nat.le_of_ble_eq_true rfl⟩) (tw_V (q0 := 0) hP hD hK hE hst hS rfl rfl [0, 2, 5, 6, 1] rfl (by decide)) rfl rfl hl.1 rfl (lv_room (Nat.le_of_ble_eq_true rfl)) d_MO_combinator_2 ⟨Nat.le_of_ble_eq_true rfl, Nat.le_of_ble_eq_true rfl⟩) hP hD hS hA [0, 2, 5, 6, 1] [3, 4] rfl rfl (by decide) (by decide) (fun v u H locs hok hP hD hS => ?_) (fun x C u H locs hbad hxx hP hD hS => ?_)
  · skip
    obtain ⟨r_1, rfl, hp_2⟩ := hok
    have hres_3 : (okh df Gc r_1) := hp_2
    have hP : va_P D classes [((f 22), .inl (cZ, 400, .inl mrk)), ((f 23), .inl (cI, 810, .inl wlk)), (h0, .inr (8, mS f tn rm ln lx at_ bd fs dp on os bn df th tp mo_ ev ss so lk rs pt ot cl)), ((f 21), .inl (cL, 400, .inr (.inl two))), ((f 24), .inl (cI, 150, .inl spn)), ((f 18), .inl (cL, 9, .inr (.inl trm))), ((f 20), .inl (cL, 400, .inr (.inl one)))] H := hP
    have hD : va_D A [((f 22), .inl (cZ, 400, .inl mrk)), ((f 23), .inl (cI, 810, .inl wlk)), (h0, .inr (8, mS f tn rm ln lx at_ bd fs dp on os bn df th tp mo_ ev ss so lk rs pt ot cl)), ((f 21), .inl (cL, 400, .inr (.inl two))), ((f 24), .inl (cI, 150, .inl spn)), ((f 18), .inl (cL, 9, .inr (.inl trm))), ((f 20), .inl (cL, 400, .inr (.inl one)))] := hD
    refine W.eq (g2 := F0 m 5 ls [.long r_1]) rfl ?_
    refine lv_lstore_n (lv' := [(2, .long r_1), (0, .ref h0), (1, .int 4)]) hx hb d_MO_combinator_5 rfl hl (Nat.le_of_ble_eq_true rfl) rfl (fun ls hl => ?_)
    refine lv_iload_n hx hb d_MO_combinator_6 rfl (lv_at hl 2 rfl) ?_
    refine lv_iconst (v := 2) hx hb d_MO_combinator_7 (by decide) ?_
    refine lv_icmp_le (tgt := 19) hx hb d_MO_combinator_8 (by decide) (fun hbr => absurd hbr (by decide)) (fun hbr => ?_)
    refine lv_aload_n hx hb d_MO_combinator_11 rfl (lv_at hl 1 rfl) ?_
    refine lv_iconst (v := 1) hx hb d_MO_combinator_12 (by decide) ?_
    refine em_call (wr := [((f 22), .inl (cZ, 400, .inl mrk)), ((f 23), .inl (cI, 810, .inl wlk))]) (em_runV (As := [.int (nI 1)]) (rest := []) ⟨hx, hb, hml, hown, hG⟩ (mo_argument l D cI cL cZ cC f h0 tn rm ln lx at_ bd fs dp on os bn df th tp mo_ ev ss so lk rs pt ot cl two spn trm one Gc 1 _ (by omega) (by omega) hHG hsp hnt) (cwV 1 hG (gd_V k_1581 k_1583 k_92 k_116 k_1584) rfl rfl rfl (by decide +kernel) ⟨Nat.le_of_ble_eq_true rfl, Nat.le_of_ble_eq_true rfl⟩) (tw_V (q0 := 2) hP hD hK hE hst hS rfl rfl [2, 3, 4, 5, 6] rfl (by decide)) rfl rfl hl.1 rfl (lv_room (Nat.le_of_ble_eq_true rfl)) d_MO_combinator_13 ⟨Nat.le_of_ble_eq_true rfl, Nat.le_of_ble_eq_true rfl⟩) hP hD hS hA [2, 3, 4, 5, 6] [0, 1] rfl rfl (by decide) (by decide) (fun v u H locs hok hP hD hS => ?_) (fun x C u H locs hbad hxx hP hD hS => ?_)
    · skip
      obtain ⟨r_4, rfl, hp_5⟩ := hok
      have hres_6 : (okh df Gc r_4) := hp_5
      have hP : va_P D classes [((f 22), .inl (cZ, 400, .inl mrk)), ((f 23), .inl (cI, 810, .inl wlk)), (h0, .inr (8, mS f tn rm ln lx at_ bd fs dp on os bn df th tp mo_ ev ss so lk rs pt ot cl)), ((f 21), .inl (cL, 400, .inr (.inl two))), ((f 24), .inl (cI, 150, .inl spn)), ((f 18), .inl (cL, 9, .inr (.inl trm))), ((f 20), .inl (cL, 400, .inr (.inl one)))] H := hP
      have hD : va_D A [((f 22), .inl (cZ, 400, .inl mrk)), ((f 23), .inl (cI, 810, .inl wlk)), (h0, .inr (8, mS f tn rm ln lx at_ bd fs dp on os bn df th tp mo_ ev ss so lk rs pt ot cl)), ((f 21), .inl (cL, 400, .inr (.inl two))), ((f 24), .inl (cI, 150, .inl spn)), ((f 18), .inl (cL, 9, .inr (.inl trm))), ((f 20), .inl (cL, 400, .inr (.inl one)))] := hD
      refine W.eq (g2 := F0 m 16 ls [.long r_4]) rfl ?_
      refine lv_goto (tgt := 20) hx hb d_MO_combinator_16 (by decide) ?_
      refine lv_lstore (lv' := [(4, .long r_4), (2, .long r_1), (0, .ref h0), (1, .int 4)]) hx hb d_MO_combinator_20 hl (Nat.le_of_ble_eq_true rfl) rfl (fun ls hl => ?_)
      refine lv_iload_n hx hb d_MO_combinator_22 rfl (lv_at hl 3 rfl) ?_
      refine W.callR (W.runS (As := [.int 4]) (rest := []) ⟨hx, hb, hml, hown, hG⟩ (mo_needs l D cI cL cZ cC 4 ) (cwS 1 hG (gd_S k_1621 k_1622 k_116 k_1623) rfl rfl rfl (by decide +kernel) ⟨Nat.le_of_ble_eq_true rfl, Nat.le_of_ble_eq_true rfl⟩) (wq_S hP hK [] rfl) rfl rfl hl.1 rfl (lv_room (Nat.le_of_ble_eq_true rfl)) d_MO_combinator_23 ⟨Nat.le_of_ble_eq_true rfl, Nat.le_of_ble_eq_true rfl⟩) ?_
      refine W.eq (g2 := F0 m 26 ls [.int (mneeds (4 : Int32))]) rfl ?_
      refine W.eq (g2 := F0 m 26 ls [.int 3]) (by rw [show mneeds 4 = 3 by decide]) ?_
      refine lv_iconst (v := 2) hx hb d_MO_combinator_26 (by decide) ?_
      refine lv_icmp_le (tgt := 38) hx hb d_MO_combinator_27 (by decide) (fun hbr => absurd hbr (by decide)) (fun hbr => ?_)
      refine lv_aload_n hx hb d_MO_combinator_30 rfl (lv_at hl 2 rfl) ?_
      refine lv_iconst (v := 2) hx hb d_MO_combinator_31 (by decide) ?_
      refine em_call (wr := [((f 22), .inl (cZ, 400, .inl mrk)), ((f 23), .inl (cI, 810, .inl wlk))]) (em_runV (As := [.int (nI 2)]) (rest := []) ⟨hx, hb, hml, hown, hG⟩ (mo_argument l D cI cL cZ cC f h0 tn rm ln lx at_ bd fs dp on os bn df th tp mo_ ev ss so lk rs pt ot cl two spn trm one Gc 2 _ (by omega) (by omega) hHG hsp hnt) (cwV 1 hG (gd_V k_1581 k_1583 k_92 k_116 k_1584) rfl rfl rfl (by decide +kernel) ⟨Nat.le_of_ble_eq_true rfl, Nat.le_of_ble_eq_true rfl⟩) (tw_V (q0 := 2) hP hD hK hE hst hS rfl rfl [2, 3, 4, 5, 6] rfl (by decide)) rfl rfl hl.1 rfl (lv_room (Nat.le_of_ble_eq_true rfl)) d_MO_combinator_32 ⟨Nat.le_of_ble_eq_true rfl, Nat.le_of_ble_eq_true rfl⟩) hP hD hS hA [2, 3, 4, 5, 6] [0, 1] rfl rfl (by decide) (by decide) (fun v u H locs hok hP hD hS => ?_) (fun x C u H locs hbad hxx hP hD hS => ?_)
      · skip
        obtain ⟨r_7, rfl, hp_8⟩ := hok
        have hres_9 : (okh df Gc r_7) := hp_8
        have hP : va_P D classes [((f 22), .inl (cZ, 400, .inl mrk)), ((f 23), .inl (cI, 810, .inl wlk)), (h0, .inr (8, mS f tn rm ln lx at_ bd fs dp on os bn df th tp mo_ ev ss so lk rs pt ot cl)), ((f 21), .inl (cL, 400, .inr (.inl two))), ((f 24), .inl (cI, 150, .inl spn)), ((f 18), .inl (cL, 9, .inr (.inl trm))), ((f 20), .inl (cL, 400, .inr (.inl one)))] H := hP
        have hD : va_D A [((f 22), .inl (cZ, 400, .inl mrk)), ((f 23), .inl (cI, 810, .inl wlk)), (h0, .inr (8, mS f tn rm ln lx at_ bd fs dp on os bn df th tp mo_ ev ss so lk rs pt ot cl)), ((f 21), .inl (cL, 400, .inr (.inl two))), ((f 24), .inl (cI, 150, .inl spn)), ((f 18), .inl (cL, 9, .inr (.inl trm))), ((f 20), .inl (cL, 400, .inr (.inl one)))] := hD
        refine W.eq (g2 := F0 m 35 ls [.long r_7]) rfl ?_
        refine lv_goto (tgt := 39) hx hb d_MO_combinator_35 (by decide) ?_
        refine lv_lstore (lv' := [(6, .long r_7), (4, .long r_4), (2, .long r_1), (0, .ref h0), (1, .int 4)]) hx hb d_MO_combinator_39 hl (Nat.le_of_ble_eq_true rfl) rfl (fun ls hl => ?_)
        refine lv_iload_n hx hb d_MO_combinator_41 rfl (lv_at hl 4 rfl) ?_
        refine W.callR (W.runS (As := [.int 4]) (rest := []) ⟨hx, hb, hml, hown, hG⟩ (mo_needs l D cI cL cZ cC 4 ) (cwS 1 hG (gd_S k_1621 k_1622 k_116 k_1623) rfl rfl rfl (by decide +kernel) ⟨Nat.le_of_ble_eq_true rfl, Nat.le_of_ble_eq_true rfl⟩) (wq_S hP hK [] rfl) rfl rfl hl.1 rfl (lv_room (Nat.le_of_ble_eq_true rfl)) d_MO_combinator_42 ⟨Nat.le_of_ble_eq_true rfl, Nat.le_of_ble_eq_true rfl⟩) ?_
        refine W.eq (g2 := F0 m 45 ls [.int (mneeds (4 : Int32))]) rfl ?_
        refine W.eq (g2 := F0 m 45 ls [.int 3]) (by rw [show mneeds 4 = 3 by decide]) ?_
        refine lv_iconst (v := 3) hx hb d_MO_combinator_45 (by decide) ?_
        refine lv_icmp_le (tgt := 57) hx hb d_MO_combinator_46 (by decide) (fun hbr => ?_) (fun hbr => absurd (by decide) hbr)
        refine lv_lconst (v := 0) hx hb d_MO_combinator_57 (by decide) ?_
        refine lv_lstore (lv' := [(8, .long 0), (6, .long r_7), (4, .long r_4), (2, .long r_1), (0, .ref h0), (1, .int 4)]) hx hb d_MO_combinator_58 hl (Nat.le_of_ble_eq_true rfl) rfl (fun ls hl => ?_)
        refine lv_iload_n hx hb d_MO_combinator_60 rfl (lv_at hl 5 rfl) ?_
        refine lv_iconst (v := 4) hx hb d_MO_combinator_61 (by decide) ?_
        refine lv_icmp_ne (tgt := 69) hx hb d_MO_combinator_62 (by decide) (fun hbr => absurd (by decide) hbr) (fun hbr => ?_)
        refine lv_iconst (v := 2) hx hb d_MO_combinator_65 (by decide) ?_
        refine lv_goto (tgt := 111) hx hb d_MO_combinator_66 (by decide) ?_
        refine lv_istore (lv' := [(10, .int 2), (8, .long 0), (6, .long r_7), (4, .long r_4), (2, .long r_1), (0, .ref h0), (1, .int 4)]) hx hb d_MO_combinator_111 hl (Nat.le_of_ble_eq_true rfl) rfl (fun ls hl => ?_)
        refine lv_iload hx hb d_MO_combinator_113 (lv_at hl 0 rfl) ?_
        refine lv_if_le (tgt := 128) hx hb d_MO_combinator_115 (by decide) (fun hbr => absurd hbr (by decide)) (fun hbr => ?_)
        refine lv_aload_n hx hb d_MO_combinator_118 rfl (lv_at hl 5 rfl) ?_
        refine lv_iload hx hb d_MO_combinator_119 (lv_at hl 0 rfl) ?_
        refine em_call (wr := []) (em_runV (As := [.int (nI 2)]) (rest := []) ⟨hx, hb, hml, hown, hG⟩ (mo_fits l D cI cL cZ cC f h0 tn rm ln lx at_ bd fs dp on os bn df th tp mo_ ev ss so lk rs pt ot cl mrk wlk trm one two spn Gc 2 _ hmrk (by decide) hrm hHG hlk hrs htp hsp hnt) (cwV 1 hG (gd_V k_1628 k_1630 k_102 k_116 k_1631) rfl rfl rfl (by decide +kernel) ⟨Nat.le_of_ble_eq_true rfl, Nat.le_of_ble_eq_true rfl⟩) (tw_V (q0 := 2) hP hD hK hE hst hS rfl rfl [2, 0, 1, 5, 6, 3, 4] rfl (by decide)) rfl rfl hl.1 rfl (lv_room (Nat.le_of_ble_eq_true rfl)) d_MO_combinator_121 ⟨Nat.le_of_ble_eq_true rfl, Nat.le_of_ble_eq_true rfl⟩) hP hD hS hA [2, 0, 1, 5, 6, 3, 4] [] rfl rfl (by decide) (by decide) (fun v u H locs hok hP hD hS => ?_) (fun x C u H locs hbad hxx hP hD hS => ?_)
        · skip
          obtain ⟨so_10, mrk_11, wlk_12⟩ := u
          obtain ⟨r_13, rfl, hp_14⟩ := hok
          obtain ⟨hmrk_15, hres_16⟩ : (bln mrk_11) ∧ (((r_13 = 1 ∧ so_10 = so ∧ so = 0 ∧ sm (gn mrk_11) 400 + 2 ≤ rm) ∨ (r_13 = 0 ∧ ¬ so_10 = 0))) := hp_14
          have hP : va_P D classes [(h0, .inr (8, mS f tn rm ln lx at_ bd fs dp on os bn df th tp mo_ ev ss so_10 lk rs pt ot cl)), ((f 22), .inl (cZ, 400, .inl mrk_11)), ((f 23), .inl (cI, 810, .inl wlk_12)), ((f 18), .inl (cL, 9, .inr (.inl trm))), ((f 20), .inl (cL, 400, .inr (.inl one))), ((f 21), .inl (cL, 400, .inr (.inl two))), ((f 24), .inl (cI, 150, .inl spn))] H := hP
          have hD : va_D A [(h0, .inr (8, mS f tn rm ln lx at_ bd fs dp on os bn df th tp mo_ ev ss so_10 lk rs pt ot cl)), ((f 22), .inl (cZ, 400, .inl mrk_11)), ((f 23), .inl (cI, 810, .inl wlk_12)), ((f 18), .inl (cL, 9, .inr (.inl trm))), ((f 20), .inl (cL, 400, .inr (.inl one))), ((f 21), .inl (cL, 400, .inr (.inl two))), ((f 24), .inl (cI, 150, .inl spn))] := hD
          rcases hres_16 with ⟨rfl, hy_17a, hy_17b, hy_17c⟩ | ⟨rfl, hy_17a⟩
          · skip
            refine W.eq (g2 := F0 m 124 ls [.int 1]) rfl ?_
            refine lv_if_ne (tgt := 128) hx hb d_MO_combinator_124 (by decide) (fun hbr => ?_) (fun hbr => absurd hbr (by decide))
            refine lv_iload_n hx hb d_MO_combinator_128 rfl (lv_at hl 6 rfl) ?_
            refine lv_iconst (v := 2) hx hb d_MO_combinator_129 (by decide) ?_
            refine lv_icmp_ne (tgt := 161) hx hb d_MO_combinator_130 (by decide) (fun hbr => ?_) (fun hbr => absurd hbr (by decide))
            refine lv_iload_n hx hb d_MO_combinator_161 rfl (lv_at hl 6 rfl) ?_
            refine lv_iconst (v := 3) hx hb d_MO_combinator_162 (by decide) ?_
            refine lv_icmp_ne (tgt := 179) hx hb d_MO_combinator_163 (by decide) (fun hbr => ?_) (fun hbr => absurd hbr (by decide))
            refine lv_iload_n hx hb d_MO_combinator_179 rfl (lv_at hl 6 rfl) ?_
            refine lv_iconst (v := 4) hx hb d_MO_combinator_180 (by decide) ?_
            refine lv_icmp_ne (tgt := 211) hx hb d_MO_combinator_181 (by decide) (fun hbr => absurd (by decide) hbr) (fun hbr => ?_)
            refine lv_aload_n hx hb d_MO_combinator_184 rfl (lv_at hl 5 rfl) ?_
            refine lv_lload_n hx hb d_MO_combinator_185 rfl (lv_at hl 4 rfl) ?_
            refine lv_lload hx hb d_MO_combinator_186 (lv_at hl 2 rfl) ?_
            refine em_call (wr := [((f 23), .inl (cI, 810, .inl wlk_12)), ((f 24), .inl (cI, 150, .inl spn))]) (em_runV (As := [.long r_1, .long r_7]) (rest := []) ⟨hx, hb, hml, hown, hG⟩ (mo_made l D cI cL cZ cC f h0 tn rm ln lx at_ bd fs dp on os bn df th tp mo_ ev ss so_10 lk rs pt ot cl mrk_11 one two trm Gc r_1 r_7 _ hmrk_15 hHG hres_3 hres_9 (by omega) hnt) (cwV 2 hG (gd_V k_1640 k_1642 k_105 k_116 k_1643) rfl rfl rfl (by decide +kernel) ⟨Nat.le_of_ble_eq_true rfl, Nat.le_of_ble_eq_true rfl⟩) (tw_V (q0 := 0) hP hD hK hE hst hS rfl rfl [0, 1, 4, 5, 3] rfl (by decide)) rfl rfl hl.1 rfl (lv_room (Nat.le_of_ble_eq_true rfl)) d_MO_combinator_188 ⟨Nat.le_of_ble_eq_true rfl, Nat.le_of_ble_eq_true rfl⟩) hP hD hS hA [0, 1, 4, 5, 3] [2, 6] rfl rfl (by decide) (by decide) (fun v u H locs hok hP hD hS => ?_) (fun x C u H locs hbad hxx hP hD hS => ?_)
            · skip
              obtain ⟨mrk_18, one_19, two_20⟩ := u
              obtain ⟨r_21, rfl, hp_22⟩ := hok
              obtain ⟨hmrk_23, hres_24⟩ : (bln mrk_18) ∧ (∃ G' : Nat → Prop, (∀ c, Gc c → G' c) ∧ HG df G' trm one_19 two_20 ∧ okh df G' r_21 ∧ sm (gn mrk_18) 400 = sm (gn mrk_11) 400 + 1) := hp_22
              obtain ⟨G_25, hG_25a, hG_25b, hG_25c, hG_25d⟩ := hres_24
              have hP : va_P D classes [((f 23), .inl (cI, 810, .inl wlk_12)), ((f 24), .inl (cI, 150, .inl spn)), (h0, .inr (8, mS f tn rm ln lx at_ bd fs dp on os bn df th tp mo_ ev ss so_10 lk rs pt ot cl)), ((f 22), .inl (cZ, 400, .inl mrk_18)), ((f 20), .inl (cL, 400, .inr (.inl one_19))), ((f 21), .inl (cL, 400, .inr (.inl two_20))), ((f 18), .inl (cL, 9, .inr (.inl trm)))] H := hP
              have hD : va_D A [((f 23), .inl (cI, 810, .inl wlk_12)), ((f 24), .inl (cI, 150, .inl spn)), (h0, .inr (8, mS f tn rm ln lx at_ bd fs dp on os bn df th tp mo_ ev ss so_10 lk rs pt ot cl)), ((f 22), .inl (cZ, 400, .inl mrk_18)), ((f 20), .inl (cL, 400, .inr (.inl one_19))), ((f 21), .inl (cL, 400, .inr (.inl two_20))), ((f 18), .inl (cL, 9, .inr (.inl trm)))] := hD
              refine W.eq (g2 := F0 m 191 ls [.long r_21]) rfl ?_
              refine lv_lstore (lv' := [(11, .long r_21), (10, .int 2), (8, .long 0), (6, .long r_7), (4, .long r_4), (2, .long r_1), (0, .ref h0), (1, .int 4)]) hx hb d_MO_combinator_191 hl (Nat.le_of_ble_eq_true rfl) rfl (fun ls hl => ?_)
              refine lv_aload_n hx hb d_MO_combinator_193 rfl (lv_at hl 6 rfl) ?_
              refine lv_iconst (v := 3) hx hb d_MO_combinator_194 (by decide) ?_
              refine lv_lload hx hb d_MO_combinator_195 (lv_at hl 0 rfl) ?_
              refine lv_aload_n hx hb d_MO_combinator_197 rfl (lv_at hl 6 rfl) ?_
              refine lv_lload hx hb d_MO_combinator_198 (lv_at hl 4 rfl) ?_
              refine lv_lload hx hb d_MO_combinator_200 (lv_at hl 3 rfl) ?_
              refine em_call (wr := [((f 23), .inl (cI, 810, .inl wlk_12)), ((f 24), .inl (cI, 150, .inl spn))]) (em_runV (As := [.long r_4, .long r_7]) (rest := [.long r_21, .int 3, .ref h0]) ⟨hx, hb, hml, hown, hG⟩ (mo_made l D cI cL cZ cC f h0 tn rm ln lx at_ bd fs dp on os bn df th tp mo_ ev ss so_10 lk rs pt ot cl mrk_18 one_19 two_20 trm G_25 r_4 r_7 _ hmrk_23 hG_25b (okh_mono hG_25a hres_6) (okh_mono hG_25a hres_9) (by omega) hnt) (cwV 2 hG (gd_V k_1640 k_1642 k_105 k_116 k_1643) rfl rfl rfl (by decide +kernel) ⟨Nat.le_of_ble_eq_true rfl, Nat.le_of_ble_eq_true rfl⟩) (tw_V (q0 := 2) hP hD hK hE hst hS rfl rfl [2, 3, 4, 5, 6] rfl (by decide)) rfl rfl hl.1 rfl (lv_room (Nat.le_of_ble_eq_true rfl)) d_MO_combinator_202 ⟨Nat.le_of_ble_eq_true rfl, Nat.le_of_ble_eq_true rfl⟩) hP hD hS hA [2, 3, 4, 5, 6] [0, 1] rfl rfl (by decide) (by decide) (fun v u H locs hok hP hD hS => ?_) (fun x C u H locs hbad hxx hP hD hS => ?_)
              · skip
                obtain ⟨mrk_26, one_27, two_28⟩ := u
                obtain ⟨r_29, rfl, hp_30⟩ := hok
                obtain ⟨hmrk_31, hres_32⟩ : (bln mrk_26) ∧ (∃ G' : Nat → Prop, (∀ c, G_25 c → G' c) ∧ HG df G' trm one_27 two_28 ∧ okh df G' r_29 ∧ sm (gn mrk_26) 400 = sm (gn mrk_18) 400 + 1) := hp_30
                obtain ⟨G_33, hG_33a, hG_33b, hG_33c, hG_33d⟩ := hres_32
                have hP : va_P D classes [((f 23), .inl (cI, 810, .inl wlk_12)), ((f 24), .inl (cI, 150, .inl spn)), (h0, .inr (8, mS f tn rm ln lx at_ bd fs dp on os bn df th tp mo_ ev ss so_10 lk rs pt ot cl)), ((f 22), .inl (cZ, 400, .inl mrk_26)), ((f 20), .inl (cL, 400, .inr (.inl one_27))), ((f 21), .inl (cL, 400, .inr (.inl two_28))), ((f 18), .inl (cL, 9, .inr (.inl trm)))] H := hP
                have hD : va_D A [((f 23), .inl (cI, 810, .inl wlk_12)), ((f 24), .inl (cI, 150, .inl spn)), (h0, .inr (8, mS f tn rm ln lx at_ bd fs dp on os bn df th tp mo_ ev ss so_10 lk rs pt ot cl)), ((f 22), .inl (cZ, 400, .inl mrk_26)), ((f 20), .inl (cL, 400, .inr (.inl one_27))), ((f 21), .inl (cL, 400, .inr (.inl two_28))), ((f 18), .inl (cL, 9, .inr (.inl trm)))] := hD
                refine W.eq (g2 := F0 m 205 ls [.long r_29, .long r_21, .int 3, .ref h0]) rfl ?_
                refine em_call (wr := [((f 23), .inl (cI, 810, .inl wlk_12)), ((f 22), .inl (cZ, 400, .inl mrk_26))]) (em_runV (As := [.int (nI 3), .long r_21, .long r_29]) (rest := []) ⟨hx, hb, hml, hown, hG⟩ (mo_overwrite l D cI cL cZ cC f h0 tn rm ln lx at_ bd fs dp on os bn df th tp mo_ ev ss so_10 lk rs pt ot cl one_27 two_28 spn trm G_33 3 r_21 r_29 _ (by omega) (by omega) (by omega) hG_33b (okh_mono hG_33a hG_25c) hG_33c (sp_up hG_33a (sp_up hG_25a hsp)) hnt) (cwV 3 hG (gd_V k_1592 k_1594 k_94 k_116 k_1595) rfl rfl rfl (by decide +kernel) ⟨Nat.le_of_ble_eq_true rfl, Nat.le_of_ble_eq_true rfl⟩) (tw_V (q0 := 2) hP hD hK hE hst hS rfl rfl [2, 4, 5, 1, 6] rfl (by decide)) rfl rfl hl.1 rfl (lv_room (Nat.le_of_ble_eq_true rfl)) d_MO_combinator_205 ⟨Nat.le_of_ble_eq_true rfl, Nat.le_of_ble_eq_true rfl⟩) hP hD hS hA [2, 4, 5, 1, 6] [0, 3] rfl rfl (by decide) (by decide) (fun v u H locs hok hP hD hS => ?_) (fun x C u H locs hbad hxx hP hD hS => ?_)
                · skip
                  obtain ⟨tp_34, lk_35, ss_36, one_37, two_38⟩ := u
                  obtain ⟨rfl, hp_40⟩ := hok
                  obtain ⟨hHG_41, htp_42, hlk_43, hss_44⟩ : (HG df G_33 trm one_37 two_38) ∧ (tp_34 + 3 = tp + 1) ∧ (lk_35 = r_21) ∧ (ss_36 = ss + 1) := hp_40
                  have hP : va_P D classes [((f 23), .inl (cI, 810, .inl wlk_12)), ((f 22), .inl (cZ, 400, .inl mrk_26)), (h0, .inr (8, mS f tn rm ln lx at_ bd fs dp on os bn df th tp_34 mo_ ev ss_36 so_10 lk_35 rs pt ot cl)), ((f 20), .inl (cL, 400, .inr (.inl one_37))), ((f 21), .inl (cL, 400, .inr (.inl two_38))), ((f 24), .inl (cI, 150, .inl spn)), ((f 18), .inl (cL, 9, .inr (.inl trm)))] H := hP
                  have hD : va_D A [((f 23), .inl (cI, 810, .inl wlk_12)), ((f 22), .inl (cZ, 400, .inl mrk_26)), (h0, .inr (8, mS f tn rm ln lx at_ bd fs dp on os bn df th tp_34 mo_ ev ss_36 so_10 lk_35 rs pt ot cl)), ((f 20), .inl (cL, 400, .inr (.inl one_37))), ((f 21), .inl (cL, 400, .inr (.inl two_38))), ((f 24), .inl (cI, 150, .inl spn)), ((f 18), .inl (cL, 9, .inr (.inl trm)))] := hD
                  refine W.eq (g2 := F0 m 208 ls []) rfl ?_
                  refine lv_goto (tgt := 330) hx hb d_MO_combinator_208 (by decide) ?_
                  exact em_vret hx hb hr hlocks hP hD hK hS (tp_34, lk_35, ss_36, so_10, one_37, two_38, mrk_26, wlk_12) [2, 3, 4, 1, 0, 5, 6] (by decide) rfl ⟨rfl, ⟨hmrk_31, (show ∃ G' : Nat → Prop, MI df G' trm one_37 two_38 spn tp_34 lk_35 rs pt ∧ ((ss_36 = ss + 1 ∧ so_10 = so ∧ tp ≤ tp_34 + 3) ∨ (ss_36 = ss ∧ ¬ so_10 = 0 ∧ tp_34 = tp)) from ⟨G_33, ⟨hHG_41, (by rw [hlk_43]; exact (okh_mono hG_33a hG_25c)), (fun q => okh_mono hG_33a ((fun q => okh_mono hG_25a (hrs q)) q)), (by omega), (fun k hk => (sp_up hG_33a (sp_up hG_25a hsp)) k (by omega))⟩, Or.inl ⟨hss_44, hy_17a, by omega⟩⟩)⟩⟩ d_MO_combinator_330
                · skip
                  exact hbad.elim
              · skip
                exact hbad.elim
            · skip
              exact hbad.elim
          · skip
            refine W.eq (g2 := F0 m 124 ls [.int 0]) rfl ?_
            refine lv_if_ne (tgt := 128) hx hb d_MO_combinator_124 (by decide) (fun hbr => absurd (by decide) hbr) (fun hbr => ?_)
            exact em_vret hx hb hr hlocks hP hD hK hS (tp, lk, ss, so_10, one, two, mrk_11, wlk_12) [0, 4, 5, 1, 2, 6, 3] (by decide) rfl ⟨rfl, ⟨hmrk_15, (show ∃ G' : Nat → Prop, MI df G' trm one two spn tp lk rs pt ∧ ((ss = ss + 1 ∧ so_10 = so ∧ tp ≤ tp + 3) ∨ (ss = ss ∧ ¬ so_10 = 0 ∧ tp = tp)) from ⟨Gc, hMI, Or.inr ⟨rfl, hy_17a, rfl⟩⟩)⟩⟩ d_MO_combinator_127
        · skip
          exact hbad.elim
      · skip
        exact hbad.elim
    · skip
      exact hbad.elim
  · skip
    exact hbad.elim
set_option maxHeartbeats 8000000 in
set_option maxRecDepth 100000 in
theorem mo_comb5 (l : Launch) (D : va_G) (cI cL cZ cC : ClassId) (f : Nat → Nat) (h0 : Nat) (tn : Int32) (rm : Nat) (ln : Nat) (lx : Nat) (at_ : Nat) (bd : Int32) (fs : Nat) (dp : Nat) (on : Nat) (os : Nat) (bn : Nat) (df : Nat) (th : Int32) (tp : Nat) (mo_ : Int32) (ev : Nat) (ss : Int32) (so : Int32) (lk : Int64) (rs : Int64) (pt : Int32) (ot : Nat) (cl : Int32) (one : Nat → Int64) (two : Nat → Int64) (mrk : Nat → Int32) (wlk : Nat → Int32) (spn : Nat → Int32) (trm : Nat → Int64) (Gc : Nat → Prop) (sz : Nat) (hmrk : bln mrk) (hMI : MI df Gc trm one two spn tp lk rs pt) (hrm : rm ≤ 400) (hneed : 3 ≤ tp) (hnt : l.stackTraces = false) : em_Met l y_MO_combinator (wz y_MO_combinator b_MO_combinator 13 none) ({ frames := 4, cells := 0, slots := 0, locals := 87 }) (va_Pc [.ref h0, .int 5] (tw_pre D (tys4 cI cL cZ cC) [(h0, .inr (8, mS f tn rm ln lx at_ bd fs dp on os bn df th tp mo_ ev ss so lk rs pt ot cl)), ((f 20), .inl (cL, 400, .inr (.inl one))), ((f 21), .inl (cL, 400, .inr (.inl two))), ((f 22), .inl (cZ, 400, .inl mrk)), ((f 23), .inl (cI, 810, .inl wlk)), ((f 24), .inl (cI, 150, .inl spn)), ((f 18), .inl (cL, 9, .inr (.inl trm)))] sz)) D (tys4 cI cL cZ cC) (va_A [(h0, .inr (8, mS f tn rm ln lx at_ bd fs dp on os bn df th tp mo_ ev ss so lk rs pt ot cl)), ((f 20), .inl (cL, 400, .inr (.inl one))), ((f 21), .inl (cL, 400, .inr (.inl two))), ((f 22), .inl (cZ, 400, .inl mrk)), ((f 23), .inl (cI, 810, .inl wlk)), ((f 24), .inl (cI, 150, .inl spn)), ((f 18), .inl (cL, 9, .inr (.inl trm)))] sz) (fun (u : Nat × Int64 × Int32 × Int32 × (Nat → Int64) × (Nat → Int64) × (Nat → Int32) × (Nat → Int32)) => [(h0, .inr (8, mS f tn rm ln lx at_ bd fs dp on os bn df th u.1 mo_ ev u.2.2.1 u.2.2.2.1 u.2.1 rs pt ot cl)), ((f 20), .inl (cL, 400, .inr (.inl u.2.2.2.2.1))), ((f 21), .inl (cL, 400, .inr (.inl u.2.2.2.2.2.1))), ((f 22), .inl (cZ, 400, .inl u.2.2.2.2.2.2.1)), ((f 23), .inl (cI, 810, .inl u.2.2.2.2.2.2.2)), ((f 24), .inl (cI, 150, .inl spn)), ((f 18), .inl (cL, 9, .inr (.inl trm)))]) (fun v (u : Nat × Int64 × Int32 × Int32 × (Nat → Int64) × (Nat → Int64) × (Nat → Int32) × (Nat → Int32)) => v = none ∧ ((bln u.2.2.2.2.2.2.1) ∧ (∃ G' : Nat → Prop, MI df G' trm u.2.2.2.2.1 u.2.2.2.2.2.1 spn u.1 u.2.1 rs pt ∧ ((u.2.2.1 = ss + 1 ∧ u.2.2.2.1 = so ∧ tp ≤ u.1 + 3) ∨ (u.2.2.1 = ss ∧ ¬ u.2.2.2.1 = 0 ∧ u.1 = tp))))) (fun C (u : Nat × Int64 × Int32 × Int32 × (Nat → Int64) × (Nat → Int64) × (Nat → Int32) × (Nat → Int32)) => False) 0 0 := by
  refine em_Met.ofW (cc := b_MO_combinator) (maxL := 13) (ret := none) (by decide) rfl ?_
  intro p e s m args below meth c s₁ B hml hv hno
  obtain ⟨rfl, ⟨hsz, hP, hK, hD0⟩, hE⟩ := hv
  have hx := B.exec
  have hb := B.bytes
  have hr := B.returns
  have hts := atoms_spec (ws := wz y_MO_combinator b_MO_combinator 13 none) B.pre
  have hG := wz_G hts
  have hown : s.vm.findClass rn_MO = some m.cls := findClass_of_methodNamed B.named
  have hlocks := B.notSynchronized
  subst hsz
  have hD := hD0.self (sz := s.heap.size)
  have hst := tw_st hP
  generalize hAe : va_A [(h0, .inr (8, mS f tn rm ln lx at_ bd fs dp on os bn df th tp mo_ ev ss so lk rs pt ot cl)), ((f 20), .inl (cL, 400, .inr (.inl one))), ((f 21), .inl (cL, 400, .inr (.inl two))), ((f 22), .inl (cZ, 400, .inl mrk)), ((f 23), .inl (cI, 810, .inl wlk)), ((f 24), .inl (cI, 150, .inl spn)), ((f 18), .inl (cL, 9, .inr (.inl trm)))] s.heap.size = A at hD hst ⊢
  have hA : ∀ q : Nat, s.heap.size ≤ q → A q := fun q h => by rw [← hAe]; exact Or.inr h
  have hS : va_S A s.heap s.heap [] := va_S.rf
  have hl := lv_entry ([.ref h0, .int 5]) (n := 13) (Nat.le_of_ble_eq_true rfl)
  rw [lg_entry_eq]
  generalize (lg_sl ([.ref h0, .int 5]) ++ List.replicate (13 - (lg_sl ([.ref h0, .int 5])).length) Slot.unset).toArray = ls at hl ⊢
  have hl : lv_has ls 13 [(0, .ref h0), (1, .int 5)] := hl
  obtain ⟨hHG, hlk, hrs, htp, hsp⟩ := id hMI
  refine lv_aload_n hx hb d_MO_combinator_0 rfl (lv_at hl 0 rfl) ?_
  refine lv_iconst (v := 0) hx hb d_MO_combinator_1 (by decide) ?_
  refine em_call (wr := [((f 22), .inl (cZ, 400, .inl mrk)), ((f 23), .inl (cI, 810, .inl wlk))]) (em_runV (As := [.int (nI 0)]) (rest := []) ⟨hx, hb, hml, hown, hG⟩ (mo_argument l D cI cL cZ cC f h0 tn rm ln lx at_ bd fs dp on os bn df th tp mo_ ev ss so lk rs pt ot cl two spn trm one Gc 0 _ (by omega) (by omega) hHG hsp hnt) (cwV 1 hG (gd_V k_1581 k_1583 k_92 k_116 k_1584) rfl rfl rfl (by decide +kernel) ⟨Nat.le_of_ble_eq_true rfl, Nat.le_of_ble_eq_true rfl⟩) (tw_V (q0 := 0) hP hD hK hE hst hS rfl rfl [0, 2, 5, 6, 1] rfl (by decide)) rfl rfl hl.1 rfl (lv_room (Nat.le_of_ble_eq_true rfl)) d_MO_combinator_2 ⟨Nat.le_of_ble_eq_true rfl, Nat.le_of_ble_eq_true rfl⟩) hP hD hS hA [0, 2, 5, 6, 1] [3, 4] rfl rfl (by decide) (by decide) (fun v u H locs hok hP hD hS => ?_) (fun x C u H locs hbad hxx hP hD hS => ?_)
  · skip
    obtain ⟨r_1, rfl, hp_2⟩ := hok
    have hres_3 : (okh df Gc r_1) := hp_2
    have hP : va_P D classes [((f 22), .inl (cZ, 400, .inl mrk)), ((f 23), .inl (cI, 810, .inl wlk)), (h0, .inr (8, mS f tn rm ln lx at_ bd fs dp on os bn df th tp mo_ ev ss so lk rs pt ot cl)), ((f 21), .inl (cL, 400, .inr (.inl two))), ((f 24), .inl (cI, 150, .inl spn)), ((f 18), .inl (cL, 9, .inr (.inl trm))), ((f 20), .inl (cL, 400, .inr (.inl one)))] H := hP
    have hD : va_D A [((f 22), .inl (cZ, 400, .inl mrk)), ((f 23), .inl (cI, 810, .inl wlk)), (h0, .inr (8, mS f tn rm ln lx at_ bd fs dp on os bn df th tp mo_ ev ss so lk rs pt ot cl)), ((f 21), .inl (cL, 400, .inr (.inl two))), ((f 24), .inl (cI, 150, .inl spn)), ((f 18), .inl (cL, 9, .inr (.inl trm))), ((f 20), .inl (cL, 400, .inr (.inl one)))] := hD
    refine W.eq (g2 := F0 m 5 ls [.long r_1]) rfl ?_
    refine lv_lstore_n (lv' := [(2, .long r_1), (0, .ref h0), (1, .int 5)]) hx hb d_MO_combinator_5 rfl hl (Nat.le_of_ble_eq_true rfl) rfl (fun ls hl => ?_)
    refine lv_iload_n hx hb d_MO_combinator_6 rfl (lv_at hl 2 rfl) ?_
    refine lv_iconst (v := 2) hx hb d_MO_combinator_7 (by decide) ?_
    refine lv_icmp_le (tgt := 19) hx hb d_MO_combinator_8 (by decide) (fun hbr => absurd hbr (by decide)) (fun hbr => ?_)
    refine lv_aload_n hx hb d_MO_combinator_11 rfl (lv_at hl 1 rfl) ?_
    refine lv_iconst (v := 1) hx hb d_MO_combinator_12 (by decide) ?_
    refine em_call (wr := [((f 22), .inl (cZ, 400, .inl mrk)), ((f 23), .inl (cI, 810, .inl wlk))]) (em_runV (As := [.int (nI 1)]) (rest := []) ⟨hx, hb, hml, hown, hG⟩ (mo_argument l D cI cL cZ cC f h0 tn rm ln lx at_ bd fs dp on os bn df th tp mo_ ev ss so lk rs pt ot cl two spn trm one Gc 1 _ (by omega) (by omega) hHG hsp hnt) (cwV 1 hG (gd_V k_1581 k_1583 k_92 k_116 k_1584) rfl rfl rfl (by decide +kernel) ⟨Nat.le_of_ble_eq_true rfl, Nat.le_of_ble_eq_true rfl⟩) (tw_V (q0 := 2) hP hD hK hE hst hS rfl rfl [2, 3, 4, 5, 6] rfl (by decide)) rfl rfl hl.1 rfl (lv_room (Nat.le_of_ble_eq_true rfl)) d_MO_combinator_13 ⟨Nat.le_of_ble_eq_true rfl, Nat.le_of_ble_eq_true rfl⟩) hP hD hS hA [2, 3, 4, 5, 6] [0, 1] rfl rfl (by decide) (by decide) (fun v u H locs hok hP hD hS => ?_) (fun x C u H locs hbad hxx hP hD hS => ?_)
    · skip
      obtain ⟨r_4, rfl, hp_5⟩ := hok
      have hres_6 : (okh df Gc r_4) := hp_5
      have hP : va_P D classes [((f 22), .inl (cZ, 400, .inl mrk)), ((f 23), .inl (cI, 810, .inl wlk)), (h0, .inr (8, mS f tn rm ln lx at_ bd fs dp on os bn df th tp mo_ ev ss so lk rs pt ot cl)), ((f 21), .inl (cL, 400, .inr (.inl two))), ((f 24), .inl (cI, 150, .inl spn)), ((f 18), .inl (cL, 9, .inr (.inl trm))), ((f 20), .inl (cL, 400, .inr (.inl one)))] H := hP
      have hD : va_D A [((f 22), .inl (cZ, 400, .inl mrk)), ((f 23), .inl (cI, 810, .inl wlk)), (h0, .inr (8, mS f tn rm ln lx at_ bd fs dp on os bn df th tp mo_ ev ss so lk rs pt ot cl)), ((f 21), .inl (cL, 400, .inr (.inl two))), ((f 24), .inl (cI, 150, .inl spn)), ((f 18), .inl (cL, 9, .inr (.inl trm))), ((f 20), .inl (cL, 400, .inr (.inl one)))] := hD
      refine W.eq (g2 := F0 m 16 ls [.long r_4]) rfl ?_
      refine lv_goto (tgt := 20) hx hb d_MO_combinator_16 (by decide) ?_
      refine lv_lstore (lv' := [(4, .long r_4), (2, .long r_1), (0, .ref h0), (1, .int 5)]) hx hb d_MO_combinator_20 hl (Nat.le_of_ble_eq_true rfl) rfl (fun ls hl => ?_)
      refine lv_iload_n hx hb d_MO_combinator_22 rfl (lv_at hl 3 rfl) ?_
      refine W.callR (W.runS (As := [.int 5]) (rest := []) ⟨hx, hb, hml, hown, hG⟩ (mo_needs l D cI cL cZ cC 5 ) (cwS 1 hG (gd_S k_1621 k_1622 k_116 k_1623) rfl rfl rfl (by decide +kernel) ⟨Nat.le_of_ble_eq_true rfl, Nat.le_of_ble_eq_true rfl⟩) (wq_S hP hK [] rfl) rfl rfl hl.1 rfl (lv_room (Nat.le_of_ble_eq_true rfl)) d_MO_combinator_23 ⟨Nat.le_of_ble_eq_true rfl, Nat.le_of_ble_eq_true rfl⟩) ?_
      refine W.eq (g2 := F0 m 26 ls [.int (mneeds (5 : Int32))]) rfl ?_
      refine W.eq (g2 := F0 m 26 ls [.int 3]) (by rw [show mneeds 5 = 3 by decide]) ?_
      refine lv_iconst (v := 2) hx hb d_MO_combinator_26 (by decide) ?_
      refine lv_icmp_le (tgt := 38) hx hb d_MO_combinator_27 (by decide) (fun hbr => absurd hbr (by decide)) (fun hbr => ?_)
      refine lv_aload_n hx hb d_MO_combinator_30 rfl (lv_at hl 2 rfl) ?_
      refine lv_iconst (v := 2) hx hb d_MO_combinator_31 (by decide) ?_
      refine em_call (wr := [((f 22), .inl (cZ, 400, .inl mrk)), ((f 23), .inl (cI, 810, .inl wlk))]) (em_runV (As := [.int (nI 2)]) (rest := []) ⟨hx, hb, hml, hown, hG⟩ (mo_argument l D cI cL cZ cC f h0 tn rm ln lx at_ bd fs dp on os bn df th tp mo_ ev ss so lk rs pt ot cl two spn trm one Gc 2 _ (by omega) (by omega) hHG hsp hnt) (cwV 1 hG (gd_V k_1581 k_1583 k_92 k_116 k_1584) rfl rfl rfl (by decide +kernel) ⟨Nat.le_of_ble_eq_true rfl, Nat.le_of_ble_eq_true rfl⟩) (tw_V (q0 := 2) hP hD hK hE hst hS rfl rfl [2, 3, 4, 5, 6] rfl (by decide)) rfl rfl hl.1 rfl (lv_room (Nat.le_of_ble_eq_true rfl)) d_MO_combinator_32 ⟨Nat.le_of_ble_eq_true rfl, Nat.le_of_ble_eq_true rfl⟩) hP hD hS hA [2, 3, 4, 5, 6] [0, 1] rfl rfl (by decide) (by decide) (fun v u H locs hok hP hD hS => ?_) (fun x C u H locs hbad hxx hP hD hS => ?_)
      · skip
        obtain ⟨r_7, rfl, hp_8⟩ := hok
        have hres_9 : (okh df Gc r_7) := hp_8
        have hP : va_P D classes [((f 22), .inl (cZ, 400, .inl mrk)), ((f 23), .inl (cI, 810, .inl wlk)), (h0, .inr (8, mS f tn rm ln lx at_ bd fs dp on os bn df th tp mo_ ev ss so lk rs pt ot cl)), ((f 21), .inl (cL, 400, .inr (.inl two))), ((f 24), .inl (cI, 150, .inl spn)), ((f 18), .inl (cL, 9, .inr (.inl trm))), ((f 20), .inl (cL, 400, .inr (.inl one)))] H := hP
        have hD : va_D A [((f 22), .inl (cZ, 400, .inl mrk)), ((f 23), .inl (cI, 810, .inl wlk)), (h0, .inr (8, mS f tn rm ln lx at_ bd fs dp on os bn df th tp mo_ ev ss so lk rs pt ot cl)), ((f 21), .inl (cL, 400, .inr (.inl two))), ((f 24), .inl (cI, 150, .inl spn)), ((f 18), .inl (cL, 9, .inr (.inl trm))), ((f 20), .inl (cL, 400, .inr (.inl one)))] := hD
        refine W.eq (g2 := F0 m 35 ls [.long r_7]) rfl ?_
        refine lv_goto (tgt := 39) hx hb d_MO_combinator_35 (by decide) ?_
        refine lv_lstore (lv' := [(6, .long r_7), (4, .long r_4), (2, .long r_1), (0, .ref h0), (1, .int 5)]) hx hb d_MO_combinator_39 hl (Nat.le_of_ble_eq_true rfl) rfl (fun ls hl => ?_)
        refine lv_iload_n hx hb d_MO_combinator_41 rfl (lv_at hl 4 rfl) ?_
        refine W.callR (W.runS (As := [.int 5]) (rest := []) ⟨hx, hb, hml, hown, hG⟩ (mo_needs l D cI cL cZ cC 5 ) (cwS 1 hG (gd_S k_1621 k_1622 k_116 k_1623) rfl rfl rfl (by decide +kernel) ⟨Nat.le_of_ble_eq_true rfl, Nat.le_of_ble_eq_true rfl⟩) (wq_S hP hK [] rfl) rfl rfl hl.1 rfl (lv_room (Nat.le_of_ble_eq_true rfl)) d_MO_combinator_42 ⟨Nat.le_of_ble_eq_true rfl, Nat.le_of_ble_eq_true rfl⟩) ?_
        refine W.eq (g2 := F0 m 45 ls [.int (mneeds (5 : Int32))]) rfl ?_
        refine W.eq (g2 := F0 m 45 ls [.int 3]) (by rw [show mneeds 5 = 3 by decide]) ?_
        refine lv_iconst (v := 3) hx hb d_MO_combinator_45 (by decide) ?_
        refine lv_icmp_le (tgt := 57) hx hb d_MO_combinator_46 (by decide) (fun hbr => ?_) (fun hbr => absurd (by decide) hbr)
        refine lv_lconst (v := 0) hx hb d_MO_combinator_57 (by decide) ?_
        refine lv_lstore (lv' := [(8, .long 0), (6, .long r_7), (4, .long r_4), (2, .long r_1), (0, .ref h0), (1, .int 5)]) hx hb d_MO_combinator_58 hl (Nat.le_of_ble_eq_true rfl) rfl (fun ls hl => ?_)
        refine lv_iload_n hx hb d_MO_combinator_60 rfl (lv_at hl 5 rfl) ?_
        refine lv_iconst (v := 4) hx hb d_MO_combinator_61 (by decide) ?_
        refine lv_icmp_ne (tgt := 69) hx hb d_MO_combinator_62 (by decide) (fun hbr => ?_) (fun hbr => absurd hbr (by decide))
        refine lv_iload_n hx hb d_MO_combinator_69 rfl (lv_at hl 5 rfl) ?_
        refine lv_iconst (v := 5) hx hb d_MO_combinator_70 (by decide) ?_
        refine lv_icmp_eq (tgt := 80) hx hb d_MO_combinator_71 (by decide) (fun hbr => ?_) (fun hbr => absurd (by decide) hbr)
        refine lv_iconst (v := 1) hx hb d_MO_combinator_80 (by decide) ?_
        refine lv_goto (tgt := 111) hx hb d_MO_combinator_81 (by decide) ?_
        refine lv_istore (lv' := [(10, .int 1), (8, .long 0), (6, .long r_7), (4, .long r_4), (2, .long r_1), (0, .ref h0), (1, .int 5)]) hx hb d_MO_combinator_111 hl (Nat.le_of_ble_eq_true rfl) rfl (fun ls hl => ?_)
        refine lv_iload hx hb d_MO_combinator_113 (lv_at hl 0 rfl) ?_
        refine lv_if_le (tgt := 128) hx hb d_MO_combinator_115 (by decide) (fun hbr => absurd hbr (by decide)) (fun hbr => ?_)
        refine lv_aload_n hx hb d_MO_combinator_118 rfl (lv_at hl 5 rfl) ?_
        refine lv_iload hx hb d_MO_combinator_119 (lv_at hl 0 rfl) ?_
        refine em_call (wr := []) (em_runV (As := [.int (nI 1)]) (rest := []) ⟨hx, hb, hml, hown, hG⟩ (mo_fits l D cI cL cZ cC f h0 tn rm ln lx at_ bd fs dp on os bn df th tp mo_ ev ss so lk rs pt ot cl mrk wlk trm one two spn Gc 1 _ hmrk (by decide) hrm hHG hlk hrs htp hsp hnt) (cwV 1 hG (gd_V k_1628 k_1630 k_102 k_116 k_1631) rfl rfl rfl (by decide +kernel) ⟨Nat.le_of_ble_eq_true rfl, Nat.le_of_ble_eq_true rfl⟩) (tw_V (q0 := 2) hP hD hK hE hst hS rfl rfl [2, 0, 1, 5, 6, 3, 4] rfl (by decide)) rfl rfl hl.1 rfl (lv_room (Nat.le_of_ble_eq_true rfl)) d_MO_combinator_121 ⟨Nat.le_of_ble_eq_true rfl, Nat.le_of_ble_eq_true rfl⟩) hP hD hS hA [2, 0, 1, 5, 6, 3, 4] [] rfl rfl (by decide) (by decide) (fun v u H locs hok hP hD hS => ?_) (fun x C u H locs hbad hxx hP hD hS => ?_)
        · skip
          obtain ⟨so_10, mrk_11, wlk_12⟩ := u
          obtain ⟨r_13, rfl, hp_14⟩ := hok
          obtain ⟨hmrk_15, hres_16⟩ : (bln mrk_11) ∧ (((r_13 = 1 ∧ so_10 = so ∧ so = 0 ∧ sm (gn mrk_11) 400 + 1 ≤ rm) ∨ (r_13 = 0 ∧ ¬ so_10 = 0))) := hp_14
          have hP : va_P D classes [(h0, .inr (8, mS f tn rm ln lx at_ bd fs dp on os bn df th tp mo_ ev ss so_10 lk rs pt ot cl)), ((f 22), .inl (cZ, 400, .inl mrk_11)), ((f 23), .inl (cI, 810, .inl wlk_12)), ((f 18), .inl (cL, 9, .inr (.inl trm))), ((f 20), .inl (cL, 400, .inr (.inl one))), ((f 21), .inl (cL, 400, .inr (.inl two))), ((f 24), .inl (cI, 150, .inl spn))] H := hP
          have hD : va_D A [(h0, .inr (8, mS f tn rm ln lx at_ bd fs dp on os bn df th tp mo_ ev ss so_10 lk rs pt ot cl)), ((f 22), .inl (cZ, 400, .inl mrk_11)), ((f 23), .inl (cI, 810, .inl wlk_12)), ((f 18), .inl (cL, 9, .inr (.inl trm))), ((f 20), .inl (cL, 400, .inr (.inl one))), ((f 21), .inl (cL, 400, .inr (.inl two))), ((f 24), .inl (cI, 150, .inl spn))] := hD
          rcases hres_16 with ⟨rfl, hy_17a, hy_17b, hy_17c⟩ | ⟨rfl, hy_17a⟩
          · skip
            refine W.eq (g2 := F0 m 124 ls [.int 1]) rfl ?_
            refine lv_if_ne (tgt := 128) hx hb d_MO_combinator_124 (by decide) (fun hbr => ?_) (fun hbr => absurd hbr (by decide))
            refine lv_iload_n hx hb d_MO_combinator_128 rfl (lv_at hl 6 rfl) ?_
            refine lv_iconst (v := 2) hx hb d_MO_combinator_129 (by decide) ?_
            refine lv_icmp_ne (tgt := 161) hx hb d_MO_combinator_130 (by decide) (fun hbr => ?_) (fun hbr => absurd hbr (by decide))
            refine lv_iload_n hx hb d_MO_combinator_161 rfl (lv_at hl 6 rfl) ?_
            refine lv_iconst (v := 3) hx hb d_MO_combinator_162 (by decide) ?_
            refine lv_icmp_ne (tgt := 179) hx hb d_MO_combinator_163 (by decide) (fun hbr => ?_) (fun hbr => absurd hbr (by decide))
            refine lv_iload_n hx hb d_MO_combinator_179 rfl (lv_at hl 6 rfl) ?_
            refine lv_iconst (v := 4) hx hb d_MO_combinator_180 (by decide) ?_
            refine lv_icmp_ne (tgt := 211) hx hb d_MO_combinator_181 (by decide) (fun hbr => ?_) (fun hbr => absurd hbr (by decide))
            refine lv_iload_n hx hb d_MO_combinator_211 rfl (lv_at hl 6 rfl) ?_
            refine lv_iconst (v := 5) hx hb d_MO_combinator_212 (by decide) ?_
            refine lv_icmp_ne (tgt := 233) hx hb d_MO_combinator_213 (by decide) (fun hbr => absurd (by decide) hbr) (fun hbr => ?_)
            refine lv_aload_n hx hb d_MO_combinator_216 rfl (lv_at hl 5 rfl) ?_
            refine lv_iconst (v := 3) hx hb d_MO_combinator_217 (by decide) ?_
            refine lv_lload_n hx hb d_MO_combinator_218 rfl (lv_at hl 4 rfl) ?_
            refine lv_aload_n hx hb d_MO_combinator_219 rfl (lv_at hl 5 rfl) ?_
            refine lv_lload hx hb d_MO_combinator_220 (lv_at hl 3 rfl) ?_
            refine lv_lload hx hb d_MO_combinator_222 (lv_at hl 2 rfl) ?_
            refine em_call (wr := [((f 23), .inl (cI, 810, .inl wlk_12)), ((f 24), .inl (cI, 150, .inl spn))]) (em_runV (As := [.long r_4, .long r_7]) (rest := [.long r_1, .int 3, .ref h0]) ⟨hx, hb, hml, hown, hG⟩ (mo_made l D cI cL cZ cC f h0 tn rm ln lx at_ bd fs dp on os bn df th tp mo_ ev ss so_10 lk rs pt ot cl mrk_11 one two trm Gc r_4 r_7 _ hmrk_15 hHG hres_6 hres_9 (by omega) hnt) (cwV 2 hG (gd_V k_1640 k_1642 k_105 k_116 k_1643) rfl rfl rfl (by decide +kernel) ⟨Nat.le_of_ble_eq_true rfl, Nat.le_of_ble_eq_true rfl⟩) (tw_V (q0 := 0) hP hD hK hE hst hS rfl rfl [0, 1, 4, 5, 3] rfl (by decide)) rfl rfl hl.1 rfl (lv_room (Nat.le_of_ble_eq_true rfl)) d_MO_combinator_224 ⟨Nat.le_of_ble_eq_true rfl, Nat.le_of_ble_eq_true rfl⟩) hP hD hS hA [0, 1, 4, 5, 3] [2, 6] rfl rfl (by decide) (by decide) (fun v u H locs hok hP hD hS => ?_) (fun x C u H locs hbad hxx hP hD hS => ?_)
            · skip
              obtain ⟨mrk_18, one_19, two_20⟩ := u
              obtain ⟨r_21, rfl, hp_22⟩ := hok
              obtain ⟨hmrk_23, hres_24⟩ : (bln mrk_18) ∧ (∃ G' : Nat → Prop, (∀ c, Gc c → G' c) ∧ HG df G' trm one_19 two_20 ∧ okh df G' r_21 ∧ sm (gn mrk_18) 400 = sm (gn mrk_11) 400 + 1) := hp_22
              obtain ⟨G_25, hG_25a, hG_25b, hG_25c, hG_25d⟩ := hres_24
              have hP : va_P D classes [((f 23), .inl (cI, 810, .inl wlk_12)), ((f 24), .inl (cI, 150, .inl spn)), (h0, .inr (8, mS f tn rm ln lx at_ bd fs dp on os bn df th tp mo_ ev ss so_10 lk rs pt ot cl)), ((f 22), .inl (cZ, 400, .inl mrk_18)), ((f 20), .inl (cL, 400, .inr (.inl one_19))), ((f 21), .inl (cL, 400, .inr (.inl two_20))), ((f 18), .inl (cL, 9, .inr (.inl trm)))] H := hP
              have hD : va_D A [((f 23), .inl (cI, 810, .inl wlk_12)), ((f 24), .inl (cI, 150, .inl spn)), (h0, .inr (8, mS f tn rm ln lx at_ bd fs dp on os bn df th tp mo_ ev ss so_10 lk rs pt ot cl)), ((f 22), .inl (cZ, 400, .inl mrk_18)), ((f 20), .inl (cL, 400, .inr (.inl one_19))), ((f 21), .inl (cL, 400, .inr (.inl two_20))), ((f 18), .inl (cL, 9, .inr (.inl trm)))] := hD
              refine W.eq (g2 := F0 m 227 ls [.long r_21, .long r_1, .int 3, .ref h0]) rfl ?_
              refine em_call (wr := [((f 23), .inl (cI, 810, .inl wlk_12)), ((f 22), .inl (cZ, 400, .inl mrk_18))]) (em_runV (As := [.int (nI 3), .long r_1, .long r_21]) (rest := []) ⟨hx, hb, hml, hown, hG⟩ (mo_overwrite l D cI cL cZ cC f h0 tn rm ln lx at_ bd fs dp on os bn df th tp mo_ ev ss so_10 lk rs pt ot cl one_19 two_20 spn trm G_25 3 r_1 r_21 _ (by omega) (by omega) (by omega) hG_25b (okh_mono hG_25a hres_3) hG_25c (sp_up hG_25a hsp) hnt) (cwV 3 hG (gd_V k_1592 k_1594 k_94 k_116 k_1595) rfl rfl rfl (by decide +kernel) ⟨Nat.le_of_ble_eq_true rfl, Nat.le_of_ble_eq_true rfl⟩) (tw_V (q0 := 2) hP hD hK hE hst hS rfl rfl [2, 4, 5, 1, 6] rfl (by decide)) rfl rfl hl.1 rfl (lv_room (Nat.le_of_ble_eq_true rfl)) d_MO_combinator_227 ⟨Nat.le_of_ble_eq_true rfl, Nat.le_of_ble_eq_true rfl⟩) hP hD hS hA [2, 4, 5, 1, 6] [0, 3] rfl rfl (by decide) (by decide) (fun v u H locs hok hP hD hS => ?_) (fun x C u H locs hbad hxx hP hD hS => ?_)
              · skip
                obtain ⟨tp_26, lk_27, ss_28, one_29, two_30⟩ := u
                obtain ⟨rfl, hp_32⟩ := hok
                obtain ⟨hHG_33, htp_34, hlk_35, hss_36⟩ : (HG df G_25 trm one_29 two_30) ∧ (tp_26 + 3 = tp + 1) ∧ (lk_27 = r_1) ∧ (ss_28 = ss + 1) := hp_32
                have hP : va_P D classes [((f 23), .inl (cI, 810, .inl wlk_12)), ((f 22), .inl (cZ, 400, .inl mrk_18)), (h0, .inr (8, mS f tn rm ln lx at_ bd fs dp on os bn df th tp_26 mo_ ev ss_28 so_10 lk_27 rs pt ot cl)), ((f 20), .inl (cL, 400, .inr (.inl one_29))), ((f 21), .inl (cL, 400, .inr (.inl two_30))), ((f 24), .inl (cI, 150, .inl spn)), ((f 18), .inl (cL, 9, .inr (.inl trm)))] H := hP
                have hD : va_D A [((f 23), .inl (cI, 810, .inl wlk_12)), ((f 22), .inl (cZ, 400, .inl mrk_18)), (h0, .inr (8, mS f tn rm ln lx at_ bd fs dp on os bn df th tp_26 mo_ ev ss_28 so_10 lk_27 rs pt ot cl)), ((f 20), .inl (cL, 400, .inr (.inl one_29))), ((f 21), .inl (cL, 400, .inr (.inl two_30))), ((f 24), .inl (cI, 150, .inl spn)), ((f 18), .inl (cL, 9, .inr (.inl trm)))] := hD
                refine W.eq (g2 := F0 m 230 ls []) rfl ?_
                refine lv_goto (tgt := 330) hx hb d_MO_combinator_230 (by decide) ?_
                exact em_vret hx hb hr hlocks hP hD hK hS (tp_26, lk_27, ss_28, so_10, one_29, two_30, mrk_18, wlk_12) [2, 3, 4, 1, 0, 5, 6] (by decide) rfl ⟨rfl, ⟨hmrk_23, (show ∃ G' : Nat → Prop, MI df G' trm one_29 two_30 spn tp_26 lk_27 rs pt ∧ ((ss_28 = ss + 1 ∧ so_10 = so ∧ tp ≤ tp_26 + 3) ∨ (ss_28 = ss ∧ ¬ so_10 = 0 ∧ tp_26 = tp)) from ⟨G_25, ⟨hHG_33, (by rw [hlk_35]; exact (okh_mono hG_25a hres_3)), (fun q => okh_mono hG_25a (hrs q)), (by omega), (fun k hk => (sp_up hG_25a hsp) k (by omega))⟩, Or.inl ⟨hss_36, hy_17a, by omega⟩⟩)⟩⟩ d_MO_combinator_330
              · skip
                exact hbad.elim
            · skip
              exact hbad.elim
          · skip
            refine W.eq (g2 := F0 m 124 ls [.int 0]) rfl ?_
            refine lv_if_ne (tgt := 128) hx hb d_MO_combinator_124 (by decide) (fun hbr => absurd (by decide) hbr) (fun hbr => ?_)
            exact em_vret hx hb hr hlocks hP hD hK hS (tp, lk, ss, so_10, one, two, mrk_11, wlk_12) [0, 4, 5, 1, 2, 6, 3] (by decide) rfl ⟨rfl, ⟨hmrk_15, (show ∃ G' : Nat → Prop, MI df G' trm one two spn tp lk rs pt ∧ ((ss = ss + 1 ∧ so_10 = so ∧ tp ≤ tp + 3) ∨ (ss = ss ∧ ¬ so_10 = 0 ∧ tp = tp)) from ⟨Gc, hMI, Or.inr ⟨rfl, hy_17a, rfl⟩⟩)⟩⟩ d_MO_combinator_127
        · skip
          exact hbad.elim
      · skip
        exact hbad.elim
    · skip
      exact hbad.elim
  · skip
    exact hbad.elim
set_option maxHeartbeats 8000000 in
set_option maxRecDepth 100000 in
theorem mo_comb6 (l : Launch) (D : va_G) (cI cL cZ cC : ClassId) (f : Nat → Nat) (h0 : Nat) (tn : Int32) (rm : Nat) (ln : Nat) (lx : Nat) (at_ : Nat) (bd : Int32) (fs : Nat) (dp : Nat) (on : Nat) (os : Nat) (bn : Nat) (df : Nat) (th : Int32) (tp : Nat) (mo_ : Int32) (ev : Nat) (ss : Int32) (so : Int32) (lk : Int64) (rs : Int64) (pt : Int32) (ot : Nat) (cl : Int32) (one : Nat → Int64) (two : Nat → Int64) (mrk : Nat → Int32) (wlk : Nat → Int32) (spn : Nat → Int32) (trm : Nat → Int64) (Gc : Nat → Prop) (sz : Nat) (hmrk : bln mrk) (hMI : MI df Gc trm one two spn tp lk rs pt) (hrm : rm ≤ 400) (hneed : 3 ≤ tp) (hnt : l.stackTraces = false) : em_Met l y_MO_combinator (wz y_MO_combinator b_MO_combinator 13 none) ({ frames := 4, cells := 0, slots := 0, locals := 87 }) (va_Pc [.ref h0, .int 6] (tw_pre D (tys4 cI cL cZ cC) [(h0, .inr (8, mS f tn rm ln lx at_ bd fs dp on os bn df th tp mo_ ev ss so lk rs pt ot cl)), ((f 20), .inl (cL, 400, .inr (.inl one))), ((f 21), .inl (cL, 400, .inr (.inl two))), ((f 22), .inl (cZ, 400, .inl mrk)), ((f 23), .inl (cI, 810, .inl wlk)), ((f 24), .inl (cI, 150, .inl spn)), ((f 18), .inl (cL, 9, .inr (.inl trm)))] sz)) D (tys4 cI cL cZ cC) (va_A [(h0, .inr (8, mS f tn rm ln lx at_ bd fs dp on os bn df th tp mo_ ev ss so lk rs pt ot cl)), ((f 20), .inl (cL, 400, .inr (.inl one))), ((f 21), .inl (cL, 400, .inr (.inl two))), ((f 22), .inl (cZ, 400, .inl mrk)), ((f 23), .inl (cI, 810, .inl wlk)), ((f 24), .inl (cI, 150, .inl spn)), ((f 18), .inl (cL, 9, .inr (.inl trm)))] sz) (fun (u : Nat × Int64 × Int32 × Int32 × (Nat → Int64) × (Nat → Int64) × (Nat → Int32) × (Nat → Int32)) => [(h0, .inr (8, mS f tn rm ln lx at_ bd fs dp on os bn df th u.1 mo_ ev u.2.2.1 u.2.2.2.1 u.2.1 rs pt ot cl)), ((f 20), .inl (cL, 400, .inr (.inl u.2.2.2.2.1))), ((f 21), .inl (cL, 400, .inr (.inl u.2.2.2.2.2.1))), ((f 22), .inl (cZ, 400, .inl u.2.2.2.2.2.2.1)), ((f 23), .inl (cI, 810, .inl u.2.2.2.2.2.2.2)), ((f 24), .inl (cI, 150, .inl spn)), ((f 18), .inl (cL, 9, .inr (.inl trm)))]) (fun v (u : Nat × Int64 × Int32 × Int32 × (Nat → Int64) × (Nat → Int64) × (Nat → Int32) × (Nat → Int32)) => v = none ∧ ((bln u.2.2.2.2.2.2.1) ∧ (∃ G' : Nat → Prop, MI df G' trm u.2.2.2.2.1 u.2.2.2.2.2.1 spn u.1 u.2.1 rs pt ∧ ((u.2.2.1 = ss + 1 ∧ u.2.2.2.1 = so ∧ tp ≤ u.1 + 3) ∨ (u.2.2.1 = ss ∧ ¬ u.2.2.2.1 = 0 ∧ u.1 = tp))))) (fun C (u : Nat × Int64 × Int32 × Int32 × (Nat → Int64) × (Nat → Int64) × (Nat → Int32) × (Nat → Int32)) => False) 0 0 := by
  refine em_Met.ofW (cc := b_MO_combinator) (maxL := 13) (ret := none) (by decide) rfl ?_
  intro p e s m args below meth c s₁ B hml hv hno
  obtain ⟨rfl, ⟨hsz, hP, hK, hD0⟩, hE⟩ := hv
  have hx := B.exec
  have hb := B.bytes
  have hr := B.returns
  have hts := atoms_spec (ws := wz y_MO_combinator b_MO_combinator 13 none) B.pre
  have hG := wz_G hts
  have hown : s.vm.findClass rn_MO = some m.cls := findClass_of_methodNamed B.named
  have hlocks := B.notSynchronized
  subst hsz
  have hD := hD0.self (sz := s.heap.size)
  have hst := tw_st hP
  generalize hAe : va_A [(h0, .inr (8, mS f tn rm ln lx at_ bd fs dp on os bn df th tp mo_ ev ss so lk rs pt ot cl)), ((f 20), .inl (cL, 400, .inr (.inl one))), ((f 21), .inl (cL, 400, .inr (.inl two))), ((f 22), .inl (cZ, 400, .inl mrk)), ((f 23), .inl (cI, 810, .inl wlk)), ((f 24), .inl (cI, 150, .inl spn)), ((f 18), .inl (cL, 9, .inr (.inl trm)))] s.heap.size = A at hD hst ⊢
  have hA : ∀ q : Nat, s.heap.size ≤ q → A q := fun q h => by rw [← hAe]; exact Or.inr h
  have hS : va_S A s.heap s.heap [] := va_S.rf
  have hl := lv_entry ([.ref h0, .int 6]) (n := 13) (Nat.le_of_ble_eq_true rfl)
  rw [lg_entry_eq]
  generalize (lg_sl ([.ref h0, .int 6]) ++ List.replicate (13 - (lg_sl ([.ref h0, .int 6])).length) Slot.unset).toArray = ls at hl ⊢
  have hl : lv_has ls 13 [(0, .ref h0), (1, .int 6)] := hl
  obtain ⟨hHG, hlk, hrs, htp, hsp⟩ := id hMI
  refine lv_aload_n hx hb d_MO_combinator_0 rfl (lv_at hl 0 rfl) ?_
  refine lv_iconst (v := 0) hx hb d_MO_combinator_1 (by decide) ?_
  refine em_call (wr := [((f 22), .inl (cZ, 400, .inl mrk)), ((f 23), .inl (cI, 810, .inl wlk))]) (em_runV (As := [.int (nI 0)]) (rest := []) ⟨hx, hb, hml, hown, hG⟩ (mo_argument l D cI cL cZ cC f h0 tn rm ln lx at_ bd fs dp on os bn df th tp mo_ ev ss so lk rs pt ot cl two spn trm one Gc 0 _ (by omega) (by omega) hHG hsp hnt) (cwV 1 hG (gd_V k_1581 k_1583 k_92 k_116 k_1584) rfl rfl rfl (by decide +kernel) ⟨Nat.le_of_ble_eq_true rfl, Nat.le_of_ble_eq_true rfl⟩) (tw_V (q0 := 0) hP hD hK hE hst hS rfl rfl [0, 2, 5, 6, 1] rfl (by decide)) rfl rfl hl.1 rfl (lv_room (Nat.le_of_ble_eq_true rfl)) d_MO_combinator_2 ⟨Nat.le_of_ble_eq_true rfl, Nat.le_of_ble_eq_true rfl⟩) hP hD hS hA [0, 2, 5, 6, 1] [3, 4] rfl rfl (by decide) (by decide) (fun v u H locs hok hP hD hS => ?_) (fun x C u H locs hbad hxx hP hD hS => ?_)
  · skip
    obtain ⟨r_1, rfl, hp_2⟩ := hok
    have hres_3 : (okh df Gc r_1) := hp_2
    have hP : va_P D classes [((f 22), .inl (cZ, 400, .inl mrk)), ((f 23), .inl (cI, 810, .inl wlk)), (h0, .inr (8, mS f tn rm ln lx at_ bd fs dp on os bn df th tp mo_ ev ss so lk rs pt ot cl)), ((f 21), .inl (cL, 400, .inr (.inl two))), ((f 24), .inl (cI, 150, .inl spn)), ((f 18), .inl (cL, 9, .inr (.inl trm))), ((f 20), .inl (cL, 400, .inr (.inl one)))] H := hP
    have hD : va_D A [((f 22), .inl (cZ, 400, .inl mrk)), ((f 23), .inl (cI, 810, .inl wlk)), (h0, .inr (8, mS f tn rm ln lx at_ bd fs dp on os bn df th tp mo_ ev ss so lk rs pt ot cl)), ((f 21), .inl (cL, 400, .inr (.inl two))), ((f 24), .inl (cI, 150, .inl spn)), ((f 18), .inl (cL, 9, .inr (.inl trm))), ((f 20), .inl (cL, 400, .inr (.inl one)))] := hD
    refine W.eq (g2 := F0 m 5 ls [.long r_1]) rfl ?_
    refine lv_lstore_n (lv' := [(2, .long r_1), (0, .ref h0), (1, .int 6)]) hx hb d_MO_combinator_5 rfl hl (Nat.le_of_ble_eq_true rfl) rfl (fun ls hl => ?_)
    refine lv_iload_n hx hb d_MO_combinator_6 rfl (lv_at hl 2 rfl) ?_
    refine lv_iconst (v := 2) hx hb d_MO_combinator_7 (by decide) ?_
    refine lv_icmp_le (tgt := 19) hx hb d_MO_combinator_8 (by decide) (fun hbr => absurd hbr (by decide)) (fun hbr => ?_)
    refine lv_aload_n hx hb d_MO_combinator_11 rfl (lv_at hl 1 rfl) ?_
    refine lv_iconst (v := 1) hx hb d_MO_combinator_12 (by decide) ?_
    refine em_call (wr := [((f 22), .inl (cZ, 400, .inl mrk)), ((f 23), .inl (cI, 810, .inl wlk))]) (em_runV (As := [.int (nI 1)]) (rest := []) ⟨hx, hb, hml, hown, hG⟩ (mo_argument l D cI cL cZ cC f h0 tn rm ln lx at_ bd fs dp on os bn df th tp mo_ ev ss so lk rs pt ot cl two spn trm one Gc 1 _ (by omega) (by omega) hHG hsp hnt) (cwV 1 hG (gd_V k_1581 k_1583 k_92 k_116 k_1584) rfl rfl rfl (by decide +kernel) ⟨Nat.le_of_ble_eq_true rfl, Nat.le_of_ble_eq_true rfl⟩) (tw_V (q0 := 2) hP hD hK hE hst hS rfl rfl [2, 3, 4, 5, 6] rfl (by decide)) rfl rfl hl.1 rfl (lv_room (Nat.le_of_ble_eq_true rfl)) d_MO_combinator_13 ⟨Nat.le_of_ble_eq_true rfl, Nat.le_of_ble_eq_true rfl⟩) hP hD hS hA [2, 3, 4, 5, 6] [0, 1] rfl rfl (by decide) (by decide) (fun v u H locs hok hP hD hS => ?_) (fun x C u H locs hbad hxx hP hD hS => ?_)
    · skip
      obtain ⟨r_4, rfl, hp_5⟩ := hok
      have hres_6 : (okh df Gc r_4) := hp_5
      have hP : va_P D classes [((f 22), .inl (cZ, 400, .inl mrk)), ((f 23), .inl (cI, 810, .inl wlk)), (h0, .inr (8, mS f tn rm ln lx at_ bd fs dp on os bn df th tp mo_ ev ss so lk rs pt ot cl)), ((f 21), .inl (cL, 400, .inr (.inl two))), ((f 24), .inl (cI, 150, .inl spn)), ((f 18), .inl (cL, 9, .inr (.inl trm))), ((f 20), .inl (cL, 400, .inr (.inl one)))] H := hP
      have hD : va_D A [((f 22), .inl (cZ, 400, .inl mrk)), ((f 23), .inl (cI, 810, .inl wlk)), (h0, .inr (8, mS f tn rm ln lx at_ bd fs dp on os bn df th tp mo_ ev ss so lk rs pt ot cl)), ((f 21), .inl (cL, 400, .inr (.inl two))), ((f 24), .inl (cI, 150, .inl spn)), ((f 18), .inl (cL, 9, .inr (.inl trm))), ((f 20), .inl (cL, 400, .inr (.inl one)))] := hD
      refine W.eq (g2 := F0 m 16 ls [.long r_4]) rfl ?_
      refine lv_goto (tgt := 20) hx hb d_MO_combinator_16 (by decide) ?_
      refine lv_lstore (lv' := [(4, .long r_4), (2, .long r_1), (0, .ref h0), (1, .int 6)]) hx hb d_MO_combinator_20 hl (Nat.le_of_ble_eq_true rfl) rfl (fun ls hl => ?_)
      refine lv_iload_n hx hb d_MO_combinator_22 rfl (lv_at hl 3 rfl) ?_
      refine W.callR (W.runS (As := [.int 6]) (rest := []) ⟨hx, hb, hml, hown, hG⟩ (mo_needs l D cI cL cZ cC 6 ) (cwS 1 hG (gd_S k_1621 k_1622 k_116 k_1623) rfl rfl rfl (by decide +kernel) ⟨Nat.le_of_ble_eq_true rfl, Nat.le_of_ble_eq_true rfl⟩) (wq_S hP hK [] rfl) rfl rfl hl.1 rfl (lv_room (Nat.le_of_ble_eq_true rfl)) d_MO_combinator_23 ⟨Nat.le_of_ble_eq_true rfl, Nat.le_of_ble_eq_true rfl⟩) ?_
      refine W.eq (g2 := F0 m 26 ls [.int (mneeds (6 : Int32))]) rfl ?_
      refine W.eq (g2 := F0 m 26 ls [.int 3]) (by rw [show mneeds 6 = 3 by decide]) ?_
      refine lv_iconst (v := 2) hx hb d_MO_combinator_26 (by decide) ?_
      refine lv_icmp_le (tgt := 38) hx hb d_MO_combinator_27 (by decide) (fun hbr => absurd hbr (by decide)) (fun hbr => ?_)
      refine lv_aload_n hx hb d_MO_combinator_30 rfl (lv_at hl 2 rfl) ?_
      refine lv_iconst (v := 2) hx hb d_MO_combinator_31 (by decide) ?_
      refine em_call (wr := [((f 22), .inl (cZ, 400, .inl mrk)), ((f 23), .inl (cI, 810, .inl wlk))]) (em_runV (As := [.int (nI 2)]) (rest := []) ⟨hx, hb, hml, hown, hG⟩ (mo_argument l D cI cL cZ cC f h0 tn rm ln lx at_ bd fs dp on os bn df th tp mo_ ev ss so lk rs pt ot cl two spn trm one Gc 2 _ (by omega) (by omega) hHG hsp hnt) (cwV 1 hG (gd_V k_1581 k_1583 k_92 k_116 k_1584) rfl rfl rfl (by decide +kernel) ⟨Nat.le_of_ble_eq_true rfl, Nat.le_of_ble_eq_true rfl⟩) (tw_V (q0 := 2) hP hD hK hE hst hS rfl rfl [2, 3, 4, 5, 6] rfl (by decide)) rfl rfl hl.1 rfl (lv_room (Nat.le_of_ble_eq_true rfl)) d_MO_combinator_32 ⟨Nat.le_of_ble_eq_true rfl, Nat.le_of_ble_eq_true rfl⟩) hP hD hS hA [2, 3, 4, 5, 6] [0, 1] rfl rfl (by decide) (by decide) (fun v u H locs hok hP hD hS => ?_) (fun x C u H locs hbad hxx hP hD hS => ?_)
      · skip
        obtain ⟨r_7, rfl, hp_8⟩ := hok
        have hres_9 : (okh df Gc r_7) := hp_8
        have hP : va_P D classes [((f 22), .inl (cZ, 400, .inl mrk)), ((f 23), .inl (cI, 810, .inl wlk)), (h0, .inr (8, mS f tn rm ln lx at_ bd fs dp on os bn df th tp mo_ ev ss so lk rs pt ot cl)), ((f 21), .inl (cL, 400, .inr (.inl two))), ((f 24), .inl (cI, 150, .inl spn)), ((f 18), .inl (cL, 9, .inr (.inl trm))), ((f 20), .inl (cL, 400, .inr (.inl one)))] H := hP
        have hD : va_D A [((f 22), .inl (cZ, 400, .inl mrk)), ((f 23), .inl (cI, 810, .inl wlk)), (h0, .inr (8, mS f tn rm ln lx at_ bd fs dp on os bn df th tp mo_ ev ss so lk rs pt ot cl)), ((f 21), .inl (cL, 400, .inr (.inl two))), ((f 24), .inl (cI, 150, .inl spn)), ((f 18), .inl (cL, 9, .inr (.inl trm))), ((f 20), .inl (cL, 400, .inr (.inl one)))] := hD
        refine W.eq (g2 := F0 m 35 ls [.long r_7]) rfl ?_
        refine lv_goto (tgt := 39) hx hb d_MO_combinator_35 (by decide) ?_
        refine lv_lstore (lv' := [(6, .long r_7), (4, .long r_4), (2, .long r_1), (0, .ref h0), (1, .int 6)]) hx hb d_MO_combinator_39 hl (Nat.le_of_ble_eq_true rfl) rfl (fun ls hl => ?_)
        refine lv_iload_n hx hb d_MO_combinator_41 rfl (lv_at hl 4 rfl) ?_
        refine W.callR (W.runS (As := [.int 6]) (rest := []) ⟨hx, hb, hml, hown, hG⟩ (mo_needs l D cI cL cZ cC 6 ) (cwS 1 hG (gd_S k_1621 k_1622 k_116 k_1623) rfl rfl rfl (by decide +kernel) ⟨Nat.le_of_ble_eq_true rfl, Nat.le_of_ble_eq_true rfl⟩) (wq_S hP hK [] rfl) rfl rfl hl.1 rfl (lv_room (Nat.le_of_ble_eq_true rfl)) d_MO_combinator_42 ⟨Nat.le_of_ble_eq_true rfl, Nat.le_of_ble_eq_true rfl⟩) ?_
        refine W.eq (g2 := F0 m 45 ls [.int (mneeds (6 : Int32))]) rfl ?_
        refine W.eq (g2 := F0 m 45 ls [.int 3]) (by rw [show mneeds 6 = 3 by decide]) ?_
        refine lv_iconst (v := 3) hx hb d_MO_combinator_45 (by decide) ?_
        refine lv_icmp_le (tgt := 57) hx hb d_MO_combinator_46 (by decide) (fun hbr => ?_) (fun hbr => absurd (by decide) hbr)
        refine lv_lconst (v := 0) hx hb d_MO_combinator_57 (by decide) ?_
        refine lv_lstore (lv' := [(8, .long 0), (6, .long r_7), (4, .long r_4), (2, .long r_1), (0, .ref h0), (1, .int 6)]) hx hb d_MO_combinator_58 hl (Nat.le_of_ble_eq_true rfl) rfl (fun ls hl => ?_)
        refine lv_iload_n hx hb d_MO_combinator_60 rfl (lv_at hl 5 rfl) ?_
        refine lv_iconst (v := 4) hx hb d_MO_combinator_61 (by decide) ?_
        refine lv_icmp_ne (tgt := 69) hx hb d_MO_combinator_62 (by decide) (fun hbr => ?_) (fun hbr => absurd hbr (by decide))
        refine lv_iload_n hx hb d_MO_combinator_69 rfl (lv_at hl 5 rfl) ?_
        refine lv_iconst (v := 5) hx hb d_MO_combinator_70 (by decide) ?_
        refine lv_icmp_eq (tgt := 80) hx hb d_MO_combinator_71 (by decide) (fun hbr => absurd hbr (by decide)) (fun hbr => ?_)
        refine lv_iload_n hx hb d_MO_combinator_74 rfl (lv_at hl 5 rfl) ?_
        refine lv_bipush (v := 6) hx hb d_MO_combinator_75 (by decide) ?_
        refine lv_icmp_ne (tgt := 84) hx hb d_MO_combinator_77 (by decide) (fun hbr => absurd (by decide) hbr) (fun hbr => ?_)
        refine lv_iconst (v := 1) hx hb d_MO_combinator_80 (by decide) ?_
        refine lv_goto (tgt := 111) hx hb d_MO_combinator_81 (by decide) ?_
        refine lv_istore (lv' := [(10, .int 1), (8, .long 0), (6, .long r_7), (4, .long r_4), (2, .long r_1), (0, .ref h0), (1, .int 6)]) hx hb d_MO_combinator_111 hl (Nat.le_of_ble_eq_true rfl) rfl (fun ls hl => ?_)
        refine lv_iload hx hb d_MO_combinator_113 (lv_at hl 0 rfl) ?_
        refine lv_if_le (tgt := 128) hx hb d_MO_combinator_115 (by decide) (fun hbr => absurd hbr (by decide)) (fun hbr => ?_)
        refine lv_aload_n hx hb d_MO_combinator_118 rfl (lv_at hl 5 rfl) ?_
        refine lv_iload hx hb d_MO_combinator_119 (lv_at hl 0 rfl) ?_
        refine em_call (wr := []) (em_runV (As := [.int (nI 1)]) (rest := []) ⟨hx, hb, hml, hown, hG⟩ (mo_fits l D cI cL cZ cC f h0 tn rm ln lx at_ bd fs dp on os bn df th tp mo_ ev ss so lk rs pt ot cl mrk wlk trm one two spn Gc 1 _ hmrk (by decide) hrm hHG hlk hrs htp hsp hnt) (cwV 1 hG (gd_V k_1628 k_1630 k_102 k_116 k_1631) rfl rfl rfl (by decide +kernel) ⟨Nat.le_of_ble_eq_true rfl, Nat.le_of_ble_eq_true rfl⟩) (tw_V (q0 := 2) hP hD hK hE hst hS rfl rfl [2, 0, 1, 5, 6, 3, 4] rfl (by decide)) rfl rfl hl.1 rfl (lv_room (Nat.le_of_ble_eq_true rfl)) d_MO_combinator_121 ⟨Nat.le_of_ble_eq_true rfl, Nat.le_of_ble_eq_true rfl⟩) hP hD hS hA [2, 0, 1, 5, 6, 3, 4] [] rfl rfl (by decide) (by decide) (fun v u H locs hok hP hD hS => ?_) (fun x C u H locs hbad hxx hP hD hS => ?_)
        · skip
          obtain ⟨so_10, mrk_11, wlk_12⟩ := u
          obtain ⟨r_13, rfl, hp_14⟩ := hok
          obtain ⟨hmrk_15, hres_16⟩ : (bln mrk_11) ∧ (((r_13 = 1 ∧ so_10 = so ∧ so = 0 ∧ sm (gn mrk_11) 400 + 1 ≤ rm) ∨ (r_13 = 0 ∧ ¬ so_10 = 0))) := hp_14
          have hP : va_P D classes [(h0, .inr (8, mS f tn rm ln lx at_ bd fs dp on os bn df th tp mo_ ev ss so_10 lk rs pt ot cl)), ((f 22), .inl (cZ, 400, .inl mrk_11)), ((f 23), .inl (cI, 810, .inl wlk_12)), ((f 18), .inl (cL, 9, .inr (.inl trm))), ((f 20), .inl (cL, 400, .inr (.inl one))), ((f 21), .inl (cL, 400, .inr (.inl two))), ((f 24), .inl (cI, 150, .inl spn))] H := hP
          have hD : va_D A [(h0, .inr (8, mS f tn rm ln lx at_ bd fs dp on os bn df th tp mo_ ev ss so_10 lk rs pt ot cl)), ((f 22), .inl (cZ, 400, .inl mrk_11)), ((f 23), .inl (cI, 810, .inl wlk_12)), ((f 18), .inl (cL, 9, .inr (.inl trm))), ((f 20), .inl (cL, 400, .inr (.inl one))), ((f 21), .inl (cL, 400, .inr (.inl two))), ((f 24), .inl (cI, 150, .inl spn))] := hD
          rcases hres_16 with ⟨rfl, hy_17a, hy_17b, hy_17c⟩ | ⟨rfl, hy_17a⟩
          · skip
            refine W.eq (g2 := F0 m 124 ls [.int 1]) rfl ?_
            refine lv_if_ne (tgt := 128) hx hb d_MO_combinator_124 (by decide) (fun hbr => ?_) (fun hbr => absurd hbr (by decide))
            refine lv_iload_n hx hb d_MO_combinator_128 rfl (lv_at hl 6 rfl) ?_
            refine lv_iconst (v := 2) hx hb d_MO_combinator_129 (by decide) ?_
            refine lv_icmp_ne (tgt := 161) hx hb d_MO_combinator_130 (by decide) (fun hbr => ?_) (fun hbr => absurd hbr (by decide))
            refine lv_iload_n hx hb d_MO_combinator_161 rfl (lv_at hl 6 rfl) ?_
            refine lv_iconst (v := 3) hx hb d_MO_combinator_162 (by decide) ?_
            refine lv_icmp_ne (tgt := 179) hx hb d_MO_combinator_163 (by decide) (fun hbr => ?_) (fun hbr => absurd hbr (by decide))
            refine lv_iload_n hx hb d_MO_combinator_179 rfl (lv_at hl 6 rfl) ?_
            refine lv_iconst (v := 4) hx hb d_MO_combinator_180 (by decide) ?_
            refine lv_icmp_ne (tgt := 211) hx hb d_MO_combinator_181 (by decide) (fun hbr => ?_) (fun hbr => absurd hbr (by decide))
            refine lv_iload_n hx hb d_MO_combinator_211 rfl (lv_at hl 6 rfl) ?_
            refine lv_iconst (v := 5) hx hb d_MO_combinator_212 (by decide) ?_
            refine lv_icmp_ne (tgt := 233) hx hb d_MO_combinator_213 (by decide) (fun hbr => ?_) (fun hbr => absurd hbr (by decide))
            refine lv_iload_n hx hb d_MO_combinator_233 rfl (lv_at hl 6 rfl) ?_
            refine lv_bipush (v := 6) hx hb d_MO_combinator_234 (by decide) ?_
            refine lv_icmp_ne (tgt := 256) hx hb d_MO_combinator_236 (by decide) (fun hbr => absurd (by decide) hbr) (fun hbr => ?_)
            refine lv_aload_n hx hb d_MO_combinator_239 rfl (lv_at hl 5 rfl) ?_
            refine lv_iconst (v := 3) hx hb d_MO_combinator_240 (by decide) ?_
            refine lv_aload_n hx hb d_MO_combinator_241 rfl (lv_at hl 5 rfl) ?_
            refine lv_lload_n hx hb d_MO_combinator_242 rfl (lv_at hl 4 rfl) ?_
            refine lv_lload hx hb d_MO_combinator_243 (lv_at hl 2 rfl) ?_
            refine em_call (wr := [((f 23), .inl (cI, 810, .inl wlk_12)), ((f 24), .inl (cI, 150, .inl spn))]) (em_runV (As := [.long r_1, .long r_7]) (rest := [.int 3, .ref h0]) ⟨hx, hb, hml, hown, hG⟩ (mo_made l D cI cL cZ cC f h0 tn rm ln lx at_ bd fs dp on os bn df th tp mo_ ev ss so_10 lk rs pt ot cl mrk_11 one two trm Gc r_1 r_7 _ hmrk_15 hHG hres_3 hres_9 (by omega) hnt) (cwV 2 hG (gd_V k_1640 k_1642 k_105 k_116 k_1643) rfl rfl rfl (by decide +kernel) ⟨Nat.le_of_ble_eq_true rfl, Nat.le_of_ble_eq_true rfl⟩) (tw_V (q0 := 0) hP hD hK hE hst hS rfl rfl [0, 1, 4, 5, 3] rfl (by decide)) rfl rfl hl.1 rfl (lv_room (Nat.le_of_ble_eq_true rfl)) d_MO_combinator_245 ⟨Nat.le_of_ble_eq_true rfl, Nat.le_of_ble_eq_true rfl⟩) hP hD hS hA [0, 1, 4, 5, 3] [2, 6] rfl rfl (by decide) (by decide) (fun v u H locs hok hP hD hS => ?_) (fun x C u H locs hbad hxx hP hD hS => ?_)
            · skip
              obtain ⟨mrk_18, one_19, two_20⟩ := u
              obtain ⟨r_21, rfl, hp_22⟩ := hok
              obtain ⟨hmrk_23, hres_24⟩ : (bln mrk_18) ∧ (∃ G' : Nat → Prop, (∀ c, Gc c → G' c) ∧ HG df G' trm one_19 two_20 ∧ okh df G' r_21 ∧ sm (gn mrk_18) 400 = sm (gn mrk_11) 400 + 1) := hp_22
              obtain ⟨G_25, hG_25a, hG_25b, hG_25c, hG_25d⟩ := hres_24
              have hP : va_P D classes [((f 23), .inl (cI, 810, .inl wlk_12)), ((f 24), .inl (cI, 150, .inl spn)), (h0, .inr (8, mS f tn rm ln lx at_ bd fs dp on os bn df th tp mo_ ev ss so_10 lk rs pt ot cl)), ((f 22), .inl (cZ, 400, .inl mrk_18)), ((f 20), .inl (cL, 400, .inr (.inl one_19))), ((f 21), .inl (cL, 400, .inr (.inl two_20))), ((f 18), .inl (cL, 9, .inr (.inl trm)))] H := hP
              have hD : va_D A [((f 23), .inl (cI, 810, .inl wlk_12)), ((f 24), .inl (cI, 150, .inl spn)), (h0, .inr (8, mS f tn rm ln lx at_ bd fs dp on os bn df th tp mo_ ev ss so_10 lk rs pt ot cl)), ((f 22), .inl (cZ, 400, .inl mrk_18)), ((f 20), .inl (cL, 400, .inr (.inl one_19))), ((f 21), .inl (cL, 400, .inr (.inl two_20))), ((f 18), .inl (cL, 9, .inr (.inl trm)))] := hD
              refine W.eq (g2 := F0 m 248 ls [.long r_21, .int 3, .ref h0]) rfl ?_
              refine lv_lload hx hb d_MO_combinator_248 (lv_at hl 3 rfl) ?_
              refine em_call (wr := [((f 23), .inl (cI, 810, .inl wlk_12)), ((f 22), .inl (cZ, 400, .inl mrk_18))]) (em_runV (As := [.int (nI 3), .long r_21, .long r_4]) (rest := []) ⟨hx, hb, hml, hown, hG⟩ (mo_overwrite l D cI cL cZ cC f h0 tn rm ln lx at_ bd fs dp on os bn df th tp mo_ ev ss so_10 lk rs pt ot cl one_19 two_20 spn trm G_25 3 r_21 r_4 _ (by omega) (by omega) (by omega) hG_25b hG_25c (okh_mono hG_25a hres_6) (sp_up hG_25a hsp) hnt) (cwV 3 hG (gd_V k_1592 k_1594 k_94 k_116 k_1595) rfl rfl rfl (by decide +kernel) ⟨Nat.le_of_ble_eq_true rfl, Nat.le_of_ble_eq_true rfl⟩) (tw_V (q0 := 2) hP hD hK hE hst hS rfl rfl [2, 4, 5, 1, 6] rfl (by decide)) rfl rfl hl.1 rfl (lv_room (Nat.le_of_ble_eq_true rfl)) d_MO_combinator_250 ⟨Nat.le_of_ble_eq_true rfl, Nat.le_of_ble_eq_true rfl⟩) hP hD hS hA [2, 4, 5, 1, 6] [0, 3] rfl rfl (by decide) (by decide) (fun v u H locs hok hP hD hS => ?_) (fun x C u H locs hbad hxx hP hD hS => ?_)
              · skip
                obtain ⟨tp_26, lk_27, ss_28, one_29, two_30⟩ := u
                obtain ⟨rfl, hp_32⟩ := hok
                obtain ⟨hHG_33, htp_34, hlk_35, hss_36⟩ : (HG df G_25 trm one_29 two_30) ∧ (tp_26 + 3 = tp + 1) ∧ (lk_27 = r_21) ∧ (ss_28 = ss + 1) := hp_32
                have hP : va_P D classes [((f 23), .inl (cI, 810, .inl wlk_12)), ((f 22), .inl (cZ, 400, .inl mrk_18)), (h0, .inr (8, mS f tn rm ln lx at_ bd fs dp on os bn df th tp_26 mo_ ev ss_28 so_10 lk_27 rs pt ot cl)), ((f 20), .inl (cL, 400, .inr (.inl one_29))), ((f 21), .inl (cL, 400, .inr (.inl two_30))), ((f 24), .inl (cI, 150, .inl spn)), ((f 18), .inl (cL, 9, .inr (.inl trm)))] H := hP
                have hD : va_D A [((f 23), .inl (cI, 810, .inl wlk_12)), ((f 22), .inl (cZ, 400, .inl mrk_18)), (h0, .inr (8, mS f tn rm ln lx at_ bd fs dp on os bn df th tp_26 mo_ ev ss_28 so_10 lk_27 rs pt ot cl)), ((f 20), .inl (cL, 400, .inr (.inl one_29))), ((f 21), .inl (cL, 400, .inr (.inl two_30))), ((f 24), .inl (cI, 150, .inl spn)), ((f 18), .inl (cL, 9, .inr (.inl trm)))] := hD
                refine W.eq (g2 := F0 m 253 ls []) rfl ?_
                refine lv_goto (tgt := 330) hx hb d_MO_combinator_253 (by decide) ?_
                exact em_vret hx hb hr hlocks hP hD hK hS (tp_26, lk_27, ss_28, so_10, one_29, two_30, mrk_18, wlk_12) [2, 3, 4, 1, 0, 5, 6] (by decide) rfl ⟨rfl, ⟨hmrk_23, (show ∃ G' : Nat → Prop, MI df G' trm one_29 two_30 spn tp_26 lk_27 rs pt ∧ ((ss_28 = ss + 1 ∧ so_10 = so ∧ tp ≤ tp_26 + 3) ∨ (ss_28 = ss ∧ ¬ so_10 = 0 ∧ tp_26 = tp)) from ⟨G_25, ⟨hHG_33, (by rw [hlk_35]; exact hG_25c), (fun q => okh_mono hG_25a (hrs q)), (by omega), (fun k hk => (sp_up hG_25a hsp) k (by omega))⟩, Or.inl ⟨hss_36, hy_17a, by omega⟩⟩)⟩⟩ d_MO_combinator_330
              · skip
                exact hbad.elim
            · skip
              exact hbad.elim
          · skip
            refine W.eq (g2 := F0 m 124 ls [.int 0]) rfl ?_
            refine lv_if_ne (tgt := 128) hx hb d_MO_combinator_124 (by decide) (fun hbr => absurd (by decide) hbr) (fun hbr => ?_)
            exact em_vret hx hb hr hlocks hP hD hK hS (tp, lk, ss, so_10, one, two, mrk_11, wlk_12) [0, 4, 5, 1, 2, 6, 3] (by decide) rfl ⟨rfl, ⟨hmrk_15, (show ∃ G' : Nat → Prop, MI df G' trm one two spn tp lk rs pt ∧ ((ss = ss + 1 ∧ so_10 = so ∧ tp ≤ tp + 3) ∨ (ss = ss ∧ ¬ so_10 = 0 ∧ tp = tp)) from ⟨Gc, hMI, Or.inr ⟨rfl, hy_17a, rfl⟩⟩)⟩⟩ d_MO_combinator_127
        · skip
          exact hbad.elim
      · skip
        exact hbad.elim
    · skip
      exact hbad.elim
  · skip
    exact hbad.elim
set_option maxHeartbeats 8000000 in
set_option maxRecDepth 100000 in
theorem mo_comb7 (l : Launch) (D : va_G) (cI cL cZ cC : ClassId) (f : Nat → Nat) (h0 : Nat) (tn : Int32) (rm : Nat) (ln : Nat) (lx : Nat) (at_ : Nat) (bd : Int32) (fs : Nat) (dp : Nat) (on : Nat) (os : Nat) (bn : Nat) (df : Nat) (th : Int32) (tp : Nat) (mo_ : Int32) (ev : Nat) (ss : Int32) (so : Int32) (lk : Int64) (rs : Int64) (pt : Int32) (ot : Nat) (cl : Int32) (one : Nat → Int64) (two : Nat → Int64) (mrk : Nat → Int32) (wlk : Nat → Int32) (spn : Nat → Int32) (trm : Nat → Int64) (Gc : Nat → Prop) (sz : Nat) (hmrk : bln mrk) (hMI : MI df Gc trm one two spn tp lk rs pt) (hrm : rm ≤ 400) (hneed : 4 ≤ tp) (hnt : l.stackTraces = false) : em_Met l y_MO_combinator (wz y_MO_combinator b_MO_combinator 13 none) ({ frames := 4, cells := 0, slots := 0, locals := 87 }) (va_Pc [.ref h0, .int 7] (tw_pre D (tys4 cI cL cZ cC) [(h0, .inr (8, mS f tn rm ln lx at_ bd fs dp on os bn df th tp mo_ ev ss so lk rs pt ot cl)), ((f 20), .inl (cL, 400, .inr (.inl one))), ((f 21), .inl (cL, 400, .inr (.inl two))), ((f 22), .inl (cZ, 400, .inl mrk)), ((f 23), .inl (cI, 810, .inl wlk)), ((f 24), .inl (cI, 150, .inl spn)), ((f 18), .inl (cL, 9, .inr (.inl trm)))] sz)) D (tys4 cI cL cZ cC) (va_A [(h0, .inr (8, mS f tn rm ln lx at_ bd fs dp on os bn df th tp mo_ ev ss so lk rs pt ot cl)), ((f 20), .inl (cL, 400, .inr (.inl one))), ((f 21), .inl (cL, 400, .inr (.inl two))), ((f 22), .inl (cZ, 400, .inl mrk)), ((f 23), .inl (cI, 810, .inl wlk)), ((f 24), .inl (cI, 150, .inl spn)), ((f 18), .inl (cL, 9, .inr (.inl trm)))] sz) (fun (u : Nat × Int64 × Int32 × Int32 × (Nat → Int64) × (Nat → Int64) × (Nat → Int32) × (Nat → Int32)) => [(h0, .inr (8, mS f tn rm ln lx at_ bd fs dp on os bn df th u.1 mo_ ev u.2.2.1 u.2.2.2.1 u.2.1 rs pt ot cl)), ((f 20), .inl (cL, 400, .inr (.inl u.2.2.2.2.1))), ((f 21), .inl (cL, 400, .inr (.inl u.2.2.2.2.2.1))), ((f 22), .inl (cZ, 400, .inl u.2.2.2.2.2.2.1)), ((f 23), .inl (cI, 810, .inl u.2.2.2.2.2.2.2)), ((f 24), .inl (cI, 150, .inl spn)), ((f 18), .inl (cL, 9, .inr (.inl trm)))]) (fun v (u : Nat × Int64 × Int32 × Int32 × (Nat → Int64) × (Nat → Int64) × (Nat → Int32) × (Nat → Int32)) => v = none ∧ ((bln u.2.2.2.2.2.2.1) ∧ (∃ G' : Nat → Prop, MI df G' trm u.2.2.2.2.1 u.2.2.2.2.2.1 spn u.1 u.2.1 rs pt ∧ ((u.2.2.1 = ss + 1 ∧ u.2.2.2.1 = so ∧ tp ≤ u.1 + 4) ∨ (u.2.2.1 = ss ∧ ¬ u.2.2.2.1 = 0 ∧ u.1 = tp))))) (fun C (u : Nat × Int64 × Int32 × Int32 × (Nat → Int64) × (Nat → Int64) × (Nat → Int32) × (Nat → Int32)) => False) 0 0 := by
  refine em_Met.ofW (cc := b_MO_combinator) (maxL := 13) (ret := none) (by decide) rfl ?_
  intro p e s m args below meth c s₁ B hml hv hno
  obtain ⟨rfl, ⟨hsz, hP, hK, hD0⟩, hE⟩ := hv
  have hx := B.exec
  have hb := B.bytes
  have hr := B.returns
  have hts := atoms_spec (ws := wz y_MO_combinator b_MO_combinator 13 none) B.pre
  have hG := wz_G hts
  have hown : s.vm.findClass rn_MO = some m.cls := findClass_of_methodNamed B.named
  have hlocks := B.notSynchronized
  subst hsz
  have hD := hD0.self (sz := s.heap.size)
  have hst := tw_st hP
  generalize hAe : va_A [(h0, .inr (8, mS f tn rm ln lx at_ bd fs dp on os bn df th tp mo_ ev ss so lk rs pt ot cl)), ((f 20), .inl (cL, 400, .inr (.inl one))), ((f 21), .inl (cL, 400, .inr (.inl two))), ((f 22), .inl (cZ, 400, .inl mrk)), ((f 23), .inl (cI, 810, .inl wlk)), ((f 24), .inl (cI, 150, .inl spn)), ((f 18), .inl (cL, 9, .inr (.inl trm)))] s.heap.size = A at hD hst ⊢
  have hA : ∀ q : Nat, s.heap.size ≤ q → A q := fun q h => by rw [← hAe]; exact Or.inr h
  have hS : va_S A s.heap s.heap [] := va_S.rf
  have hl := lv_entry ([.ref h0, .int 7]) (n := 13) (Nat.le_of_ble_eq_true rfl)
  rw [lg_entry_eq]
  generalize (lg_sl ([.ref h0, .int 7]) ++ List.replicate (13 - (lg_sl ([.ref h0, .int 7])).length) Slot.unset).toArray = ls at hl ⊢
  have hl : lv_has ls 13 [(0, .ref h0), (1, .int 7)] := hl
  obtain ⟨hHG, hlk, hrs, htp, hsp⟩ := id hMI
  refine lv_aload_n hx hb d_MO_combinator_0 rfl (lv_at hl 0 rfl) ?_
  refine lv_iconst (v := 0) hx hb d_MO_combinator_1 (by decide) ?_
  refine em_call (wr := [((f 22), .inl (cZ, 400, .inl mrk)), ((f 23), .inl (cI, 810, .inl wlk))]) (em_runV (As := [.int (nI 0)]) (rest := []) ⟨hx, hb, hml, hown, hG⟩ (mo_argument l D cI cL cZ cC f h0 tn rm ln lx at_ bd fs dp on os bn df th tp mo_ ev ss so lk rs pt ot cl two spn trm one Gc 0 _ (by omega) (by omega) hHG hsp hnt) (cwV 1 hG (gd_V k_1581 k_1583 k_92 k_116 k_1584) rfl rfl rfl (by decide +kernel) ⟨Nat.le_of_ble_eq_true rfl, Nat.le_of_ble_eq_true rfl⟩) (tw_V (q0 := 0) hP hD hK hE hst hS rfl rfl [0, 2, 5, 6, 1] rfl (by decide)) rfl rfl hl.1 rfl (lv_room (Nat.le_of_ble_eq_true rfl)) d_MO_combinator_2 ⟨Nat.le_of_ble_eq_true rfl, Nat.le_of_ble_eq_true rfl⟩) hP hD hS hA [0, 2, 5, 6, 1] [3, 4] rfl rfl (by decide) (by decide) (fun v u H locs hok hP hD hS => ?_) (fun x C u H locs hbad hxx hP hD hS => ?_)
  · skip
    obtain ⟨r_1, rfl, hp_2⟩ := hok
    have hres_3 : (okh df Gc r_1) := hp_2
    have hP : va_P D classes [((f 22), .inl (cZ, 400, .inl mrk)), ((f 23), .inl (cI, 810, .inl wlk)), (h0, .inr (8, mS f tn rm ln lx at_ bd fs dp on os bn df th tp mo_ ev ss so lk rs pt ot cl)), ((f 21), .inl (cL, 400, .inr (.inl two))), ((f 24), .inl (cI, 150, .inl spn)), ((f 18), .inl (cL, 9, .inr (.inl trm))), ((f 20), .inl (cL, 400, .inr (.inl one)))] H := hP
    have hD : va_D A [((f 22), .inl (cZ, 400, .inl mrk)), ((f 23), .inl (cI, 810, .inl wlk)), (h0, .inr (8, mS f tn rm ln lx at_ bd fs dp on os bn df th tp mo_ ev ss so lk rs pt ot cl)), ((f 21), .inl (cL, 400, .inr (.inl two))), ((f 24), .inl (cI, 150, .inl spn)), ((f 18), .inl (cL, 9, .inr (.inl trm))), ((f 20), .inl (cL, 400, .inr (.inl one)))] := hD
    refine W.eq (g2 := F0 m 5 ls [.long r_1]) rfl ?_
    refine lv_lstore_n (lv' := [(2, .long r_1), (0, .ref h0), (1, .int 7)]) hx hb d_MO_combinator_5 rfl hl (Nat.le_of_ble_eq_true rfl) rfl (fun ls hl => ?_)
    refine lv_iload_n hx hb d_MO_combinator_6 rfl (lv_at hl 2 rfl) ?_
    refine lv_iconst (v := 2) hx hb d_MO_combinator_7 (by decide) ?_
    refine lv_icmp_le (tgt := 19) hx hb d_MO_combinator_8 (by decide) (fun hbr => absurd hbr (by decide)) (fun hbr => ?_)
    refine lv_aload_n hx hb d_MO_combinator_11 rfl (lv_at hl 1 rfl) ?_
    refine lv_iconst (v := 1) hx hb d_MO_combinator_12 (by decide) ?_
    refine em_call (wr := [((f 22), .inl (cZ, 400, .inl mrk)), ((f 23), .inl (cI, 810, .inl wlk))]) (em_runV (As := [.int (nI 1)]) (rest := []) ⟨hx, hb, hml, hown, hG⟩ (mo_argument l D cI cL cZ cC f h0 tn rm ln lx at_ bd fs dp on os bn df th tp mo_ ev ss so lk rs pt ot cl two spn trm one Gc 1 _ (by omega) (by omega) hHG hsp hnt) (cwV 1 hG (gd_V k_1581 k_1583 k_92 k_116 k_1584) rfl rfl rfl (by decide +kernel) ⟨Nat.le_of_ble_eq_true rfl, Nat.le_of_ble_eq_true rfl⟩) (tw_V (q0 := 2) hP hD hK hE hst hS rfl rfl [2, 3, 4, 5, 6] rfl (by decide)) rfl rfl hl.1 rfl (lv_room (Nat.le_of_ble_eq_true rfl)) d_MO_combinator_13 ⟨Nat.le_of_ble_eq_true rfl, Nat.le_of_ble_eq_true rfl⟩) hP hD hS hA [2, 3, 4, 5, 6] [0, 1] rfl rfl (by decide) (by decide) (fun v u H locs hok hP hD hS => ?_) (fun x C u H locs hbad hxx hP hD hS => ?_)
    · skip
      obtain ⟨r_4, rfl, hp_5⟩ := hok
      have hres_6 : (okh df Gc r_4) := hp_5
      have hP : va_P D classes [((f 22), .inl (cZ, 400, .inl mrk)), ((f 23), .inl (cI, 810, .inl wlk)), (h0, .inr (8, mS f tn rm ln lx at_ bd fs dp on os bn df th tp mo_ ev ss so lk rs pt ot cl)), ((f 21), .inl (cL, 400, .inr (.inl two))), ((f 24), .inl (cI, 150, .inl spn)), ((f 18), .inl (cL, 9, .inr (.inl trm))), ((f 20), .inl (cL, 400, .inr (.inl one)))] H := hP
      have hD : va_D A [((f 22), .inl (cZ, 400, .inl mrk)), ((f 23), .inl (cI, 810, .inl wlk)), (h0, .inr (8, mS f tn rm ln lx at_ bd fs dp on os bn df th tp mo_ ev ss so lk rs pt ot cl)), ((f 21), .inl (cL, 400, .inr (.inl two))), ((f 24), .inl (cI, 150, .inl spn)), ((f 18), .inl (cL, 9, .inr (.inl trm))), ((f 20), .inl (cL, 400, .inr (.inl one)))] := hD
      refine W.eq (g2 := F0 m 16 ls [.long r_4]) rfl ?_
      refine lv_goto (tgt := 20) hx hb d_MO_combinator_16 (by decide) ?_
      refine lv_lstore (lv' := [(4, .long r_4), (2, .long r_1), (0, .ref h0), (1, .int 7)]) hx hb d_MO_combinator_20 hl (Nat.le_of_ble_eq_true rfl) rfl (fun ls hl => ?_)
      refine lv_iload_n hx hb d_MO_combinator_22 rfl (lv_at hl 3 rfl) ?_
      refine W.callR (W.runS (As := [.int 7]) (rest := []) ⟨hx, hb, hml, hown, hG⟩ (mo_needs l D cI cL cZ cC 7 ) (cwS 1 hG (gd_S k_1621 k_1622 k_116 k_1623) rfl rfl rfl (by decide +kernel) ⟨Nat.le_of_ble_eq_true rfl, Nat.le_of_ble_eq_true rfl⟩) (wq_S hP hK [] rfl) rfl rfl hl.1 rfl (lv_room (Nat.le_of_ble_eq_true rfl)) d_MO_combinator_23 ⟨Nat.le_of_ble_eq_true rfl, Nat.le_of_ble_eq_true rfl⟩) ?_
      refine W.eq (g2 := F0 m 26 ls [.int (mneeds (7 : Int32))]) rfl ?_
      refine W.eq (g2 := F0 m 26 ls [.int 4]) (by rw [show mneeds 7 = 4 by decide]) ?_
      refine lv_iconst (v := 2) hx hb d_MO_combinator_26 (by decide) ?_
      refine lv_icmp_le (tgt := 38) hx hb d_MO_combinator_27 (by decide) (fun hbr => absurd hbr (by decide)) (fun hbr => ?_)
      refine lv_aload_n hx hb d_MO_combinator_30 rfl (lv_at hl 2 rfl) ?_
      refine lv_iconst (v := 2) hx hb d_MO_combinator_31 (by decide) ?_
      refine em_call (wr := [((f 22), .inl (cZ, 400, .inl mrk)), ((f 23), .inl (cI, 810, .inl wlk))]) (em_runV (As := [.int (nI 2)]) (rest := []) ⟨hx, hb, hml, hown, hG⟩ (mo_argument l D cI cL cZ cC f h0 tn rm ln lx at_ bd fs dp on os bn df th tp mo_ ev ss so lk rs pt ot cl two spn trm one Gc 2 _ (by omega) (by omega) hHG hsp hnt) (cwV 1 hG (gd_V k_1581 k_1583 k_92 k_116 k_1584) rfl rfl rfl (by decide +kernel) ⟨Nat.le_of_ble_eq_true rfl, Nat.le_of_ble_eq_true rfl⟩) (tw_V (q0 := 2) hP hD hK hE hst hS rfl rfl [2, 3, 4, 5, 6] rfl (by decide)) rfl rfl hl.1 rfl (lv_room (Nat.le_of_ble_eq_true rfl)) d_MO_combinator_32 ⟨Nat.le_of_ble_eq_true rfl, Nat.le_of_ble_eq_true rfl⟩) hP hD hS hA [2, 3, 4, 5, 6] [0, 1] rfl rfl (by decide) (by decide) (fun v u H locs hok hP hD hS => ?_) (fun x C u H locs hbad hxx hP hD hS => ?_)
      · skip
        obtain ⟨r_7, rfl, hp_8⟩ := hok
        have hres_9 : (okh df Gc r_7) := hp_8
        have hP : va_P D classes [((f 22), .inl (cZ, 400, .inl mrk)), ((f 23), .inl (cI, 810, .inl wlk)), (h0, .inr (8, mS f tn rm ln lx at_ bd fs dp on os bn df th tp mo_ ev ss so lk rs pt ot cl)), ((f 21), .inl (cL, 400, .inr (.inl two))), ((f 24), .inl (cI, 150, .inl spn)), ((f 18), .inl (cL, 9, .inr (.inl trm))), ((f 20), .inl (cL, 400, .inr (.inl one)))] H := hP
        have hD : va_D A [((f 22), .inl (cZ, 400, .inl mrk)), ((f 23), .inl (cI, 810, .inl wlk)), (h0, .inr (8, mS f tn rm ln lx at_ bd fs dp on os bn df th tp mo_ ev ss so lk rs pt ot cl)), ((f 21), .inl (cL, 400, .inr (.inl two))), ((f 24), .inl (cI, 150, .inl spn)), ((f 18), .inl (cL, 9, .inr (.inl trm))), ((f 20), .inl (cL, 400, .inr (.inl one)))] := hD
        refine W.eq (g2 := F0 m 35 ls [.long r_7]) rfl ?_
        refine lv_goto (tgt := 39) hx hb d_MO_combinator_35 (by decide) ?_
        refine lv_lstore (lv' := [(6, .long r_7), (4, .long r_4), (2, .long r_1), (0, .ref h0), (1, .int 7)]) hx hb d_MO_combinator_39 hl (Nat.le_of_ble_eq_true rfl) rfl (fun ls hl => ?_)
        refine lv_iload_n hx hb d_MO_combinator_41 rfl (lv_at hl 4 rfl) ?_
        refine W.callR (W.runS (As := [.int 7]) (rest := []) ⟨hx, hb, hml, hown, hG⟩ (mo_needs l D cI cL cZ cC 7 ) (cwS 1 hG (gd_S k_1621 k_1622 k_116 k_1623) rfl rfl rfl (by decide +kernel) ⟨Nat.le_of_ble_eq_true rfl, Nat.le_of_ble_eq_true rfl⟩) (wq_S hP hK [] rfl) rfl rfl hl.1 rfl (lv_room (Nat.le_of_ble_eq_true rfl)) d_MO_combinator_42 ⟨Nat.le_of_ble_eq_true rfl, Nat.le_of_ble_eq_true rfl⟩) ?_
        refine W.eq (g2 := F0 m 45 ls [.int (mneeds (7 : Int32))]) rfl ?_
        refine W.eq (g2 := F0 m 45 ls [.int 4]) (by rw [show mneeds 7 = 4 by decide]) ?_
        refine lv_iconst (v := 3) hx hb d_MO_combinator_45 (by decide) ?_
        refine lv_icmp_le (tgt := 57) hx hb d_MO_combinator_46 (by decide) (fun hbr => absurd hbr (by decide)) (fun hbr => ?_)
        refine lv_aload_n hx hb d_MO_combinator_49 rfl (lv_at hl 3 rfl) ?_
        refine lv_iconst (v := 3) hx hb d_MO_combinator_50 (by decide) ?_
        refine em_call (wr := [((f 22), .inl (cZ, 400, .inl mrk)), ((f 23), .inl (cI, 810, .inl wlk))]) (em_runV (As := [.int (nI 3)]) (rest := []) ⟨hx, hb, hml, hown, hG⟩ (mo_argument l D cI cL cZ cC f h0 tn rm ln lx at_ bd fs dp on os bn df th tp mo_ ev ss so lk rs pt ot cl two spn trm one Gc 3 _ (by omega) (by omega) hHG hsp hnt) (cwV 1 hG (gd_V k_1581 k_1583 k_92 k_116 k_1584) rfl rfl rfl (by decide +kernel) ⟨Nat.le_of_ble_eq_true rfl, Nat.le_of_ble_eq_true rfl⟩) (tw_V (q0 := 2) hP hD hK hE hst hS rfl rfl [2, 3, 4, 5, 6] rfl (by decide)) rfl rfl hl.1 rfl (lv_room (Nat.le_of_ble_eq_true rfl)) d_MO_combinator_51 ⟨Nat.le_of_ble_eq_true rfl, Nat.le_of_ble_eq_true rfl⟩) hP hD hS hA [2, 3, 4, 5, 6] [0, 1] rfl rfl (by decide) (by decide) (fun v u H locs hok hP hD hS => ?_) (fun x C u H locs hbad hxx hP hD hS => ?_)
        · skip
          obtain ⟨r_10, rfl, hp_11⟩ := hok
          have hres_12 : (okh df Gc r_10) := hp_11
          have hP : va_P D classes [((f 22), .inl (cZ, 400, .inl mrk)), ((f 23), .inl (cI, 810, .inl wlk)), (h0, .inr (8, mS f tn rm ln lx at_ bd fs dp on os bn df th tp mo_ ev ss so lk rs pt ot cl)), ((f 21), .inl (cL, 400, .inr (.inl two))), ((f 24), .inl (cI, 150, .inl spn)), ((f 18), .inl (cL, 9, .inr (.inl trm))), ((f 20), .inl (cL, 400, .inr (.inl one)))] H := hP
          have hD : va_D A [((f 22), .inl (cZ, 400, .inl mrk)), ((f 23), .inl (cI, 810, .inl wlk)), (h0, .inr (8, mS f tn rm ln lx at_ bd fs dp on os bn df th tp mo_ ev ss so lk rs pt ot cl)), ((f 21), .inl (cL, 400, .inr (.inl two))), ((f 24), .inl (cI, 150, .inl spn)), ((f 18), .inl (cL, 9, .inr (.inl trm))), ((f 20), .inl (cL, 400, .inr (.inl one)))] := hD
          refine W.eq (g2 := F0 m 54 ls [.long r_10]) rfl ?_
          refine lv_goto (tgt := 58) hx hb d_MO_combinator_54 (by decide) ?_
          refine lv_lstore (lv' := [(8, .long r_10), (6, .long r_7), (4, .long r_4), (2, .long r_1), (0, .ref h0), (1, .int 7)]) hx hb d_MO_combinator_58 hl (Nat.le_of_ble_eq_true rfl) rfl (fun ls hl => ?_)
          refine lv_iload_n hx hb d_MO_combinator_60 rfl (lv_at hl 5 rfl) ?_
          refine lv_iconst (v := 4) hx hb d_MO_combinator_61 (by decide) ?_
          refine lv_icmp_ne (tgt := 69) hx hb d_MO_combinator_62 (by decide) (fun hbr => ?_) (fun hbr => absurd hbr (by decide))
          refine lv_iload_n hx hb d_MO_combinator_69 rfl (lv_at hl 5 rfl) ?_
          refine lv_iconst (v := 5) hx hb d_MO_combinator_70 (by decide) ?_
          refine lv_icmp_eq (tgt := 80) hx hb d_MO_combinator_71 (by decide) (fun hbr => absurd hbr (by decide)) (fun hbr => ?_)
          refine lv_iload_n hx hb d_MO_combinator_74 rfl (lv_at hl 5 rfl) ?_
          refine lv_bipush (v := 6) hx hb d_MO_combinator_75 (by decide) ?_
          refine lv_icmp_ne (tgt := 84) hx hb d_MO_combinator_77 (by decide) (fun hbr => ?_) (fun hbr => absurd hbr (by decide))
          refine lv_iload_n hx hb d_MO_combinator_84 rfl (lv_at hl 5 rfl) ?_
          refine lv_bipush (v := 7) hx hb d_MO_combinator_85 (by decide) ?_
          refine lv_icmp_ne (tgt := 94) hx hb d_MO_combinator_87 (by decide) (fun hbr => absurd (by decide) hbr) (fun hbr => ?_)
          refine lv_iconst (v := 3) hx hb d_MO_combinator_90 (by decide) ?_
          refine lv_goto (tgt := 111) hx hb d_MO_combinator_91 (by decide) ?_
          refine lv_istore (lv' := [(10, .int 3), (8, .long r_10), (6, .long r_7), (4, .long r_4), (2, .long r_1), (0, .ref h0), (1, .int 7)]) hx hb d_MO_combinator_111 hl (Nat.le_of_ble_eq_true rfl) rfl (fun ls hl => ?_)
          refine lv_iload hx hb d_MO_combinator_113 (lv_at hl 0 rfl) ?_
          refine lv_if_le (tgt := 128) hx hb d_MO_combinator_115 (by decide) (fun hbr => absurd hbr (by decide)) (fun hbr => ?_)
          refine lv_aload_n hx hb d_MO_combinator_118 rfl (lv_at hl 5 rfl) ?_
          refine lv_iload hx hb d_MO_combinator_119 (lv_at hl 0 rfl) ?_
          refine em_call (wr := []) (em_runV (As := [.int (nI 3)]) (rest := []) ⟨hx, hb, hml, hown, hG⟩ (mo_fits l D cI cL cZ cC f h0 tn rm ln lx at_ bd fs dp on os bn df th tp mo_ ev ss so lk rs pt ot cl mrk wlk trm one two spn Gc 3 _ hmrk (by decide) hrm hHG hlk hrs htp hsp hnt) (cwV 1 hG (gd_V k_1628 k_1630 k_102 k_116 k_1631) rfl rfl rfl (by decide +kernel) ⟨Nat.le_of_ble_eq_true rfl, Nat.le_of_ble_eq_true rfl⟩) (tw_V (q0 := 2) hP hD hK hE hst hS rfl rfl [2, 0, 1, 5, 6, 3, 4] rfl (by decide)) rfl rfl hl.1 rfl (lv_room (Nat.le_of_ble_eq_true rfl)) d_MO_combinator_121 ⟨Nat.le_of_ble_eq_true rfl, Nat.le_of_ble_eq_true rfl⟩) hP hD hS hA [2, 0, 1, 5, 6, 3, 4] [] rfl rfl (by decide) (by decide) (fun v u H locs hok hP hD hS => ?_) (fun x C u H locs hbad hxx hP hD hS => ?_)
          · skip
            obtain ⟨so_13, mrk_14, wlk_15⟩ := u
            obtain ⟨r_16, rfl, hp_17⟩ := hok
            obtain ⟨hmrk_18, hres_19⟩ : (bln mrk_14) ∧ (((r_16 = 1 ∧ so_13 = so ∧ so = 0 ∧ sm (gn mrk_14) 400 + 3 ≤ rm) ∨ (r_16 = 0 ∧ ¬ so_13 = 0))) := hp_17
            have hP : va_P D classes [(h0, .inr (8, mS f tn rm ln lx at_ bd fs dp on os bn df th tp mo_ ev ss so_13 lk rs pt ot cl)), ((f 22), .inl (cZ, 400, .inl mrk_14)), ((f 23), .inl (cI, 810, .inl wlk_15)), ((f 18), .inl (cL, 9, .inr (.inl trm))), ((f 20), .inl (cL, 400, .inr (.inl one))), ((f 21), .inl (cL, 400, .inr (.inl two))), ((f 24), .inl (cI, 150, .inl spn))] H := hP
            have hD : va_D A [(h0, .inr (8, mS f tn rm ln lx at_ bd fs dp on os bn df th tp mo_ ev ss so_13 lk rs pt ot cl)), ((f 22), .inl (cZ, 400, .inl mrk_14)), ((f 23), .inl (cI, 810, .inl wlk_15)), ((f 18), .inl (cL, 9, .inr (.inl trm))), ((f 20), .inl (cL, 400, .inr (.inl one))), ((f 21), .inl (cL, 400, .inr (.inl two))), ((f 24), .inl (cI, 150, .inl spn))] := hD
            rcases hres_19 with ⟨rfl, hy_20a, hy_20b, hy_20c⟩ | ⟨rfl, hy_20a⟩
            · skip
              refine W.eq (g2 := F0 m 124 ls [.int 1]) rfl ?_
              refine lv_if_ne (tgt := 128) hx hb d_MO_combinator_124 (by decide) (fun hbr => ?_) (fun hbr => absurd hbr (by decide))
              refine lv_iload_n hx hb d_MO_combinator_128 rfl (lv_at hl 6 rfl) ?_
              refine lv_iconst (v := 2) hx hb d_MO_combinator_129 (by decide) ?_
              refine lv_icmp_ne (tgt := 161) hx hb d_MO_combinator_130 (by decide) (fun hbr => ?_) (fun hbr => absurd hbr (by decide))
              refine lv_iload_n hx hb d_MO_combinator_161 rfl (lv_at hl 6 rfl) ?_
              refine lv_iconst (v := 3) hx hb d_MO_combinator_162 (by decide) ?_
              refine lv_icmp_ne (tgt := 179) hx hb d_MO_combinator_163 (by decide) (fun hbr => ?_) (fun hbr => absurd hbr (by decide))
              refine lv_iload_n hx hb d_MO_combinator_179 rfl (lv_at hl 6 rfl) ?_
              refine lv_iconst (v := 4) hx hb d_MO_combinator_180 (by decide) ?_
              refine lv_icmp_ne (tgt := 211) hx hb d_MO_combinator_181 (by decide) (fun hbr => ?_) (fun hbr => absurd hbr (by decide))
              refine lv_iload_n hx hb d_MO_combinator_211 rfl (lv_at hl 6 rfl) ?_
              refine lv_iconst (v := 5) hx hb d_MO_combinator_212 (by decide) ?_
              refine lv_icmp_ne (tgt := 233) hx hb d_MO_combinator_213 (by decide) (fun hbr => ?_) (fun hbr => absurd hbr (by decide))
              refine lv_iload_n hx hb d_MO_combinator_233 rfl (lv_at hl 6 rfl) ?_
              refine lv_bipush (v := 6) hx hb d_MO_combinator_234 (by decide) ?_
              refine lv_icmp_ne (tgt := 256) hx hb d_MO_combinator_236 (by decide) (fun hbr => ?_) (fun hbr => absurd hbr (by decide))
              refine lv_iload_n hx hb d_MO_combinator_256 rfl (lv_at hl 6 rfl) ?_
              refine lv_bipush (v := 8) hx hb d_MO_combinator_257 (by decide) ?_
              refine lv_icmp_ne (tgt := 289) hx hb d_MO_combinator_259 (by decide) (fun hbr => ?_) (fun hbr => absurd hbr (by decide))
              refine lv_aload_n hx hb d_MO_combinator_289 rfl (lv_at hl 5 rfl) ?_
              refine lv_lload_n hx hb d_MO_combinator_290 rfl (lv_at hl 4 rfl) ?_
              refine lv_aload_n hx hb d_MO_combinator_291 rfl (lv_at hl 5 rfl) ?_
              refine lv_lload hx hb d_MO_combinator_292 (lv_at hl 3 rfl) ?_
              refine lv_lload hx hb d_MO_combinator_294 (lv_at hl 1 rfl) ?_
              refine em_call (wr := [((f 23), .inl (cI, 810, .inl wlk_15)), ((f 24), .inl (cI, 150, .inl spn))]) (em_runV (As := [.long r_4, .long r_10]) (rest := [.long r_1, .ref h0]) ⟨hx, hb, hml, hown, hG⟩ (mo_made l D cI cL cZ cC f h0 tn rm ln lx at_ bd fs dp on os bn df th tp mo_ ev ss so_13 lk rs pt ot cl mrk_14 one two trm Gc r_4 r_10 _ hmrk_18 hHG hres_6 hres_12 (by omega) hnt) (cwV 2 hG (gd_V k_1640 k_1642 k_105 k_116 k_1643) rfl rfl rfl (by decide +kernel) ⟨Nat.le_of_ble_eq_true rfl, Nat.le_of_ble_eq_true rfl⟩) (tw_V (q0 := 0) hP hD hK hE hst hS rfl rfl [0, 1, 4, 5, 3] rfl (by decide)) rfl rfl hl.1 rfl (lv_room (Nat.le_of_ble_eq_true rfl)) d_MO_combinator_296 ⟨Nat.le_of_ble_eq_true rfl, Nat.le_of_ble_eq_true rfl⟩) hP hD hS hA [0, 1, 4, 5, 3] [2, 6] rfl rfl (by decide) (by decide) (fun v u H locs hok hP hD hS => ?_) (fun x C u H locs hbad hxx hP hD hS => ?_)
              · skip
                obtain ⟨mrk_21, one_22, two_23⟩ := u
                obtain ⟨r_24, rfl, hp_25⟩ := hok
                obtain ⟨hmrk_26, hres_27⟩ : (bln mrk_21) ∧ (∃ G' : Nat → Prop, (∀ c, Gc c → G' c) ∧ HG df G' trm one_22 two_23 ∧ okh df G' r_24 ∧ sm (gn mrk_21) 400 = sm (gn mrk_14) 400 + 1) := hp_25
                obtain ⟨G_28, hG_28a, hG_28b, hG_28c, hG_28d⟩ := hres_27
                have hP : va_P D classes [((f 23), .inl (cI, 810, .inl wlk_15)), ((f 24), .inl (cI, 150, .inl spn)), (h0, .inr (8, mS f tn rm ln lx at_ bd fs dp on os bn df th tp mo_ ev ss so_13 lk rs pt ot cl)), ((f 22), .inl (cZ, 400, .inl mrk_21)), ((f 20), .inl (cL, 400, .inr (.inl one_22))), ((f 21), .inl (cL, 400, .inr (.inl two_23))), ((f 18), .inl (cL, 9, .inr (.inl trm)))] H := hP
                have hD : va_D A [((f 23), .inl (cI, 810, .inl wlk_15)), ((f 24), .inl (cI, 150, .inl spn)), (h0, .inr (8, mS f tn rm ln lx at_ bd fs dp on os bn df th tp mo_ ev ss so_13 lk rs pt ot cl)), ((f 22), .inl (cZ, 400, .inl mrk_21)), ((f 20), .inl (cL, 400, .inr (.inl one_22))), ((f 21), .inl (cL, 400, .inr (.inl two_23))), ((f 18), .inl (cL, 9, .inr (.inl trm)))] := hD
                refine W.eq (g2 := F0 m 299 ls [.long r_24, .long r_1, .ref h0]) rfl ?_
                refine em_call (wr := [((f 23), .inl (cI, 810, .inl wlk_15)), ((f 24), .inl (cI, 150, .inl spn))]) (em_runV (As := [.long r_1, .long r_24]) (rest := []) ⟨hx, hb, hml, hown, hG⟩ (mo_made l D cI cL cZ cC f h0 tn rm ln lx at_ bd fs dp on os bn df th tp mo_ ev ss so_13 lk rs pt ot cl mrk_21 one_22 two_23 trm G_28 r_1 r_24 _ hmrk_26 hG_28b (okh_mono hG_28a hres_3) hG_28c (by omega) hnt) (cwV 2 hG (gd_V k_1640 k_1642 k_105 k_116 k_1643) rfl rfl rfl (by decide +kernel) ⟨Nat.le_of_ble_eq_true rfl, Nat.le_of_ble_eq_true rfl⟩) (tw_V (q0 := 2) hP hD hK hE hst hS rfl rfl [2, 3, 4, 5, 6] rfl (by decide)) rfl rfl hl.1 rfl (lv_room (Nat.le_of_ble_eq_true rfl)) d_MO_combinator_299 ⟨Nat.le_of_ble_eq_true rfl, Nat.le_of_ble_eq_true rfl⟩) hP hD hS hA [2, 3, 4, 5, 6] [0, 1] rfl rfl (by decide) (by decide) (fun v u H locs hok hP hD hS => ?_) (fun x C u H locs hbad hxx hP hD hS => ?_)
                · skip
                  obtain ⟨mrk_29, one_30, two_31⟩ := u
                  obtain ⟨r_32, rfl, hp_33⟩ := hok
                  obtain ⟨hmrk_34, hres_35⟩ : (bln mrk_29) ∧ (∃ G' : Nat → Prop, (∀ c, G_28 c → G' c) ∧ HG df G' trm one_30 two_31 ∧ okh df G' r_32 ∧ sm (gn mrk_29) 400 = sm (gn mrk_21) 400 + 1) := hp_33
                  obtain ⟨G_36, hG_36a, hG_36b, hG_36c, hG_36d⟩ := hres_35
                  have hP : va_P D classes [((f 23), .inl (cI, 810, .inl wlk_15)), ((f 24), .inl (cI, 150, .inl spn)), (h0, .inr (8, mS f tn rm ln lx at_ bd fs dp on os bn df th tp mo_ ev ss so_13 lk rs pt ot cl)), ((f 22), .inl (cZ, 400, .inl mrk_29)), ((f 20), .inl (cL, 400, .inr (.inl one_30))), ((f 21), .inl (cL, 400, .inr (.inl two_31))), ((f 18), .inl (cL, 9, .inr (.inl trm)))] H := hP
                  have hD : va_D A [((f 23), .inl (cI, 810, .inl wlk_15)), ((f 24), .inl (cI, 150, .inl spn)), (h0, .inr (8, mS f tn rm ln lx at_ bd fs dp on os bn df th tp mo_ ev ss so_13 lk rs pt ot cl)), ((f 22), .inl (cZ, 400, .inl mrk_29)), ((f 20), .inl (cL, 400, .inr (.inl one_30))), ((f 21), .inl (cL, 400, .inr (.inl two_31))), ((f 18), .inl (cL, 9, .inr (.inl trm)))] := hD
                  refine W.eq (g2 := F0 m 302 ls [.long r_32]) rfl ?_
                  refine lv_lstore (lv' := [(11, .long r_32), (10, .int 3), (8, .long r_10), (6, .long r_7), (4, .long r_4), (2, .long r_1), (0, .ref h0), (1, .int 7)]) hx hb d_MO_combinator_302 hl (Nat.le_of_ble_eq_true rfl) rfl (fun ls hl => ?_)
                  refine lv_aload_n hx hb d_MO_combinator_304 rfl (lv_at hl 6 rfl) ?_
                  refine lv_iconst (v := 4) hx hb d_MO_combinator_305 (by decide) ?_
                  refine lv_lload hx hb d_MO_combinator_306 (lv_at hl 0 rfl) ?_
                  refine lv_iload_n hx hb d_MO_combinator_308 rfl (lv_at hl 7 rfl) ?_
                  refine lv_bipush (v := 7) hx hb d_MO_combinator_309 (by decide) ?_
                  refine lv_icmp_ne (tgt := 325) hx hb d_MO_combinator_311 (by decide) (fun hbr => absurd (by decide) hbr) (fun hbr => ?_)
                  refine lv_aload_n hx hb d_MO_combinator_314 rfl (lv_at hl 6 rfl) ?_
                  refine lv_lload hx hb d_MO_combinator_315 (lv_at hl 3 rfl) ?_
                  refine lv_lload hx hb d_MO_combinator_317 (lv_at hl 2 rfl) ?_
                  refine em_call (wr := [((f 23), .inl (cI, 810, .inl wlk_15)), ((f 24), .inl (cI, 150, .inl spn))]) (em_runV (As := [.long r_7, .long r_10]) (rest := [.long r_32, .int 4, .ref h0]) ⟨hx, hb, hml, hown, hG⟩ (mo_made l D cI cL cZ cC f h0 tn rm ln lx at_ bd fs dp on os bn df th tp mo_ ev ss so_13 lk rs pt ot cl mrk_29 one_30 two_31 trm G_36 r_7 r_10 _ hmrk_34 hG_36b (okh_mono hG_36a (okh_mono hG_28a hres_9)) (okh_mono hG_36a (okh_mono hG_28a hres_12)) (by omega) hnt) (cwV 2 hG (gd_V k_1640 k_1642 k_105 k_116 k_1643) rfl rfl rfl (by decide +kernel) ⟨Nat.le_of_ble_eq_true rfl, Nat.le_of_ble_eq_true rfl⟩) (tw_V (q0 := 2) hP hD hK hE hst hS rfl rfl [2, 3, 4, 5, 6] rfl (by decide)) rfl rfl hl.1 rfl (lv_room (Nat.le_of_ble_eq_true rfl)) d_MO_combinator_319 ⟨Nat.le_of_ble_eq_true rfl, Nat.le_of_ble_eq_true rfl⟩) hP hD hS hA [2, 3, 4, 5, 6] [0, 1] rfl rfl (by decide) (by decide) (fun v u H locs hok hP hD hS => ?_) (fun x C u H locs hbad hxx hP hD hS => ?_)
                  · skip
                    obtain ⟨mrk_37, one_38, two_39⟩ := u
                    obtain ⟨r_40, rfl, hp_41⟩ := hok
                    obtain ⟨hmrk_42, hres_43⟩ : (bln mrk_37) ∧ (∃ G' : Nat → Prop, (∀ c, G_36 c → G' c) ∧ HG df G' trm one_38 two_39 ∧ okh df G' r_40 ∧ sm (gn mrk_37) 400 = sm (gn mrk_29) 400 + 1) := hp_41
                    obtain ⟨G_44, hG_44a, hG_44b, hG_44c, hG_44d⟩ := hres_43
                    have hP : va_P D classes [((f 23), .inl (cI, 810, .inl wlk_15)), ((f 24), .inl (cI, 150, .inl spn)), (h0, .inr (8, mS f tn rm ln lx at_ bd fs dp on os bn df th tp mo_ ev ss so_13 lk rs pt ot cl)), ((f 22), .inl (cZ, 400, .inl mrk_37)), ((f 20), .inl (cL, 400, .inr (.inl one_38))), ((f 21), .inl (cL, 400, .inr (.inl two_39))), ((f 18), .inl (cL, 9, .inr (.inl trm)))] H := hP
                    have hD : va_D A [((f 23), .inl (cI, 810, .inl wlk_15)), ((f 24), .inl (cI, 150, .inl spn)), (h0, .inr (8, mS f tn rm ln lx at_ bd fs dp on os bn df th tp mo_ ev ss so_13 lk rs pt ot cl)), ((f 22), .inl (cZ, 400, .inl mrk_37)), ((f 20), .inl (cL, 400, .inr (.inl one_38))), ((f 21), .inl (cL, 400, .inr (.inl two_39))), ((f 18), .inl (cL, 9, .inr (.inl trm)))] := hD
                    refine W.eq (g2 := F0 m 322 ls [.long r_40, .long r_32, .int 4, .ref h0]) rfl ?_
                    refine lv_goto (tgt := 327) hx hb d_MO_combinator_322 (by decide) ?_
                    refine em_call (wr := [((f 23), .inl (cI, 810, .inl wlk_15)), ((f 22), .inl (cZ, 400, .inl mrk_37))]) (em_runV (As := [.int (nI 4), .long r_32, .long r_40]) (rest := []) ⟨hx, hb, hml, hown, hG⟩ (mo_overwrite l D cI cL cZ cC f h0 tn rm ln lx at_ bd fs dp on os bn df th tp mo_ ev ss so_13 lk rs pt ot cl one_38 two_39 spn trm G_44 4 r_32 r_40 _ (by omega) (by omega) (by omega) hG_44b (okh_mono hG_44a hG_36c) hG_44c (sp_up hG_44a (sp_up hG_36a (sp_up hG_28a hsp))) hnt) (cwV 3 hG (gd_V k_1592 k_1594 k_94 k_116 k_1595) rfl rfl rfl (by decide +kernel) ⟨Nat.le_of_ble_eq_true rfl, Nat.le_of_ble_eq_true rfl⟩) (tw_V (q0 := 2) hP hD hK hE hst hS rfl rfl [2, 4, 5, 1, 6] rfl (by decide)) rfl rfl hl.1 rfl (lv_room (Nat.le_of_ble_eq_true rfl)) d_MO_combinator_327 ⟨Nat.le_of_ble_eq_true rfl, Nat.le_of_ble_eq_true rfl⟩) hP hD hS hA [2, 4, 5, 1, 6] [0, 3] rfl rfl (by decide) (by decide) (fun v u H locs hok hP hD hS => ?_) (fun x C u H locs hbad hxx hP hD hS => ?_)
                    · skip
                      obtain ⟨tp_45, lk_46, ss_47, one_48, two_49⟩ := u
                      obtain ⟨rfl, hp_51⟩ := hok
                      obtain ⟨hHG_52, htp_53, hlk_54, hss_55⟩ : (HG df G_44 trm one_48 two_49) ∧ (tp_45 + 4 = tp + 1) ∧ (lk_46 = r_32) ∧ (ss_47 = ss + 1) := hp_51
                      have hP : va_P D classes [((f 23), .inl (cI, 810, .inl wlk_15)), ((f 22), .inl (cZ, 400, .inl mrk_37)), (h0, .inr (8, mS f tn rm ln lx at_ bd fs dp on os bn df th tp_45 mo_ ev ss_47 so_13 lk_46 rs pt ot cl)), ((f 20), .inl (cL, 400, .inr (.inl one_48))), ((f 21), .inl (cL, 400, .inr (.inl two_49))), ((f 24), .inl (cI, 150, .inl spn)), ((f 18), .inl (cL, 9, .inr (.inl trm)))] H := hP
                      have hD : va_D A [((f 23), .inl (cI, 810, .inl wlk_15)), ((f 22), .inl (cZ, 400, .inl mrk_37)), (h0, .inr (8, mS f tn rm ln lx at_ bd fs dp on os bn df th tp_45 mo_ ev ss_47 so_13 lk_46 rs pt ot cl)), ((f 20), .inl (cL, 400, .inr (.inl one_48))), ((f 21), .inl (cL, 400, .inr (.inl two_49))), ((f 24), .inl (cI, 150, .inl spn)), ((f 18), .inl (cL, 9, .inr (.inl trm)))] := hD
                      refine W.eq (g2 := F0 m 330 ls []) rfl ?_
                      exact em_vret hx hb hr hlocks hP hD hK hS (tp_45, lk_46, ss_47, so_13, one_48, two_49, mrk_37, wlk_15) [2, 3, 4, 1, 0, 5, 6] (by decide) rfl ⟨rfl, ⟨hmrk_42, (show ∃ G' : Nat → Prop, MI df G' trm one_48 two_49 spn tp_45 lk_46 rs pt ∧ ((ss_47 = ss + 1 ∧ so_13 = so ∧ tp ≤ tp_45 + 4) ∨ (ss_47 = ss ∧ ¬ so_13 = 0 ∧ tp_45 = tp)) from ⟨G_44, ⟨hHG_52, (by rw [hlk_54]; exact (okh_mono hG_44a hG_36c)), (fun q => okh_mono hG_44a ((fun q => okh_mono hG_36a ((fun q => okh_mono hG_28a (hrs q)) q)) q)), (by omega), (fun k hk => (sp_up hG_44a (sp_up hG_36a (sp_up hG_28a hsp))) k (by omega))⟩, Or.inl ⟨hss_55, hy_20a, by omega⟩⟩)⟩⟩ d_MO_combinator_330
                    · skip
                      exact hbad.elim
                  · skip
                    exact hbad.elim
                · skip
                  exact hbad.elim
              · skip
                exact hbad.elim
            · skip
              refine W.eq (g2 := F0 m 124 ls [.int 0]) rfl ?_
              refine lv_if_ne (tgt := 128) hx hb d_MO_combinator_124 (by decide) (fun hbr => absurd (by decide) hbr) (fun hbr => ?_)
              exact em_vret hx hb hr hlocks hP hD hK hS (tp, lk, ss, so_13, one, two, mrk_14, wlk_15) [0, 4, 5, 1, 2, 6, 3] (by decide) rfl ⟨rfl, ⟨hmrk_18, (show ∃ G' : Nat → Prop, MI df G' trm one two spn tp lk rs pt ∧ ((ss = ss + 1 ∧ so_13 = so ∧ tp ≤ tp + 4) ∨ (ss = ss ∧ ¬ so_13 = 0 ∧ tp = tp)) from ⟨Gc, hMI, Or.inr ⟨rfl, hy_20a, rfl⟩⟩)⟩⟩ d_MO_combinator_127
          · skip
            exact hbad.elim
        · skip
          exact hbad.elim
      · skip
        exact hbad.elim
    · skip
      exact hbad.elim
  · skip
    exact hbad.elim
set_option maxHeartbeats 8000000 in
set_option maxRecDepth 100000 in
theorem mo_comb8 (l : Launch) (D : va_G) (cI cL cZ cC : ClassId) (f : Nat → Nat) (h0 : Nat) (tn : Int32) (rm : Nat) (ln : Nat) (lx : Nat) (at_ : Nat) (bd : Int32) (fs : Nat) (dp : Nat) (on : Nat) (os : Nat) (bn : Nat) (df : Nat) (th : Int32) (tp : Nat) (mo_ : Int32) (ev : Nat) (ss : Int32) (so : Int32) (lk : Int64) (rs : Int64) (pt : Int32) (ot : Nat) (cl : Int32) (one : Nat → Int64) (two : Nat → Int64) (mrk : Nat → Int32) (wlk : Nat → Int32) (spn : Nat → Int32) (trm : Nat → Int64) (Gc : Nat → Prop) (sz : Nat) (hmrk : bln mrk) (hMI : MI df Gc trm one two spn tp lk rs pt) (hrm : rm ≤ 400) (hneed : 4 ≤ tp) (hnt : l.stackTraces = false) : em_Met l y_MO_combinator (wz y_MO_combinator b_MO_combinator 13 none) ({ frames := 4, cells := 0, slots := 0, locals := 87 }) (va_Pc [.ref h0, .int 8] (tw_pre D (tys4 cI cL cZ cC) [(h0, .inr (8, mS f tn rm ln lx at_ bd fs dp on os bn df th tp mo_ ev ss so lk rs pt ot cl)), ((f 20), .inl (cL, 400, .inr (.inl one))), ((f 21), .inl (cL, 400, .inr (.inl two))), ((f 22), .inl (cZ, 400, .inl mrk)), ((f 23), .inl (cI, 810, .inl wlk)), ((f 24), .inl (cI, 150, .inl spn)), ((f 18), .inl (cL, 9, .inr (.inl trm)))] sz)) D (tys4 cI cL cZ cC) (va_A [(h0, .inr (8, mS f tn rm ln lx at_ bd fs dp on os bn df th tp mo_ ev ss so lk rs pt ot cl)), ((f 20), .inl (cL, 400, .inr (.inl one))), ((f 21), .inl (cL, 400, .inr (.inl two))), ((f 22), .inl (cZ, 400, .inl mrk)), ((f 23), .inl (cI, 810, .inl wlk)), ((f 24), .inl (cI, 150, .inl spn)), ((f 18), .inl (cL, 9, .inr (.inl trm)))] sz) (fun (u : Nat × Int64 × Int32 × Int32 × (Nat → Int64) × (Nat → Int64) × (Nat → Int32) × (Nat → Int32)) => [(h0, .inr (8, mS f tn rm ln lx at_ bd fs dp on os bn df th u.1 mo_ ev u.2.2.1 u.2.2.2.1 u.2.1 rs pt ot cl)), ((f 20), .inl (cL, 400, .inr (.inl u.2.2.2.2.1))), ((f 21), .inl (cL, 400, .inr (.inl u.2.2.2.2.2.1))), ((f 22), .inl (cZ, 400, .inl u.2.2.2.2.2.2.1)), ((f 23), .inl (cI, 810, .inl u.2.2.2.2.2.2.2)), ((f 24), .inl (cI, 150, .inl spn)), ((f 18), .inl (cL, 9, .inr (.inl trm)))]) (fun v (u : Nat × Int64 × Int32 × Int32 × (Nat → Int64) × (Nat → Int64) × (Nat → Int32) × (Nat → Int32)) => v = none ∧ ((bln u.2.2.2.2.2.2.1) ∧ (∃ G' : Nat → Prop, MI df G' trm u.2.2.2.2.1 u.2.2.2.2.2.1 spn u.1 u.2.1 rs pt ∧ ((u.2.2.1 = ss + 1 ∧ u.2.2.2.1 = so ∧ tp ≤ u.1 + 4) ∨ (u.2.2.1 = ss ∧ ¬ u.2.2.2.1 = 0 ∧ u.1 = tp))))) (fun C (u : Nat × Int64 × Int32 × Int32 × (Nat → Int64) × (Nat → Int64) × (Nat → Int32) × (Nat → Int32)) => False) 0 0 := by
  refine em_Met.ofW (cc := b_MO_combinator) (maxL := 13) (ret := none) (by decide) rfl ?_
  intro p e s m args below meth c s₁ B hml hv hno
  obtain ⟨rfl, ⟨hsz, hP, hK, hD0⟩, hE⟩ := hv
  have hx := B.exec
  have hb := B.bytes
  have hr := B.returns
  have hts := atoms_spec (ws := wz y_MO_combinator b_MO_combinator 13 none) B.pre
  have hG := wz_G hts
  have hown : s.vm.findClass rn_MO = some m.cls := findClass_of_methodNamed B.named
  have hlocks := B.notSynchronized
  subst hsz
  have hD := hD0.self (sz := s.heap.size)
  have hst := tw_st hP
  generalize hAe : va_A [(h0, .inr (8, mS f tn rm ln lx at_ bd fs dp on os bn df th tp mo_ ev ss so lk rs pt ot cl)), ((f 20), .inl (cL, 400, .inr (.inl one))), ((f 21), .inl (cL, 400, .inr (.inl two))), ((f 22), .inl (cZ, 400, .inl mrk)), ((f 23), .inl (cI, 810, .inl wlk)), ((f 24), .inl (cI, 150, .inl spn)), ((f 18), .inl (cL, 9, .inr (.inl trm)))] s.heap.size = A at hD hst ⊢
  have hA : ∀ q : Nat, s.heap.size ≤ q → A q := fun q h => by rw [← hAe]; exact Or.inr h
  have hS : va_S A s.heap s.heap [] := va_S.rf
  have hl := lv_entry ([.ref h0, .int 8]) (n := 13) (Nat.le_of_ble_eq_true rfl)
  rw [lg_entry_eq]
  generalize (lg_sl ([.ref h0, .int 8]) ++ List.replicate (13 - (lg_sl ([.ref h0, .int 8])).length) Slot.unset).toArray = ls at hl ⊢
  have hl : lv_has ls 13 [(0, .ref h0), (1, .int 8)] := hl
  obtain ⟨hHG, hlk, hrs, htp, hsp⟩ := id hMI
  refine lv_aload_n hx hb d_MO_combinator_0 rfl (lv_at hl 0 rfl) ?_
  refine lv_iconst (v := 0) hx hb d_MO_combinator_1 (by decide) ?_
  refine em_call (wr := [((f 22), .inl (cZ, 400, .inl mrk)), ((f 23), .inl (cI, 810, .inl wlk))]) (em_runV (As := [.int (nI 0)]) (rest := []) ⟨hx, hb, hml, hown, hG⟩ (mo_argument l D cI cL cZ cC f h0 tn rm ln lx at_ bd fs dp on os bn df th tp mo_ ev ss so lk rs pt ot cl two spn trm one Gc 0 _ (by omega) (by omega) hHG hsp hnt) (cwV 1 hG (gd_V k_1581 k_1583 k_92 k_116 k_1584) rfl rfl rfl (by decide +kernel) ⟨Nat.le_of_ble_eq_true rfl, Nat.le_of_ble_eq_true rfl⟩) (tw_V (q0 := 0) hP hD hK hE hst hS rfl rfl [0, 2, 5, 6, 1] rfl (by decide)) rfl rfl hl.1 rfl (lv_room (Nat.le_of_ble_eq_true rfl)) d_MO_combinator_2 ⟨Nat.le_of_ble_eq_true rfl, Nat.le_of_ble_eq_true rfl⟩) hP hD hS hA [0, 2, 5, 6, 1] [3, 4] rfl rfl (by decide) (by decide) (fun v u H locs hok hP hD hS => ?_) (fun x C u H locs hbad hxx hP hD hS => ?_)
  · skip
    obtain ⟨r_1, rfl, hp_2⟩ := hok
    have hres_3 : (okh df Gc r_1) := hp_2
    have hP : va_P D classes [((f 22), .inl (cZ, 400, .inl mrk)), ((f 23), .inl (cI, 810, .inl wlk)), (h0, .inr (8, mS f tn rm ln lx at_ bd fs dp on os bn df th tp mo_ ev ss so lk rs pt ot cl)), ((f 21), .inl (cL, 400, .inr (.inl two))), ((f 24), .inl (cI, 150, .inl spn)), ((f 18), .inl (cL, 9, .inr (.inl trm))), ((f 20), .inl (cL, 400, .inr (.inl one)))] H := hP
    have hD : va_D A [((f 22), .inl (cZ, 400, .inl mrk)), ((f 23), .inl (cI, 810, .inl wlk)), (h0, .inr (8, mS f tn rm ln lx at_ bd fs dp on os bn df th tp mo_ ev ss so lk rs pt ot cl)), ((f 21), .inl (cL, 400, .inr (.inl two))), ((f 24), .inl (cI, 150, .inl spn)), ((f 18), .inl (cL, 9, .inr (.inl trm))), ((f 20), .inl (cL, 400, .inr (.inl one)))] := hD
    refine W.eq (g2 := F0 m 5 ls [.long r_1]) rfl ?_
    refine lv_lstore_n (lv' := [(2, .long r_1), (0, .ref h0), (1, .int 8)]) hx hb d_MO_combinator_5 rfl hl (Nat.le_of_ble_eq_true rfl) rfl (fun ls hl => ?_)
    refine lv_iload_n hx hb d_MO_combinator_6 rfl (lv_at hl 2 rfl) ?_
    refine lv_iconst (v := 2) hx hb d_MO_combinator_7 (by decide) ?_
    refine lv_icmp_le (tgt := 19) hx hb d_MO_combinator_8 (by decide) (fun hbr => absurd hbr (by decide)) (fun hbr => ?_)
    refine lv_aload_n hx hb d_MO_combinator_11 rfl (lv_at hl 1 rfl) ?_
    refine lv_iconst (v := 1) hx hb d_MO_combinator_12 (by decide) ?_
    refine em_call (wr := [((f 22), .inl (cZ, 400, .inl mrk)), ((f 23), .inl (cI, 810, .inl wlk))]) (em_runV (As := [.int (nI 1)]) (rest := []) ⟨hx, hb, hml, hown, hG⟩ (mo_argument l D cI cL cZ cC f h0 tn rm ln lx at_ bd fs dp on os bn df th tp mo_ ev ss so lk rs pt ot cl two spn trm one Gc 1 _ (by omega) (by omega) hHG hsp hnt) (cwV 1 hG (gd_V k_1581 k_1583 k_92 k_116 k_1584) rfl rfl rfl (by decide +kernel) ⟨Nat.le_of_ble_eq_true rfl, Nat.le_of_ble_eq_true rfl⟩) (tw_V (q0 := 2) hP hD hK hE hst hS rfl rfl [2, 3, 4, 5, 6] rfl (by decide)) rfl rfl hl.1 rfl (lv_room (Nat.le_of_ble_eq_true rfl)) d_MO_combinator_13 ⟨Nat.le_of_ble_eq_true rfl, Nat.le_of_ble_eq_true rfl⟩) hP hD hS hA [2, 3, 4, 5, 6] [0, 1] rfl rfl (by decide) (by decide) (fun v u H locs hok hP hD hS => ?_) (fun x C u H locs hbad hxx hP hD hS => ?_)
    · skip
      obtain ⟨r_4, rfl, hp_5⟩ := hok
      have hres_6 : (okh df Gc r_4) := hp_5
      have hP : va_P D classes [((f 22), .inl (cZ, 400, .inl mrk)), ((f 23), .inl (cI, 810, .inl wlk)), (h0, .inr (8, mS f tn rm ln lx at_ bd fs dp on os bn df th tp mo_ ev ss so lk rs pt ot cl)), ((f 21), .inl (cL, 400, .inr (.inl two))), ((f 24), .inl (cI, 150, .inl spn)), ((f 18), .inl (cL, 9, .inr (.inl trm))), ((f 20), .inl (cL, 400, .inr (.inl one)))] H := hP
      have hD : va_D A [((f 22), .inl (cZ, 400, .inl mrk)), ((f 23), .inl (cI, 810, .inl wlk)), (h0, .inr (8, mS f tn rm ln lx at_ bd fs dp on os bn df th tp mo_ ev ss so lk rs pt ot cl)), ((f 21), .inl (cL, 400, .inr (.inl two))), ((f 24), .inl (cI, 150, .inl spn)), ((f 18), .inl (cL, 9, .inr (.inl trm))), ((f 20), .inl (cL, 400, .inr (.inl one)))] := hD
      refine W.eq (g2 := F0 m 16 ls [.long r_4]) rfl ?_
      refine lv_goto (tgt := 20) hx hb d_MO_combinator_16 (by decide) ?_
      refine lv_lstore (lv' := [(4, .long r_4), (2, .long r_1), (0, .ref h0), (1, .int 8)]) hx hb d_MO_combinator_20 hl (Nat.le_of_ble_eq_true rfl) rfl (fun ls hl => ?_)
      refine lv_iload_n hx hb d_MO_combinator_22 rfl (lv_at hl 3 rfl) ?_
      refine W.callR (W.runS (As := [.int 8]) (rest := []) ⟨hx, hb, hml, hown, hG⟩ (mo_needs l D cI cL cZ cC 8 ) (cwS 1 hG (gd_S k_1621 k_1622 k_116 k_1623) rfl rfl rfl (by decide +kernel) ⟨Nat.le_of_ble_eq_true rfl, Nat.le_of_ble_eq_true rfl⟩) (wq_S hP hK [] rfl) rfl rfl hl.1 rfl (lv_room (Nat.le_of_ble_eq_true rfl)) d_MO_combinator_23 ⟨Nat.le_of_ble_eq_true rfl, Nat.le_of_ble_eq_true rfl⟩) ?_
      refine W.eq (g2 := F0 m 26 ls [.int (mneeds (8 : Int32))]) rfl ?_
      refine W.eq (g2 := F0 m 26 ls [.int 4]) (by rw [show mneeds 8 = 4 by decide]) ?_
      refine lv_iconst (v := 2) hx hb d_MO_combinator_26 (by decide) ?_
      refine lv_icmp_le (tgt := 38) hx hb d_MO_combinator_27 (by decide) (fun hbr => absurd hbr (by decide)) (fun hbr => ?_)
      refine lv_aload_n hx hb d_MO_combinator_30 rfl (lv_at hl 2 rfl) ?_
      refine lv_iconst (v := 2) hx hb d_MO_combinator_31 (by decide) ?_
      refine em_call (wr := [((f 22), .inl (cZ, 400, .inl mrk)), ((f 23), .inl (cI, 810, .inl wlk))]) (em_runV (As := [.int (nI 2)]) (rest := []) ⟨hx, hb, hml, hown, hG⟩ (mo_argument l D cI cL cZ cC f h0 tn rm ln lx at_ bd fs dp on os bn df th tp mo_ ev ss so lk rs pt ot cl two spn trm one Gc 2 _ (by omega) (by omega) hHG hsp hnt) (cwV 1 hG (gd_V k_1581 k_1583 k_92 k_116 k_1584) rfl rfl rfl (by decide +kernel) ⟨Nat.le_of_ble_eq_true rfl, Nat.le_of_ble_eq_true rfl⟩) (tw_V (q0 := 2) hP hD hK hE hst hS rfl rfl [2, 3, 4, 5, 6] rfl (by decide)) rfl rfl hl.1 rfl (lv_room (Nat.le_of_ble_eq_true rfl)) d_MO_combinator_32 ⟨Nat.le_of_ble_eq_true rfl, Nat.le_of_ble_eq_true rfl⟩) hP hD hS hA [2, 3, 4, 5, 6] [0, 1] rfl rfl (by decide) (by decide) (fun v u H locs hok hP hD hS => ?_) (fun x C u H locs hbad hxx hP hD hS => ?_)
      · skip
        obtain ⟨r_7, rfl, hp_8⟩ := hok
        have hres_9 : (okh df Gc r_7) := hp_8
        have hP : va_P D classes [((f 22), .inl (cZ, 400, .inl mrk)), ((f 23), .inl (cI, 810, .inl wlk)), (h0, .inr (8, mS f tn rm ln lx at_ bd fs dp on os bn df th tp mo_ ev ss so lk rs pt ot cl)), ((f 21), .inl (cL, 400, .inr (.inl two))), ((f 24), .inl (cI, 150, .inl spn)), ((f 18), .inl (cL, 9, .inr (.inl trm))), ((f 20), .inl (cL, 400, .inr (.inl one)))] H := hP
        have hD : va_D A [((f 22), .inl (cZ, 400, .inl mrk)), ((f 23), .inl (cI, 810, .inl wlk)), (h0, .inr (8, mS f tn rm ln lx at_ bd fs dp on os bn df th tp mo_ ev ss so lk rs pt ot cl)), ((f 21), .inl (cL, 400, .inr (.inl two))), ((f 24), .inl (cI, 150, .inl spn)), ((f 18), .inl (cL, 9, .inr (.inl trm))), ((f 20), .inl (cL, 400, .inr (.inl one)))] := hD
        refine W.eq (g2 := F0 m 35 ls [.long r_7]) rfl ?_
        refine lv_goto (tgt := 39) hx hb d_MO_combinator_35 (by decide) ?_
        refine lv_lstore (lv' := [(6, .long r_7), (4, .long r_4), (2, .long r_1), (0, .ref h0), (1, .int 8)]) hx hb d_MO_combinator_39 hl (Nat.le_of_ble_eq_true rfl) rfl (fun ls hl => ?_)
        refine lv_iload_n hx hb d_MO_combinator_41 rfl (lv_at hl 4 rfl) ?_
        refine W.callR (W.runS (As := [.int 8]) (rest := []) ⟨hx, hb, hml, hown, hG⟩ (mo_needs l D cI cL cZ cC 8 ) (cwS 1 hG (gd_S k_1621 k_1622 k_116 k_1623) rfl rfl rfl (by decide +kernel) ⟨Nat.le_of_ble_eq_true rfl, Nat.le_of_ble_eq_true rfl⟩) (wq_S hP hK [] rfl) rfl rfl hl.1 rfl (lv_room (Nat.le_of_ble_eq_true rfl)) d_MO_combinator_42 ⟨Nat.le_of_ble_eq_true rfl, Nat.le_of_ble_eq_true rfl⟩) ?_
        refine W.eq (g2 := F0 m 45 ls [.int (mneeds (8 : Int32))]) rfl ?_
        refine W.eq (g2 := F0 m 45 ls [.int 4]) (by rw [show mneeds 8 = 4 by decide]) ?_
        refine lv_iconst (v := 3) hx hb d_MO_combinator_45 (by decide) ?_
        refine lv_icmp_le (tgt := 57) hx hb d_MO_combinator_46 (by decide) (fun hbr => absurd hbr (by decide)) (fun hbr => ?_)
        refine lv_aload_n hx hb d_MO_combinator_49 rfl (lv_at hl 3 rfl) ?_
        refine lv_iconst (v := 3) hx hb d_MO_combinator_50 (by decide) ?_
        refine em_call (wr := [((f 22), .inl (cZ, 400, .inl mrk)), ((f 23), .inl (cI, 810, .inl wlk))]) (em_runV (As := [.int (nI 3)]) (rest := []) ⟨hx, hb, hml, hown, hG⟩ (mo_argument l D cI cL cZ cC f h0 tn rm ln lx at_ bd fs dp on os bn df th tp mo_ ev ss so lk rs pt ot cl two spn trm one Gc 3 _ (by omega) (by omega) hHG hsp hnt) (cwV 1 hG (gd_V k_1581 k_1583 k_92 k_116 k_1584) rfl rfl rfl (by decide +kernel) ⟨Nat.le_of_ble_eq_true rfl, Nat.le_of_ble_eq_true rfl⟩) (tw_V (q0 := 2) hP hD hK hE hst hS rfl rfl [2, 3, 4, 5, 6] rfl (by decide)) rfl rfl hl.1 rfl (lv_room (Nat.le_of_ble_eq_true rfl)) d_MO_combinator_51 ⟨Nat.le_of_ble_eq_true rfl, Nat.le_of_ble_eq_true rfl⟩) hP hD hS hA [2, 3, 4, 5, 6] [0, 1] rfl rfl (by decide) (by decide) (fun v u H locs hok hP hD hS => ?_) (fun x C u H locs hbad hxx hP hD hS => ?_)
        · skip
          obtain ⟨r_10, rfl, hp_11⟩ := hok
          have hres_12 : (okh df Gc r_10) := hp_11
          have hP : va_P D classes [((f 22), .inl (cZ, 400, .inl mrk)), ((f 23), .inl (cI, 810, .inl wlk)), (h0, .inr (8, mS f tn rm ln lx at_ bd fs dp on os bn df th tp mo_ ev ss so lk rs pt ot cl)), ((f 21), .inl (cL, 400, .inr (.inl two))), ((f 24), .inl (cI, 150, .inl spn)), ((f 18), .inl (cL, 9, .inr (.inl trm))), ((f 20), .inl (cL, 400, .inr (.inl one)))] H := hP
          have hD : va_D A [((f 22), .inl (cZ, 400, .inl mrk)), ((f 23), .inl (cI, 810, .inl wlk)), (h0, .inr (8, mS f tn rm ln lx at_ bd fs dp on os bn df th tp mo_ ev ss so lk rs pt ot cl)), ((f 21), .inl (cL, 400, .inr (.inl two))), ((f 24), .inl (cI, 150, .inl spn)), ((f 18), .inl (cL, 9, .inr (.inl trm))), ((f 20), .inl (cL, 400, .inr (.inl one)))] := hD
          refine W.eq (g2 := F0 m 54 ls [.long r_10]) rfl ?_
          refine lv_goto (tgt := 58) hx hb d_MO_combinator_54 (by decide) ?_
          refine lv_lstore (lv' := [(8, .long r_10), (6, .long r_7), (4, .long r_4), (2, .long r_1), (0, .ref h0), (1, .int 8)]) hx hb d_MO_combinator_58 hl (Nat.le_of_ble_eq_true rfl) rfl (fun ls hl => ?_)
          refine lv_iload_n hx hb d_MO_combinator_60 rfl (lv_at hl 5 rfl) ?_
          refine lv_iconst (v := 4) hx hb d_MO_combinator_61 (by decide) ?_
          refine lv_icmp_ne (tgt := 69) hx hb d_MO_combinator_62 (by decide) (fun hbr => ?_) (fun hbr => absurd hbr (by decide))
          refine lv_iload_n hx hb d_MO_combinator_69 rfl (lv_at hl 5 rfl) ?_
          refine lv_iconst (v := 5) hx hb d_MO_combinator_70 (by decide) ?_
          refine lv_icmp_eq (tgt := 80) hx hb d_MO_combinator_71 (by decide) (fun hbr => absurd hbr (by decide)) (fun hbr => ?_)
          refine lv_iload_n hx hb d_MO_combinator_74 rfl (lv_at hl 5 rfl) ?_
          refine lv_bipush (v := 6) hx hb d_MO_combinator_75 (by decide) ?_
          refine lv_icmp_ne (tgt := 84) hx hb d_MO_combinator_77 (by decide) (fun hbr => ?_) (fun hbr => absurd hbr (by decide))
          refine lv_iload_n hx hb d_MO_combinator_84 rfl (lv_at hl 5 rfl) ?_
          refine lv_bipush (v := 7) hx hb d_MO_combinator_85 (by decide) ?_
          refine lv_icmp_ne (tgt := 94) hx hb d_MO_combinator_87 (by decide) (fun hbr => ?_) (fun hbr => absurd hbr (by decide))
          refine lv_iload_n hx hb d_MO_combinator_94 rfl (lv_at hl 5 rfl) ?_
          refine lv_bipush (v := 8) hx hb d_MO_combinator_95 (by decide) ?_
          refine lv_icmp_eq (tgt := 106) hx hb d_MO_combinator_97 (by decide) (fun hbr => ?_) (fun hbr => absurd (by decide) hbr)
          refine lv_iconst (v := 2) hx hb d_MO_combinator_106 (by decide) ?_
          refine lv_goto (tgt := 111) hx hb d_MO_combinator_107 (by decide) ?_
          refine lv_istore (lv' := [(10, .int 2), (8, .long r_10), (6, .long r_7), (4, .long r_4), (2, .long r_1), (0, .ref h0), (1, .int 8)]) hx hb d_MO_combinator_111 hl (Nat.le_of_ble_eq_true rfl) rfl (fun ls hl => ?_)
          refine lv_iload hx hb d_MO_combinator_113 (lv_at hl 0 rfl) ?_
          refine lv_if_le (tgt := 128) hx hb d_MO_combinator_115 (by decide) (fun hbr => absurd hbr (by decide)) (fun hbr => ?_)
          refine lv_aload_n hx hb d_MO_combinator_118 rfl (lv_at hl 5 rfl) ?_
          refine lv_iload hx hb d_MO_combinator_119 (lv_at hl 0 rfl) ?_
          refine em_call (wr := []) (em_runV (As := [.int (nI 2)]) (rest := []) ⟨hx, hb, hml, hown, hG⟩ (mo_fits l D cI cL cZ cC f h0 tn rm ln lx at_ bd fs dp on os bn df th tp mo_ ev ss so lk rs pt ot cl mrk wlk trm one two spn Gc 2 _ hmrk (by decide) hrm hHG hlk hrs htp hsp hnt) (cwV 1 hG (gd_V k_1628 k_1630 k_102 k_116 k_1631) rfl rfl rfl (by decide +kernel) ⟨Nat.le_of_ble_eq_true rfl, Nat.le_of_ble_eq_true rfl⟩) (tw_V (q0 := 2) hP hD hK hE hst hS rfl rfl [2, 0, 1, 5, 6, 3, 4] rfl (by decide)) rfl rfl hl.1 rfl (lv_room (Nat.le_of_ble_eq_true rfl)) d_MO_combinator_121 ⟨Nat.le_of_ble_eq_true rfl, Nat.le_of_ble_eq_true rfl⟩) hP hD hS hA [2, 0, 1, 5, 6, 3, 4] [] rfl rfl (by decide) (by decide) (fun v u H locs hok hP hD hS => ?_) (fun x C u H locs hbad hxx hP hD hS => ?_)
          · skip
            obtain ⟨so_13, mrk_14, wlk_15⟩ := u
            obtain ⟨r_16, rfl, hp_17⟩ := hok
            obtain ⟨hmrk_18, hres_19⟩ : (bln mrk_14) ∧ (((r_16 = 1 ∧ so_13 = so ∧ so = 0 ∧ sm (gn mrk_14) 400 + 2 ≤ rm) ∨ (r_16 = 0 ∧ ¬ so_13 = 0))) := hp_17
            have hP : va_P D classes [(h0, .inr (8, mS f tn rm ln lx at_ bd fs dp on os bn df th tp mo_ ev ss so_13 lk rs pt ot cl)), ((f 22), .inl (cZ, 400, .inl mrk_14)), ((f 23), .inl (cI, 810, .inl wlk_15)), ((f 18), .inl (cL, 9, .inr (.inl trm))), ((f 20), .inl (cL, 400, .inr (.inl one))), ((f 21), .inl (cL, 400, .inr (.inl two))), ((f 24), .inl (cI, 150, .inl spn))] H := hP
            have hD : va_D A [(h0, .inr (8, mS f tn rm ln lx at_ bd fs dp on os bn df th tp mo_ ev ss so_13 lk rs pt ot cl)), ((f 22), .inl (cZ, 400, .inl mrk_14)), ((f 23), .inl (cI, 810, .inl wlk_15)), ((f 18), .inl (cL, 9, .inr (.inl trm))), ((f 20), .inl (cL, 400, .inr (.inl one))), ((f 21), .inl (cL, 400, .inr (.inl two))), ((f 24), .inl (cI, 150, .inl spn))] := hD
            rcases hres_19 with ⟨rfl, hy_20a, hy_20b, hy_20c⟩ | ⟨rfl, hy_20a⟩
            · skip
              refine W.eq (g2 := F0 m 124 ls [.int 1]) rfl ?_
              refine lv_if_ne (tgt := 128) hx hb d_MO_combinator_124 (by decide) (fun hbr => ?_) (fun hbr => absurd hbr (by decide))
              refine lv_iload_n hx hb d_MO_combinator_128 rfl (lv_at hl 6 rfl) ?_
              refine lv_iconst (v := 2) hx hb d_MO_combinator_129 (by decide) ?_
              refine lv_icmp_ne (tgt := 161) hx hb d_MO_combinator_130 (by decide) (fun hbr => ?_) (fun hbr => absurd hbr (by decide))
              refine lv_iload_n hx hb d_MO_combinator_161 rfl (lv_at hl 6 rfl) ?_
              refine lv_iconst (v := 3) hx hb d_MO_combinator_162 (by decide) ?_
              refine lv_icmp_ne (tgt := 179) hx hb d_MO_combinator_163 (by decide) (fun hbr => ?_) (fun hbr => absurd hbr (by decide))
              refine lv_iload_n hx hb d_MO_combinator_179 rfl (lv_at hl 6 rfl) ?_
              refine lv_iconst (v := 4) hx hb d_MO_combinator_180 (by decide) ?_
              refine lv_icmp_ne (tgt := 211) hx hb d_MO_combinator_181 (by decide) (fun hbr => ?_) (fun hbr => absurd hbr (by decide))
              refine lv_iload_n hx hb d_MO_combinator_211 rfl (lv_at hl 6 rfl) ?_
              refine lv_iconst (v := 5) hx hb d_MO_combinator_212 (by decide) ?_
              refine lv_icmp_ne (tgt := 233) hx hb d_MO_combinator_213 (by decide) (fun hbr => ?_) (fun hbr => absurd hbr (by decide))
              refine lv_iload_n hx hb d_MO_combinator_233 rfl (lv_at hl 6 rfl) ?_
              refine lv_bipush (v := 6) hx hb d_MO_combinator_234 (by decide) ?_
              refine lv_icmp_ne (tgt := 256) hx hb d_MO_combinator_236 (by decide) (fun hbr => ?_) (fun hbr => absurd hbr (by decide))
              refine lv_iload_n hx hb d_MO_combinator_256 rfl (lv_at hl 6 rfl) ?_
              refine lv_bipush (v := 8) hx hb d_MO_combinator_257 (by decide) ?_
              refine lv_icmp_ne (tgt := 289) hx hb d_MO_combinator_259 (by decide) (fun hbr => absurd (by decide) hbr) (fun hbr => ?_)
              refine lv_aload_n hx hb d_MO_combinator_262 rfl (lv_at hl 5 rfl) ?_
              refine lv_lload_n hx hb d_MO_combinator_263 rfl (lv_at hl 4 rfl) ?_
              refine lv_lload hx hb d_MO_combinator_264 (lv_at hl 3 rfl) ?_
              refine em_call (wr := [((f 23), .inl (cI, 810, .inl wlk_15)), ((f 24), .inl (cI, 150, .inl spn))]) (em_runV (As := [.long r_1, .long r_4]) (rest := []) ⟨hx, hb, hml, hown, hG⟩ (mo_made l D cI cL cZ cC f h0 tn rm ln lx at_ bd fs dp on os bn df th tp mo_ ev ss so_13 lk rs pt ot cl mrk_14 one two trm Gc r_1 r_4 _ hmrk_18 hHG hres_3 hres_6 (by omega) hnt) (cwV 2 hG (gd_V k_1640 k_1642 k_105 k_116 k_1643) rfl rfl rfl (by decide +kernel) ⟨Nat.le_of_ble_eq_true rfl, Nat.le_of_ble_eq_true rfl⟩) (tw_V (q0 := 0) hP hD hK hE hst hS rfl rfl [0, 1, 4, 5, 3] rfl (by decide)) rfl rfl hl.1 rfl (lv_room (Nat.le_of_ble_eq_true rfl)) d_MO_combinator_266 ⟨Nat.le_of_ble_eq_true rfl, Nat.le_of_ble_eq_true rfl⟩) hP hD hS hA [0, 1, 4, 5, 3] [2, 6] rfl rfl (by decide) (by decide) (fun v u H locs hok hP hD hS => ?_) (fun x C u H locs hbad hxx hP hD hS => ?_)
              · skip
                obtain ⟨mrk_21, one_22, two_23⟩ := u
                obtain ⟨r_24, rfl, hp_25⟩ := hok
                obtain ⟨hmrk_26, hres_27⟩ : (bln mrk_21) ∧ (∃ G' : Nat → Prop, (∀ c, Gc c → G' c) ∧ HG df G' trm one_22 two_23 ∧ okh df G' r_24 ∧ sm (gn mrk_21) 400 = sm (gn mrk_14) 400 + 1) := hp_25
                obtain ⟨G_28, hG_28a, hG_28b, hG_28c, hG_28d⟩ := hres_27
                have hP : va_P D classes [((f 23), .inl (cI, 810, .inl wlk_15)), ((f 24), .inl (cI, 150, .inl spn)), (h0, .inr (8, mS f tn rm ln lx at_ bd fs dp on os bn df th tp mo_ ev ss so_13 lk rs pt ot cl)), ((f 22), .inl (cZ, 400, .inl mrk_21)), ((f 20), .inl (cL, 400, .inr (.inl one_22))), ((f 21), .inl (cL, 400, .inr (.inl two_23))), ((f 18), .inl (cL, 9, .inr (.inl trm)))] H := hP
                have hD : va_D A [((f 23), .inl (cI, 810, .inl wlk_15)), ((f 24), .inl (cI, 150, .inl spn)), (h0, .inr (8, mS f tn rm ln lx at_ bd fs dp on os bn df th tp mo_ ev ss so_13 lk rs pt ot cl)), ((f 22), .inl (cZ, 400, .inl mrk_21)), ((f 20), .inl (cL, 400, .inr (.inl one_22))), ((f 21), .inl (cL, 400, .inr (.inl two_23))), ((f 18), .inl (cL, 9, .inr (.inl trm)))] := hD
                refine W.eq (g2 := F0 m 269 ls [.long r_24]) rfl ?_
                refine lv_lstore (lv' := [(11, .long r_24), (10, .int 2), (8, .long r_10), (6, .long r_7), (4, .long r_4), (2, .long r_1), (0, .ref h0), (1, .int 8)]) hx hb d_MO_combinator_269 hl (Nat.le_of_ble_eq_true rfl) rfl (fun ls hl => ?_)
                refine lv_aload_n hx hb d_MO_combinator_271 rfl (lv_at hl 6 rfl) ?_
                refine lv_iconst (v := 4) hx hb d_MO_combinator_272 (by decide) ?_
                refine lv_lload hx hb d_MO_combinator_273 (lv_at hl 0 rfl) ?_
                refine lv_aload_n hx hb d_MO_combinator_275 rfl (lv_at hl 6 rfl) ?_
                refine lv_lload hx hb d_MO_combinator_276 (lv_at hl 3 rfl) ?_
                refine lv_lload hx hb d_MO_combinator_278 (lv_at hl 2 rfl) ?_
                refine em_call (wr := [((f 23), .inl (cI, 810, .inl wlk_15)), ((f 24), .inl (cI, 150, .inl spn))]) (em_runV (As := [.long r_7, .long r_10]) (rest := [.long r_24, .int 4, .ref h0]) ⟨hx, hb, hml, hown, hG⟩ (mo_made l D cI cL cZ cC f h0 tn rm ln lx at_ bd fs dp on os bn df th tp mo_ ev ss so_13 lk rs pt ot cl mrk_21 one_22 two_23 trm G_28 r_7 r_10 _ hmrk_26 hG_28b (okh_mono hG_28a hres_9) (okh_mono hG_28a hres_12) (by omega) hnt) (cwV 2 hG (gd_V k_1640 k_1642 k_105 k_116 k_1643) rfl rfl rfl (by decide +kernel) ⟨Nat.le_of_ble_eq_true rfl, Nat.le_of_ble_eq_true rfl⟩) (tw_V (q0 := 2) hP hD hK hE hst hS rfl rfl [2, 3, 4, 5, 6] rfl (by decide)) rfl rfl hl.1 rfl (lv_room (Nat.le_of_ble_eq_true rfl)) d_MO_combinator_280 ⟨Nat.le_of_ble_eq_true rfl, Nat.le_of_ble_eq_true rfl⟩) hP hD hS hA [2, 3, 4, 5, 6] [0, 1] rfl rfl (by decide) (by decide) (fun v u H locs hok hP hD hS => ?_) (fun x C u H locs hbad hxx hP hD hS => ?_)
                · skip
                  obtain ⟨mrk_29, one_30, two_31⟩ := u
                  obtain ⟨r_32, rfl, hp_33⟩ := hok
                  obtain ⟨hmrk_34, hres_35⟩ : (bln mrk_29) ∧ (∃ G' : Nat → Prop, (∀ c, G_28 c → G' c) ∧ HG df G' trm one_30 two_31 ∧ okh df G' r_32 ∧ sm (gn mrk_29) 400 = sm (gn mrk_21) 400 + 1) := hp_33
                  obtain ⟨G_36, hG_36a, hG_36b, hG_36c, hG_36d⟩ := hres_35
                  have hP : va_P D classes [((f 23), .inl (cI, 810, .inl wlk_15)), ((f 24), .inl (cI, 150, .inl spn)), (h0, .inr (8, mS f tn rm ln lx at_ bd fs dp on os bn df th tp mo_ ev ss so_13 lk rs pt ot cl)), ((f 22), .inl (cZ, 400, .inl mrk_29)), ((f 20), .inl (cL, 400, .inr (.inl one_30))), ((f 21), .inl (cL, 400, .inr (.inl two_31))), ((f 18), .inl (cL, 9, .inr (.inl trm)))] H := hP
                  have hD : va_D A [((f 23), .inl (cI, 810, .inl wlk_15)), ((f 24), .inl (cI, 150, .inl spn)), (h0, .inr (8, mS f tn rm ln lx at_ bd fs dp on os bn df th tp mo_ ev ss so_13 lk rs pt ot cl)), ((f 22), .inl (cZ, 400, .inl mrk_29)), ((f 20), .inl (cL, 400, .inr (.inl one_30))), ((f 21), .inl (cL, 400, .inr (.inl two_31))), ((f 18), .inl (cL, 9, .inr (.inl trm)))] := hD
                  refine W.eq (g2 := F0 m 283 ls [.long r_32, .long r_24, .int 4, .ref h0]) rfl ?_
                  refine em_call (wr := [((f 23), .inl (cI, 810, .inl wlk_15)), ((f 22), .inl (cZ, 400, .inl mrk_29))]) (em_runV (As := [.int (nI 4), .long r_24, .long r_32]) (rest := []) ⟨hx, hb, hml, hown, hG⟩ (mo_overwrite l D cI cL cZ cC f h0 tn rm ln lx at_ bd fs dp on os bn df th tp mo_ ev ss so_13 lk rs pt ot cl one_30 two_31 spn trm G_36 4 r_24 r_32 _ (by omega) (by omega) (by omega) hG_36b (okh_mono hG_36a hG_28c) hG_36c (sp_up hG_36a (sp_up hG_28a hsp)) hnt) (cwV 3 hG (gd_V k_1592 k_1594 k_94 k_116 k_1595) rfl rfl rfl (by decide +kernel) ⟨Nat.le_of_ble_eq_true rfl, Nat.le_of_ble_eq_true rfl⟩) (tw_V (q0 := 2) hP hD hK hE hst hS rfl rfl [2, 4, 5, 1, 6] rfl (by decide)) rfl rfl hl.1 rfl (lv_room (Nat.le_of_ble_eq_true rfl)) d_MO_combinator_283 ⟨Nat.le_of_ble_eq_true rfl, Nat.le_of_ble_eq_true rfl⟩) hP hD hS hA [2, 4, 5, 1, 6] [0, 3] rfl rfl (by decide) (by decide) (fun v u H locs hok hP hD hS => ?_) (fun x C u H locs hbad hxx hP hD hS => ?_)
                  · skip
                    obtain ⟨tp_37, lk_38, ss_39, one_40, two_41⟩ := u
                    obtain ⟨rfl, hp_43⟩ := hok
                    obtain ⟨hHG_44, htp_45, hlk_46, hss_47⟩ : (HG df G_36 trm one_40 two_41) ∧ (tp_37 + 4 = tp + 1) ∧ (lk_38 = r_24) ∧ (ss_39 = ss + 1) := hp_43
                    have hP : va_P D classes [((f 23), .inl (cI, 810, .inl wlk_15)), ((f 22), .inl (cZ, 400, .inl mrk_29)), (h0, .inr (8, mS f tn rm ln lx at_ bd fs dp on os bn df th tp_37 mo_ ev ss_39 so_13 lk_38 rs pt ot cl)), ((f 20), .inl (cL, 400, .inr (.inl one_40))), ((f 21), .inl (cL, 400, .inr (.inl two_41))), ((f 24), .inl (cI, 150, .inl spn)), ((f 18), .inl (cL, 9, .inr (.inl trm)))] H := hP
                    have hD : va_D A [((f 23), .inl (cI, 810, .inl wlk_15)), ((f 22), .inl (cZ, 400, .inl mrk_29)), (h0, .inr (8, mS f tn rm ln lx at_ bd fs dp on os bn df th tp_37 mo_ ev ss_39 so_13 lk_38 rs pt ot cl)), ((f 20), .inl (cL, 400, .inr (.inl one_40))), ((f 21), .inl (cL, 400, .inr (.inl two_41))), ((f 24), .inl (cI, 150, .inl spn)), ((f 18), .inl (cL, 9, .inr (.inl trm)))] := hD
                    refine W.eq (g2 := F0 m 286 ls []) rfl ?_
                    refine lv_goto (tgt := 330) hx hb d_MO_combinator_286 (by decide) ?_
                    exact em_vret hx hb hr hlocks hP hD hK hS (tp_37, lk_38, ss_39, so_13, one_40, two_41, mrk_29, wlk_15) [2, 3, 4, 1, 0, 5, 6] (by decide) rfl ⟨rfl, ⟨hmrk_34, (show ∃ G' : Nat → Prop, MI df G' trm one_40 two_41 spn tp_37 lk_38 rs pt ∧ ((ss_39 = ss + 1 ∧ so_13 = so ∧ tp ≤ tp_37 + 4) ∨ (ss_39 = ss ∧ ¬ so_13 = 0 ∧ tp_37 = tp)) from ⟨G_36, ⟨hHG_44, (by rw [hlk_46]; exact (okh_mono hG_36a hG_28c)), (fun q => okh_mono hG_36a ((fun q => okh_mono hG_28a (hrs q)) q)), (by omega), (fun k hk => (sp_up hG_36a (sp_up hG_28a hsp)) k (by omega))⟩, Or.inl ⟨hss_47, hy_20a, by omega⟩⟩)⟩⟩ d_MO_combinator_330
                  · skip
                    exact hbad.elim
                · skip
                  exact hbad.elim
              · skip
                exact hbad.elim
            · skip
              refine W.eq (g2 := F0 m 124 ls [.int 0]) rfl ?_
              refine lv_if_ne (tgt := 128) hx hb d_MO_combinator_124 (by decide) (fun hbr => absurd (by decide) hbr) (fun hbr => ?_)
              exact em_vret hx hb hr hlocks hP hD hK hS (tp, lk, ss, so_13, one, two, mrk_14, wlk_15) [0, 4, 5, 1, 2, 6, 3] (by decide) rfl ⟨rfl, ⟨hmrk_18, (show ∃ G' : Nat → Prop, MI df G' trm one two spn tp lk rs pt ∧ ((ss = ss + 1 ∧ so_13 = so ∧ tp ≤ tp + 4) ∨ (ss = ss ∧ ¬ so_13 = 0 ∧ tp = tp)) from ⟨Gc, hMI, Or.inr ⟨rfl, hy_20a, rfl⟩⟩)⟩⟩ d_MO_combinator_127
          · skip
            exact hbad.elim
        · skip
          exact hbad.elim
      · skip
        exact hbad.elim
    · skip
      exact hbad.elim
  · skip
    exact hbad.elim
set_option maxHeartbeats 8000000 in
set_option maxRecDepth 100000 in
theorem mo_comb9 (l : Launch) (D : va_G) (cI cL cZ cC : ClassId) (f : Nat → Nat) (h0 : Nat) (tn : Int32) (rm : Nat) (ln : Nat) (lx : Nat) (at_ : Nat) (bd : Int32) (fs : Nat) (dp : Nat) (on : Nat) (os : Nat) (bn : Nat) (df : Nat) (th : Int32) (tp : Nat) (mo_ : Int32) (ev : Nat) (ss : Int32) (so : Int32) (lk : Int64) (rs : Int64) (pt : Int32) (ot : Nat) (cl : Int32) (one : Nat → Int64) (two : Nat → Int64) (mrk : Nat → Int32) (wlk : Nat → Int32) (spn : Nat → Int32) (trm : Nat → Int64) (Gc : Nat → Prop) (sz : Nat) (hmrk : bln mrk) (hMI : MI df Gc trm one two spn tp lk rs pt) (hrm : rm ≤ 400) (hneed : 4 ≤ tp) (hnt : l.stackTraces = false) : em_Met l y_MO_combinator (wz y_MO_combinator b_MO_combinator 13 none) ({ frames := 4, cells := 0, slots := 0, locals := 87 }) (va_Pc [.ref h0, .int 9] (tw_pre D (tys4 cI cL cZ cC) [(h0, .inr (8, mS f tn rm ln lx at_ bd fs dp on os bn df th tp mo_ ev ss so lk rs pt ot cl)), ((f 20), .inl (cL, 400, .inr (.inl one))), ((f 21), .inl (cL, 400, .inr (.inl two))), ((f 22), .inl (cZ, 400, .inl mrk)), ((f 23), .inl (cI, 810, .inl wlk)), ((f 24), .inl (cI, 150, .inl spn)), ((f 18), .inl (cL, 9, .inr (.inl trm)))] sz)) D (tys4 cI cL cZ cC) (va_A [(h0, .inr (8, mS f tn rm ln lx at_ bd fs dp on os bn df th tp mo_ ev ss so lk rs pt ot cl)), ((f 20), .inl (cL, 400, .inr (.inl one))), ((f 21), .inl (cL, 400, .inr (.inl two))), ((f 22), .inl (cZ, 400, .inl mrk)), ((f 23), .inl (cI, 810, .inl wlk)), ((f 24), .inl (cI, 150, .inl spn)), ((f 18), .inl (cL, 9, .inr (.inl trm)))] sz) (fun (u : Nat × Int64 × Int32 × Int32 × (Nat → Int64) × (Nat → Int64) × (Nat → Int32) × (Nat → Int32)) => [(h0, .inr (8, mS f tn rm ln lx at_ bd fs dp on os bn df th u.1 mo_ ev u.2.2.1 u.2.2.2.1 u.2.1 rs pt ot cl)), ((f 20), .inl (cL, 400, .inr (.inl u.2.2.2.2.1))), ((f 21), .inl (cL, 400, .inr (.inl u.2.2.2.2.2.1))), ((f 22), .inl (cZ, 400, .inl u.2.2.2.2.2.2.1)), ((f 23), .inl (cI, 810, .inl u.2.2.2.2.2.2.2)), ((f 24), .inl (cI, 150, .inl spn)), ((f 18), .inl (cL, 9, .inr (.inl trm)))]) (fun v (u : Nat × Int64 × Int32 × Int32 × (Nat → Int64) × (Nat → Int64) × (Nat → Int32) × (Nat → Int32)) => v = none ∧ ((bln u.2.2.2.2.2.2.1) ∧ (∃ G' : Nat → Prop, MI df G' trm u.2.2.2.2.1 u.2.2.2.2.2.1 spn u.1 u.2.1 rs pt ∧ ((u.2.2.1 = ss + 1 ∧ u.2.2.2.1 = so ∧ tp ≤ u.1 + 4) ∨ (u.2.2.1 = ss ∧ ¬ u.2.2.2.1 = 0 ∧ u.1 = tp))))) (fun C (u : Nat × Int64 × Int32 × Int32 × (Nat → Int64) × (Nat → Int64) × (Nat → Int32) × (Nat → Int32)) => False) 0 0 := by
  refine em_Met.ofW (cc := b_MO_combinator) (maxL := 13) (ret := none) (by decide) rfl ?_
  intro p e s m args below meth c s₁ B hml hv hno
  obtain ⟨rfl, ⟨hsz, hP, hK, hD0⟩, hE⟩ := hv
  have hx := B.exec
  have hb := B.bytes
  have hr := B.returns
  have hts := atoms_spec (ws := wz y_MO_combinator b_MO_combinator 13 none) B.pre
  have hG := wz_G hts
  have hown : s.vm.findClass rn_MO = some m.cls := findClass_of_methodNamed B.named
  have hlocks := B.notSynchronized
  subst hsz
  have hD := hD0.self (sz := s.heap.size)
  have hst := tw_st hP
  generalize hAe : va_A [(h0, .inr (8, mS f tn rm ln lx at_ bd fs dp on os bn df th tp mo_ ev ss so lk rs pt ot cl)), ((f 20), .inl (cL, 400, .inr (.inl one))), ((f 21), .inl (cL, 400, .inr (.inl two))), ((f 22), .inl (cZ, 400, .inl mrk)), ((f 23), .inl (cI, 810, .inl wlk)), ((f 24), .inl (cI, 150, .inl spn)), ((f 18), .inl (cL, 9, .inr (.inl trm)))] s.heap.size = A at hD hst ⊢
  have hA : ∀ q : Nat, s.heap.size ≤ q → A q := fun q h => by rw [← hAe]; exact Or.inr h
  have hS : va_S A s.heap s.heap [] := va_S.rf
  have hl := lv_entry ([.ref h0, .int 9]) (n := 13) (Nat.le_of_ble_eq_true rfl)
  rw [lg_entry_eq]
  generalize (lg_sl ([.ref h0, .int 9]) ++ List.replicate (13 - (lg_sl ([.ref h0, .int 9])).length) Slot.unset).toArray = ls at hl ⊢
  have hl : lv_has ls 13 [(0, .ref h0), (1, .int 9)] := hl
  obtain ⟨hHG, hlk, hrs, htp, hsp⟩ := id hMI
  refine lv_aload_n hx hb d_MO_combinator_0 rfl (lv_at hl 0 rfl) ?_
  refine lv_iconst (v := 0) hx hb d_MO_combinator_1 (by decide) ?_
  refine em_call (wr := [((f 22), .inl (cZ, 400, .inl mrk)), ((f 23), .inl (cI, 810, .inl wlk))]) (em_runV (As := [.int (nI 0)]) (rest := []) ⟨hx, hb, hml, hown, hG⟩ (mo_argument l D cI cL cZ cC f h0 tn rm ln lx at_ bd fs dp on os bn df th tp mo_ ev ss so lk rs pt ot cl two spn trm one Gc 0 _ (by omega) (by omega) hHG hsp hnt) (cwV 1 hG (gd_V k_1581 k_1583 k_92 k_116 k_1584) rfl rfl rfl (by decide +kernel) ⟨Nat.le_of_ble_eq_true rfl, Nat.le_of_ble_eq_true rfl⟩) (tw_V (q0 := 0) hP hD hK hE hst hS rfl rfl [0, 2, 5, 6, 1] rfl (by decide)) rfl rfl hl.1 rfl (lv_room (Nat.le_of_ble_eq_true rfl)) d_MO_combinator_2 ⟨Nat.le_of_ble_eq_true rfl, Nat.le_of_ble_eq_true rfl⟩) hP hD hS hA [0, 2, 5, 6, 1] [3, 4] rfl rfl (by decide) (by decide) (fun v u H locs hok hP hD hS => ?_) (fun x C u H locs hbad hxx hP hD hS => ?_)
  · skip
    obtain ⟨r_1, rfl, hp_2⟩ := hok
    have hres_3 : (okh df Gc r_1) := hp_2
    have hP : va_P D classes [((f 22), .inl (cZ, 400, .inl mrk)), ((f 23), .inl (cI, 810, .inl wlk)), (h0, .inr (8, mS f tn rm ln lx at_ bd fs dp on os bn df th tp mo_ ev ss so lk rs pt ot cl)), ((f 21), .inl (cL, 400, .inr (.inl two))), ((f 24), .inl (cI, 150, .inl spn)), ((f 18), .inl (cL, 9, .inr (.inl trm))), ((f 20), .inl (cL, 400, .inr (.inl one)))] H := hP
    have hD : va_D A [((f 22), .inl (cZ, 400, .inl mrk)), ((f 23), .inl (cI, 810, .inl wlk)), (h0, .inr (8, mS f tn rm ln lx at_ bd fs dp on os bn df th tp mo_ ev ss so lk rs pt ot cl)), ((f 21), .inl (cL, 400, .inr (.inl two))), ((f 24), .inl (cI, 150, .inl spn)), ((f 18), .inl (cL, 9, .inr (.inl trm))), ((f 20), .inl (cL, 400, .inr (.inl one)))] := hD
    refine W.eq (g2 := F0 m 5 ls [.long r_1]) rfl ?_
    refine lv_lstore_n (lv' := [(2, .long r_1), (0, .ref h0), (1, .int 9)]) hx hb d_MO_combinator_5 rfl hl (Nat.le_of_ble_eq_true rfl) rfl (fun ls hl => ?_)
    refine lv_iload_n hx hb d_MO_combinator_6 rfl (lv_at hl 2 rfl) ?_
    refine lv_iconst (v := 2) hx hb d_MO_combinator_7 (by decide) ?_
    refine lv_icmp_le (tgt := 19) hx hb d_MO_combinator_8 (by decide) (fun hbr => absurd hbr (by decide)) (fun hbr => ?_)
    refine lv_aload_n hx hb d_MO_combinator_11 rfl (lv_at hl 1 rfl) ?_
    refine lv_iconst (v := 1) hx hb d_MO_combinator_12 (by decide) ?_
    refine em_call (wr := [((f 22), .inl (cZ, 400, .inl mrk)), ((f 23), .inl (cI, 810, .inl wlk))]) (em_runV (As := [.int (nI 1)]) (rest := []) ⟨hx, hb, hml, hown, hG⟩ (mo_argument l D cI cL cZ cC f h0 tn rm ln lx at_ bd fs dp on os bn df th tp mo_ ev ss so lk rs pt ot cl two spn trm one Gc 1 _ (by omega) (by omega) hHG hsp hnt) (cwV 1 hG (gd_V k_1581 k_1583 k_92 k_116 k_1584) rfl rfl rfl (by decide +kernel) ⟨Nat.le_of_ble_eq_true rfl, Nat.le_of_ble_eq_true rfl⟩) (tw_V (q0 := 2) hP hD hK hE hst hS rfl rfl [2, 3, 4, 5, 6] rfl (by decide)) rfl rfl hl.1 rfl (lv_room (Nat.le_of_ble_eq_true rfl)) d_MO_combinator_13 ⟨Nat.le_of_ble_eq_true rfl, Nat.le_of_ble_eq_true rfl⟩) hP hD hS hA [2, 3, 4, 5, 6] [0, 1] rfl rfl (by decide) (by decide) (fun v u H locs hok hP hD hS => ?_) (fun x C u H locs hbad hxx hP hD hS => ?_)
    · skip
      obtain ⟨r_4, rfl, hp_5⟩ := hok
      have hres_6 : (okh df Gc r_4) := hp_5
      have hP : va_P D classes [((f 22), .inl (cZ, 400, .inl mrk)), ((f 23), .inl (cI, 810, .inl wlk)), (h0, .inr (8, mS f tn rm ln lx at_ bd fs dp on os bn df th tp mo_ ev ss so lk rs pt ot cl)), ((f 21), .inl (cL, 400, .inr (.inl two))), ((f 24), .inl (cI, 150, .inl spn)), ((f 18), .inl (cL, 9, .inr (.inl trm))), ((f 20), .inl (cL, 400, .inr (.inl one)))] H := hP
      have hD : va_D A [((f 22), .inl (cZ, 400, .inl mrk)), ((f 23), .inl (cI, 810, .inl wlk)), (h0, .inr (8, mS f tn rm ln lx at_ bd fs dp on os bn df th tp mo_ ev ss so lk rs pt ot cl)), ((f 21), .inl (cL, 400, .inr (.inl two))), ((f 24), .inl (cI, 150, .inl spn)), ((f 18), .inl (cL, 9, .inr (.inl trm))), ((f 20), .inl (cL, 400, .inr (.inl one)))] := hD
      refine W.eq (g2 := F0 m 16 ls [.long r_4]) rfl ?_
      refine lv_goto (tgt := 20) hx hb d_MO_combinator_16 (by decide) ?_
      refine lv_lstore (lv' := [(4, .long r_4), (2, .long r_1), (0, .ref h0), (1, .int 9)]) hx hb d_MO_combinator_20 hl (Nat.le_of_ble_eq_true rfl) rfl (fun ls hl => ?_)
      refine lv_iload_n hx hb d_MO_combinator_22 rfl (lv_at hl 3 rfl) ?_
      refine W.callR (W.runS (As := [.int 9]) (rest := []) ⟨hx, hb, hml, hown, hG⟩ (mo_needs l D cI cL cZ cC 9 ) (cwS 1 hG (gd_S k_1621 k_1622 k_116 k_1623) rfl rfl rfl (by decide +kernel) ⟨Nat.le_of_ble_eq_true rfl, Nat.le_of_ble_eq_true rfl⟩) (wq_S hP hK [] rfl) rfl rfl hl.1 rfl (lv_room (Nat.le_of_ble_eq_true rfl)) d_MO_combinator_23 ⟨Nat.le_of_ble_eq_true rfl, Nat.le_of_ble_eq_true rfl⟩) ?_
      refine W.eq (g2 := F0 m 26 ls [.int (mneeds (9 : Int32))]) rfl ?_
      refine W.eq (g2 := F0 m 26 ls [.int 4]) (by rw [show mneeds 9 = 4 by decide]) ?_
      refine lv_iconst (v := 2) hx hb d_MO_combinator_26 (by decide) ?_
      refine lv_icmp_le (tgt := 38) hx hb d_MO_combinator_27 (by decide) (fun hbr => absurd hbr (by decide)) (fun hbr => ?_)
      refine lv_aload_n hx hb d_MO_combinator_30 rfl (lv_at hl 2 rfl) ?_
      refine lv_iconst (v := 2) hx hb d_MO_combinator_31 (by decide) ?_
      refine em_call (wr := [((f 22), .inl (cZ, 400, .inl mrk)), ((f 23), .inl (cI, 810, .inl wlk))]) (em_runV (As := [.int (nI 2)]) (rest := []) ⟨hx, hb, hml, hown, hG⟩ (mo_argument l D cI cL cZ cC f h0 tn rm ln lx at_ bd fs dp on os bn df th tp mo_ ev ss so lk rs pt ot cl two spn trm one Gc 2 _ (by omega) (by omega) hHG hsp hnt) (cwV 1 hG (gd_V k_1581 k_1583 k_92 k_116 k_1584) rfl rfl rfl (by decide +kernel) ⟨Nat.le_of_ble_eq_true rfl, Nat.le_of_ble_eq_true rfl⟩) (tw_V (q0 := 2) hP hD hK hE hst hS rfl rfl [2, 3, 4, 5, 6] rfl (by decide)) rfl rfl hl.1 rfl (lv_room (Nat.le_of_ble_eq_true rfl)) d_MO_combinator_32 ⟨Nat.le_of_ble_eq_true rfl, Nat.le_of_ble_eq_true rfl⟩) hP hD hS hA [2, 3, 4, 5, 6] [0, 1] rfl rfl (by decide) (by decide) (fun v u H locs hok hP hD hS => ?_) (fun x C u H locs hbad hxx hP hD hS => ?_)
      · skip
        obtain ⟨r_7, rfl, hp_8⟩ := hok
        have hres_9 : (okh df Gc r_7) := hp_8
        have hP : va_P D classes [((f 22), .inl (cZ, 400, .inl mrk)), ((f 23), .inl (cI, 810, .inl wlk)), (h0, .inr (8, mS f tn rm ln lx at_ bd fs dp on os bn df th tp mo_ ev ss so lk rs pt ot cl)), ((f 21), .inl (cL, 400, .inr (.inl two))), ((f 24), .inl (cI, 150, .inl spn)), ((f 18), .inl (cL, 9, .inr (.inl trm))), ((f 20), .inl (cL, 400, .inr (.inl one)))] H := hP
        have hD : va_D A [((f 22), .inl (cZ, 400, .inl mrk)), ((f 23), .inl (cI, 810, .inl wlk)), (h0, .inr (8, mS f tn rm ln lx at_ bd fs dp on os bn df th tp mo_ ev ss so lk rs pt ot cl)), ((f 21), .inl (cL, 400, .inr (.inl two))), ((f 24), .inl (cI, 150, .inl spn)), ((f 18), .inl (cL, 9, .inr (.inl trm))), ((f 20), .inl (cL, 400, .inr (.inl one)))] := hD
        refine W.eq (g2 := F0 m 35 ls [.long r_7]) rfl ?_
        refine lv_goto (tgt := 39) hx hb d_MO_combinator_35 (by decide) ?_
        refine lv_lstore (lv' := [(6, .long r_7), (4, .long r_4), (2, .long r_1), (0, .ref h0), (1, .int 9)]) hx hb d_MO_combinator_39 hl (Nat.le_of_ble_eq_true rfl) rfl (fun ls hl => ?_)
        refine lv_iload_n hx hb d_MO_combinator_41 rfl (lv_at hl 4 rfl) ?_
        refine W.callR (W.runS (As := [.int 9]) (rest := []) ⟨hx, hb, hml, hown, hG⟩ (mo_needs l D cI cL cZ cC 9 ) (cwS 1 hG (gd_S k_1621 k_1622 k_116 k_1623) rfl rfl rfl (by decide +kernel) ⟨Nat.le_of_ble_eq_true rfl, Nat.le_of_ble_eq_true rfl⟩) (wq_S hP hK [] rfl) rfl rfl hl.1 rfl (lv_room (Nat.le_of_ble_eq_true rfl)) d_MO_combinator_42 ⟨Nat.le_of_ble_eq_true rfl, Nat.le_of_ble_eq_true rfl⟩) ?_
        refine W.eq (g2 := F0 m 45 ls [.int (mneeds (9 : Int32))]) rfl ?_
        refine W.eq (g2 := F0 m 45 ls [.int 4]) (by rw [show mneeds 9 = 4 by decide]) ?_
        refine lv_iconst (v := 3) hx hb d_MO_combinator_45 (by decide) ?_
        refine lv_icmp_le (tgt := 57) hx hb d_MO_combinator_46 (by decide) (fun hbr => absurd hbr (by decide)) (fun hbr => ?_)
        refine lv_aload_n hx hb d_MO_combinator_49 rfl (lv_at hl 3 rfl) ?_
        refine lv_iconst (v := 3) hx hb d_MO_combinator_50 (by decide) ?_
        refine em_call (wr := [((f 22), .inl (cZ, 400, .inl mrk)), ((f 23), .inl (cI, 810, .inl wlk))]) (em_runV (As := [.int (nI 3)]) (rest := []) ⟨hx, hb, hml, hown, hG⟩ (mo_argument l D cI cL cZ cC f h0 tn rm ln lx at_ bd fs dp on os bn df th tp mo_ ev ss so lk rs pt ot cl two spn trm one Gc 3 _ (by omega) (by omega) hHG hsp hnt) (cwV 1 hG (gd_V k_1581 k_1583 k_92 k_116 k_1584) rfl rfl rfl (by decide +kernel) ⟨Nat.le_of_ble_eq_true rfl, Nat.le_of_ble_eq_true rfl⟩) (tw_V (q0 := 2) hP hD hK hE hst hS rfl rfl [2, 3, 4, 5, 6] rfl (by decide)) rfl rfl hl.1 rfl (lv_room (Nat.le_of_ble_eq_true rfl)) d_MO_combinator_51 ⟨Nat.le_of_ble_eq_true rfl, Nat.le_of_ble_eq_true rfl⟩) hP hD hS hA [2, 3, 4, 5, 6] [0, 1] rfl rfl (by decide) (by decide) (fun v u H locs hok hP hD hS => ?_) (fun x C u H locs hbad hxx hP hD hS => ?_)
        · skip
          obtain ⟨r_10, rfl, hp_11⟩ := hok
          have hres_12 : (okh df Gc r_10) := hp_11
          have hP : va_P D classes [((f 22), .inl (cZ, 400, .inl mrk)), ((f 23), .inl (cI, 810, .inl wlk)), (h0, .inr (8, mS f tn rm ln lx at_ bd fs dp on os bn df th tp mo_ ev ss so lk rs pt ot cl)), ((f 21), .inl (cL, 400, .inr (.inl two))), ((f 24), .inl (cI, 150, .inl spn)), ((f 18), .inl (cL, 9, .inr (.inl trm))), ((f 20), .inl (cL, 400, .inr (.inl one)))] H := hP
          have hD : va_D A [((f 22), .inl (cZ, 400, .inl mrk)), ((f 23), .inl (cI, 810, .inl wlk)), (h0, .inr (8, mS f tn rm ln lx at_ bd fs dp on os bn df th tp mo_ ev ss so lk rs pt ot cl)), ((f 21), .inl (cL, 400, .inr (.inl two))), ((f 24), .inl (cI, 150, .inl spn)), ((f 18), .inl (cL, 9, .inr (.inl trm))), ((f 20), .inl (cL, 400, .inr (.inl one)))] := hD
          refine W.eq (g2 := F0 m 54 ls [.long r_10]) rfl ?_
          refine lv_goto (tgt := 58) hx hb d_MO_combinator_54 (by decide) ?_
          refine lv_lstore (lv' := [(8, .long r_10), (6, .long r_7), (4, .long r_4), (2, .long r_1), (0, .ref h0), (1, .int 9)]) hx hb d_MO_combinator_58 hl (Nat.le_of_ble_eq_true rfl) rfl (fun ls hl => ?_)
          refine lv_iload_n hx hb d_MO_combinator_60 rfl (lv_at hl 5 rfl) ?_
          refine lv_iconst (v := 4) hx hb d_MO_combinator_61 (by decide) ?_
          refine lv_icmp_ne (tgt := 69) hx hb d_MO_combinator_62 (by decide) (fun hbr => ?_) (fun hbr => absurd hbr (by decide))
          refine lv_iload_n hx hb d_MO_combinator_69 rfl (lv_at hl 5 rfl) ?_
          refine lv_iconst (v := 5) hx hb d_MO_combinator_70 (by decide) ?_
          refine lv_icmp_eq (tgt := 80) hx hb d_MO_combinator_71 (by decide) (fun hbr => absurd hbr (by decide)) (fun hbr => ?_)
          refine lv_iload_n hx hb d_MO_combinator_74 rfl (lv_at hl 5 rfl) ?_
          refine lv_bipush (v := 6) hx hb d_MO_combinator_75 (by decide) ?_
          refine lv_icmp_ne (tgt := 84) hx hb d_MO_combinator_77 (by decide) (fun hbr => ?_) (fun hbr => absurd hbr (by decide))
          refine lv_iload_n hx hb d_MO_combinator_84 rfl (lv_at hl 5 rfl) ?_
          refine lv_bipush (v := 7) hx hb d_MO_combinator_85 (by decide) ?_
          refine lv_icmp_ne (tgt := 94) hx hb d_MO_combinator_87 (by decide) (fun hbr => ?_) (fun hbr => absurd hbr (by decide))
          refine lv_iload_n hx hb d_MO_combinator_94 rfl (lv_at hl 5 rfl) ?_
          refine lv_bipush (v := 8) hx hb d_MO_combinator_95 (by decide) ?_
          refine lv_icmp_eq (tgt := 106) hx hb d_MO_combinator_97 (by decide) (fun hbr => absurd hbr (by decide)) (fun hbr => ?_)
          refine lv_iload_n hx hb d_MO_combinator_100 rfl (lv_at hl 5 rfl) ?_
          refine lv_bipush (v := 9) hx hb d_MO_combinator_101 (by decide) ?_
          refine lv_icmp_ne (tgt := 110) hx hb d_MO_combinator_103 (by decide) (fun hbr => absurd (by decide) hbr) (fun hbr => ?_)
          refine lv_iconst (v := 2) hx hb d_MO_combinator_106 (by decide) ?_
          refine lv_goto (tgt := 111) hx hb d_MO_combinator_107 (by decide) ?_
          refine lv_istore (lv' := [(10, .int 2), (8, .long r_10), (6, .long r_7), (4, .long r_4), (2, .long r_1), (0, .ref h0), (1, .int 9)]) hx hb d_MO_combinator_111 hl (Nat.le_of_ble_eq_true rfl) rfl (fun ls hl => ?_)
          refine lv_iload hx hb d_MO_combinator_113 (lv_at hl 0 rfl) ?_
          refine lv_if_le (tgt := 128) hx hb d_MO_combinator_115 (by decide) (fun hbr => absurd hbr (by decide)) (fun hbr => ?_)
          refine lv_aload_n hx hb d_MO_combinator_118 rfl (lv_at hl 5 rfl) ?_
          refine lv_iload hx hb d_MO_combinator_119 (lv_at hl 0 rfl) ?_
          refine em_call (wr := []) (em_runV (As := [.int (nI 2)]) (rest := []) ⟨hx, hb, hml, hown, hG⟩ (mo_fits l D cI cL cZ cC f h0 tn rm ln lx at_ bd fs dp on os bn df th tp mo_ ev ss so lk rs pt ot cl mrk wlk trm one two spn Gc 2 _ hmrk (by decide) hrm hHG hlk hrs htp hsp hnt) (cwV 1 hG (gd_V k_1628 k_1630 k_102 k_116 k_1631) rfl rfl rfl (by decide +kernel) ⟨Nat.le_of_ble_eq_true rfl, Nat.le_of_ble_eq_true rfl⟩) (tw_V (q0 := 2) hP hD hK hE hst hS rfl rfl [2, 0, 1, 5, 6, 3, 4] rfl (by decide)) rfl rfl hl.1 rfl (lv_room (Nat.le_of_ble_eq_true rfl)) d_MO_combinator_121 ⟨Nat.le_of_ble_eq_true rfl, Nat.le_of_ble_eq_true rfl⟩) hP hD hS hA [2, 0, 1, 5, 6, 3, 4] [] rfl rfl (by decide) (by decide) (fun v u H locs hok hP hD hS => ?_) (fun x C u H locs hbad hxx hP hD hS => ?_)
          · skip
            obtain ⟨so_13, mrk_14, wlk_15⟩ := u
            obtain ⟨r_16, rfl, hp_17⟩ := hok
            obtain ⟨hmrk_18, hres_19⟩ : (bln mrk_14) ∧ (((r_16 = 1 ∧ so_13 = so ∧ so = 0 ∧ sm (gn mrk_14) 400 + 2 ≤ rm) ∨ (r_16 = 0 ∧ ¬ so_13 = 0))) := hp_17
            have hP : va_P D classes [(h0, .inr (8, mS f tn rm ln lx at_ bd fs dp on os bn df th tp mo_ ev ss so_13 lk rs pt ot cl)), ((f 22), .inl (cZ, 400, .inl mrk_14)), ((f 23), .inl (cI, 810, .inl wlk_15)), ((f 18), .inl (cL, 9, .inr (.inl trm))), ((f 20), .inl (cL, 400, .inr (.inl one))), ((f 21), .inl (cL, 400, .inr (.inl two))), ((f 24), .inl (cI, 150, .inl spn))] H := hP
            have hD : va_D A [(h0, .inr (8, mS f tn rm ln lx at_ bd fs dp on os bn df th tp mo_ ev ss so_13 lk rs pt ot cl)), ((f 22), .inl (cZ, 400, .inl mrk_14)), ((f 23), .inl (cI, 810, .inl wlk_15)), ((f 18), .inl (cL, 9, .inr (.inl trm))), ((f 20), .inl (cL, 400, .inr (.inl one))), ((f 21), .inl (cL, 400, .inr (.inl two))), ((f 24), .inl (cI, 150, .inl spn))] := hD
            rcases hres_19 with ⟨rfl, hy_20a, hy_20b, hy_20c⟩ | ⟨rfl, hy_20a⟩
            · skip
              refine W.eq (g2 := F0 m 124 ls [.int 1]) rfl ?_
              refine lv_if_ne (tgt := 128) hx hb d_MO_combinator_124 (by decide) (fun hbr => ?_) (fun hbr => absurd hbr (by decide))
              refine lv_iload_n hx hb d_MO_combinator_128 rfl (lv_at hl 6 rfl) ?_
              refine lv_iconst (v := 2) hx hb d_MO_combinator_129 (by decide) ?_
              refine lv_icmp_ne (tgt := 161) hx hb d_MO_combinator_130 (by decide) (fun hbr => ?_) (fun hbr => absurd hbr (by decide))
              refine lv_iload_n hx hb d_MO_combinator_161 rfl (lv_at hl 6 rfl) ?_
              refine lv_iconst (v := 3) hx hb d_MO_combinator_162 (by decide) ?_
              refine lv_icmp_ne (tgt := 179) hx hb d_MO_combinator_163 (by decide) (fun hbr => ?_) (fun hbr => absurd hbr (by decide))
              refine lv_iload_n hx hb d_MO_combinator_179 rfl (lv_at hl 6 rfl) ?_
              refine lv_iconst (v := 4) hx hb d_MO_combinator_180 (by decide) ?_
              refine lv_icmp_ne (tgt := 211) hx hb d_MO_combinator_181 (by decide) (fun hbr => ?_) (fun hbr => absurd hbr (by decide))
              refine lv_iload_n hx hb d_MO_combinator_211 rfl (lv_at hl 6 rfl) ?_
              refine lv_iconst (v := 5) hx hb d_MO_combinator_212 (by decide) ?_
              refine lv_icmp_ne (tgt := 233) hx hb d_MO_combinator_213 (by decide) (fun hbr => ?_) (fun hbr => absurd hbr (by decide))
              refine lv_iload_n hx hb d_MO_combinator_233 rfl (lv_at hl 6 rfl) ?_
              refine lv_bipush (v := 6) hx hb d_MO_combinator_234 (by decide) ?_
              refine lv_icmp_ne (tgt := 256) hx hb d_MO_combinator_236 (by decide) (fun hbr => ?_) (fun hbr => absurd hbr (by decide))
              refine lv_iload_n hx hb d_MO_combinator_256 rfl (lv_at hl 6 rfl) ?_
              refine lv_bipush (v := 8) hx hb d_MO_combinator_257 (by decide) ?_
              refine lv_icmp_ne (tgt := 289) hx hb d_MO_combinator_259 (by decide) (fun hbr => ?_) (fun hbr => absurd hbr (by decide))
              refine lv_aload_n hx hb d_MO_combinator_289 rfl (lv_at hl 5 rfl) ?_
              refine lv_lload_n hx hb d_MO_combinator_290 rfl (lv_at hl 4 rfl) ?_
              refine lv_aload_n hx hb d_MO_combinator_291 rfl (lv_at hl 5 rfl) ?_
              refine lv_lload hx hb d_MO_combinator_292 (lv_at hl 3 rfl) ?_
              refine lv_lload hx hb d_MO_combinator_294 (lv_at hl 1 rfl) ?_
              refine em_call (wr := [((f 23), .inl (cI, 810, .inl wlk_15)), ((f 24), .inl (cI, 150, .inl spn))]) (em_runV (As := [.long r_4, .long r_10]) (rest := [.long r_1, .ref h0]) ⟨hx, hb, hml, hown, hG⟩ (mo_made l D cI cL cZ cC f h0 tn rm ln lx at_ bd fs dp on os bn df th tp mo_ ev ss so_13 lk rs pt ot cl mrk_14 one two trm Gc r_4 r_10 _ hmrk_18 hHG hres_6 hres_12 (by omega) hnt) (cwV 2 hG (gd_V k_1640 k_1642 k_105 k_116 k_1643) rfl rfl rfl (by decide +kernel) ⟨Nat.le_of_ble_eq_true rfl, Nat.le_of_ble_eq_true rfl⟩) (tw_V (q0 := 0) hP hD hK hE hst hS rfl rfl [0, 1, 4, 5, 3] rfl (by decide)) rfl rfl hl.1 rfl (lv_room (Nat.le_of_ble_eq_true rfl)) d_MO_combinator_296 ⟨Nat.le_of_ble_eq_true rfl, Nat.le_of_ble_eq_true rfl⟩) hP hD hS hA [0, 1, 4, 5, 3] [2, 6] rfl rfl (by decide) (by decide) (fun v u H locs hok hP hD hS => ?_) (fun x C u H locs hbad hxx hP hD hS => ?_)
              · skip
                obtain ⟨mrk_21, one_22, two_23⟩ := u
                obtain ⟨r_24, rfl, hp_25⟩ := hok
                obtain ⟨hmrk_26, hres_27⟩ : (bln mrk_21) ∧ (∃ G' : Nat → Prop, (∀ c, Gc c → G' c) ∧ HG df G' trm one_22 two_23 ∧ okh df G' r_24 ∧ sm (gn mrk_21) 400 = sm (gn mrk_14) 400 + 1) := hp_25
                obtain ⟨G_28, hG_28a, hG_28b, hG_28c, hG_28d⟩ := hres_27
                have hP : va_P D classes [((f 23), .inl (cI, 810, .inl wlk_15)), ((f 24), .inl (cI, 150, .inl spn)), (h0, .inr (8, mS f tn rm ln lx at_ bd fs dp on os bn df th tp mo_ ev ss so_13 lk rs pt ot cl)), ((f 22), .inl (cZ, 400, .inl mrk_21)), ((f 20), .inl (cL, 400, .inr (.inl one_22))), ((f 21), .inl (cL, 400, .inr (.inl two_23))), ((f 18), .inl (cL, 9, .inr (.inl trm)))] H := hP
                have hD : va_D A [((f 23), .inl (cI, 810, .inl wlk_15)), ((f 24), .inl (cI, 150, .inl spn)), (h0, .inr (8, mS f tn rm ln lx at_ bd fs dp on os bn df th tp mo_ ev ss so_13 lk rs pt ot cl)), ((f 22), .inl (cZ, 400, .inl mrk_21)), ((f 20), .inl (cL, 400, .inr (.inl one_22))), ((f 21), .inl (cL, 400, .inr (.inl two_23))), ((f 18), .inl (cL, 9, .inr (.inl trm)))] := hD
                refine W.eq (g2 := F0 m 299 ls [.long r_24, .long r_1, .ref h0]) rfl ?_
                refine em_call (wr := [((f 23), .inl (cI, 810, .inl wlk_15)), ((f 24), .inl (cI, 150, .inl spn))]) (em_runV (As := [.long r_1, .long r_24]) (rest := []) ⟨hx, hb, hml, hown, hG⟩ (mo_made l D cI cL cZ cC f h0 tn rm ln lx at_ bd fs dp on os bn df th tp mo_ ev ss so_13 lk rs pt ot cl mrk_21 one_22 two_23 trm G_28 r_1 r_24 _ hmrk_26 hG_28b (okh_mono hG_28a hres_3) hG_28c (by omega) hnt) (cwV 2 hG (gd_V k_1640 k_1642 k_105 k_116 k_1643) rfl rfl rfl (by decide +kernel) ⟨Nat.le_of_ble_eq_true rfl, Nat.le_of_ble_eq_true rfl⟩) (tw_V (q0 := 2) hP hD hK hE hst hS rfl rfl [2, 3, 4, 5, 6] rfl (by decide)) rfl rfl hl.1 rfl (lv_room (Nat.le_of_ble_eq_true rfl)) d_MO_combinator_299 ⟨Nat.le_of_ble_eq_true rfl, Nat.le_of_ble_eq_true rfl⟩) hP hD hS hA [2, 3, 4, 5, 6] [0, 1] rfl rfl (by decide) (by decide) (fun v u H locs hok hP hD hS => ?_) (fun x C u H locs hbad hxx hP hD hS => ?_)
                · skip
                  obtain ⟨mrk_29, one_30, two_31⟩ := u
                  obtain ⟨r_32, rfl, hp_33⟩ := hok
                  obtain ⟨hmrk_34, hres_35⟩ : (bln mrk_29) ∧ (∃ G' : Nat → Prop, (∀ c, G_28 c → G' c) ∧ HG df G' trm one_30 two_31 ∧ okh df G' r_32 ∧ sm (gn mrk_29) 400 = sm (gn mrk_21) 400 + 1) := hp_33
                  obtain ⟨G_36, hG_36a, hG_36b, hG_36c, hG_36d⟩ := hres_35
                  have hP : va_P D classes [((f 23), .inl (cI, 810, .inl wlk_15)), ((f 24), .inl (cI, 150, .inl spn)), (h0, .inr (8, mS f tn rm ln lx at_ bd fs dp on os bn df th tp mo_ ev ss so_13 lk rs pt ot cl)), ((f 22), .inl (cZ, 400, .inl mrk_29)), ((f 20), .inl (cL, 400, .inr (.inl one_30))), ((f 21), .inl (cL, 400, .inr (.inl two_31))), ((f 18), .inl (cL, 9, .inr (.inl trm)))] H := hP
                  have hD : va_D A [((f 23), .inl (cI, 810, .inl wlk_15)), ((f 24), .inl (cI, 150, .inl spn)), (h0, .inr (8, mS f tn rm ln lx at_ bd fs dp on os bn df th tp mo_ ev ss so_13 lk rs pt ot cl)), ((f 22), .inl (cZ, 400, .inl mrk_29)), ((f 20), .inl (cL, 400, .inr (.inl one_30))), ((f 21), .inl (cL, 400, .inr (.inl two_31))), ((f 18), .inl (cL, 9, .inr (.inl trm)))] := hD
                  refine W.eq (g2 := F0 m 302 ls [.long r_32]) rfl ?_
                  refine lv_lstore (lv' := [(11, .long r_32), (10, .int 2), (8, .long r_10), (6, .long r_7), (4, .long r_4), (2, .long r_1), (0, .ref h0), (1, .int 9)]) hx hb d_MO_combinator_302 hl (Nat.le_of_ble_eq_true rfl) rfl (fun ls hl => ?_)
                  refine lv_aload_n hx hb d_MO_combinator_304 rfl (lv_at hl 6 rfl) ?_
                  refine lv_iconst (v := 4) hx hb d_MO_combinator_305 (by decide) ?_
                  refine lv_lload hx hb d_MO_combinator_306 (lv_at hl 0 rfl) ?_
                  refine lv_iload_n hx hb d_MO_combinator_308 rfl (lv_at hl 7 rfl) ?_
                  refine lv_bipush (v := 7) hx hb d_MO_combinator_309 (by decide) ?_
                  refine lv_icmp_ne (tgt := 325) hx hb d_MO_combinator_311 (by decide) (fun hbr => ?_) (fun hbr => absurd hbr (by decide))
                  refine lv_lload hx hb d_MO_combinator_325 (lv_at hl 3 rfl) ?_
                  refine em_call (wr := [((f 23), .inl (cI, 810, .inl wlk_15)), ((f 22), .inl (cZ, 400, .inl mrk_29))]) (em_runV (As := [.int (nI 4), .long r_32, .long r_7]) (rest := []) ⟨hx, hb, hml, hown, hG⟩ (mo_overwrite l D cI cL cZ cC f h0 tn rm ln lx at_ bd fs dp on os bn df th tp mo_ ev ss so_13 lk rs pt ot cl one_30 two_31 spn trm G_36 4 r_32 r_7 _ (by omega) (by omega) (by omega) hG_36b hG_36c (okh_mono hG_36a (okh_mono hG_28a hres_9)) (sp_up hG_36a (sp_up hG_28a hsp)) hnt) (cwV 3 hG (gd_V k_1592 k_1594 k_94 k_116 k_1595) rfl rfl rfl (by decide +kernel) ⟨Nat.le_of_ble_eq_true rfl, Nat.le_of_ble_eq_true rfl⟩) (tw_V (q0 := 2) hP hD hK hE hst hS rfl rfl [2, 4, 5, 1, 6] rfl (by decide)) rfl rfl hl.1 rfl (lv_room (Nat.le_of_ble_eq_true rfl)) d_MO_combinator_327 ⟨Nat.le_of_ble_eq_true rfl, Nat.le_of_ble_eq_true rfl⟩) hP hD hS hA [2, 4, 5, 1, 6] [0, 3] rfl rfl (by decide) (by decide) (fun v u H locs hok hP hD hS => ?_) (fun x C u H locs hbad hxx hP hD hS => ?_)
                  · skip
                    obtain ⟨tp_37, lk_38, ss_39, one_40, two_41⟩ := u
                    obtain ⟨rfl, hp_43⟩ := hok
                    obtain ⟨hHG_44, htp_45, hlk_46, hss_47⟩ : (HG df G_36 trm one_40 two_41) ∧ (tp_37 + 4 = tp + 1) ∧ (lk_38 = r_32) ∧ (ss_39 = ss + 1) := hp_43
                    have hP : va_P D classes [((f 23), .inl (cI, 810, .inl wlk_15)), ((f 22), .inl (cZ, 400, .inl mrk_29)), (h0, .inr (8, mS f tn rm ln lx at_ bd fs dp on os bn df th tp_37 mo_ ev ss_39 so_13 lk_38 rs pt ot cl)), ((f 20), .inl (cL, 400, .inr (.inl one_40))), ((f 21), .inl (cL, 400, .inr (.inl two_41))), ((f 24), .inl (cI, 150, .inl spn)), ((f 18), .inl (cL, 9, .inr (.inl trm)))] H := hP
                    have hD : va_D A [((f 23), .inl (cI, 810, .inl wlk_15)), ((f 22), .inl (cZ, 400, .inl mrk_29)), (h0, .inr (8, mS f tn rm ln lx at_ bd fs dp on os bn df th tp_37 mo_ ev ss_39 so_13 lk_38 rs pt ot cl)), ((f 20), .inl (cL, 400, .inr (.inl one_40))), ((f 21), .inl (cL, 400, .inr (.inl two_41))), ((f 24), .inl (cI, 150, .inl spn)), ((f 18), .inl (cL, 9, .inr (.inl trm)))] := hD
                    refine W.eq (g2 := F0 m 330 ls []) rfl ?_
                    exact em_vret hx hb hr hlocks hP hD hK hS (tp_37, lk_38, ss_39, so_13, one_40, two_41, mrk_29, wlk_15) [2, 3, 4, 1, 0, 5, 6] (by decide) rfl ⟨rfl, ⟨hmrk_34, (show ∃ G' : Nat → Prop, MI df G' trm one_40 two_41 spn tp_37 lk_38 rs pt ∧ ((ss_39 = ss + 1 ∧ so_13 = so ∧ tp ≤ tp_37 + 4) ∨ (ss_39 = ss ∧ ¬ so_13 = 0 ∧ tp_37 = tp)) from ⟨G_36, ⟨hHG_44, (by rw [hlk_46]; exact hG_36c), (fun q => okh_mono hG_36a ((fun q => okh_mono hG_28a (hrs q)) q)), (by omega), (fun k hk => (sp_up hG_36a (sp_up hG_28a hsp)) k (by omega))⟩, Or.inl ⟨hss_47, hy_20a, by omega⟩⟩)⟩⟩ d_MO_combinator_330
                  · skip
                    exact hbad.elim
                · skip
                  exact hbad.elim
              · skip
                exact hbad.elim
            · skip
              refine W.eq (g2 := F0 m 124 ls [.int 0]) rfl ?_
              refine lv_if_ne (tgt := 128) hx hb d_MO_combinator_124 (by decide) (fun hbr => absurd (by decide) hbr) (fun hbr => ?_)
              exact em_vret hx hb hr hlocks hP hD hK hS (tp, lk, ss, so_13, one, two, mrk_14, wlk_15) [0, 4, 5, 1, 2, 6, 3] (by decide) rfl ⟨rfl, ⟨hmrk_18, (show ∃ G' : Nat → Prop, MI df G' trm one two spn tp lk rs pt ∧ ((ss = ss + 1 ∧ so_13 = so ∧ tp ≤ tp + 4) ∨ (ss = ss ∧ ¬ so_13 = 0 ∧ tp = tp)) from ⟨Gc, hMI, Or.inr ⟨rfl, hy_20a, rfl⟩⟩)⟩⟩ d_MO_combinator_127
          · skip
            exact hbad.elim
        · skip
          exact hbad.elim
      · skip
        exact hbad.elim
    · skip
      exact hbad.elim
  · skip
    exact hbad.elim
set_option maxHeartbeats 8000000 in
set_option maxRecDepth 100000 in
theorem mo_truth (l : Launch) (D : va_G) (cI cL cZ cC : ClassId) (x : Int64) (sz : Nat) (hnt : l.stackTraces = false) : em_Met l y_MO_truth (wz y_MO_truth b_MO_truth 2 (some .boolean)) ({ frames := 2, cells := 0, slots := 0, locals := 41 }) (va_Pc [.long x] (tw_pre D (tys4 cI cL cZ cC) [] sz)) D (tys4 cI cL cZ cC) (va_A [] sz) (fun (_ : Unit) => []) (fun v (_ : Unit) => ∃ r : Int32, v = some (.int r) ∧ ((r = 0 ∨ r = 1))) (fun C (_ : Unit) => False) 0 0 := by
  refine em_Met.ofW (cc := b_MO_truth) (maxL := 2) (ret := (some .boolean)) (by decide) rfl ?_
  intro p e s m args below meth c s₁ B hml hv hno
  obtain ⟨rfl, ⟨hsz, hP, hK, hD0⟩, hE⟩ := hv
  have hx := B.exec
  have hb := B.bytes
  have hr := B.returns
  have hts := atoms_spec (ws := wz y_MO_truth b_MO_truth 2 (some .boolean)) B.pre
  have hG := wz_G hts
  have hown : s.vm.findClass rn_MO = some m.cls := findClass_of_methodNamed B.named
  have hlocks := B.notSynchronized
  subst hsz
  have hD := hD0.self (sz := s.heap.size)
  have hst := tw_st hP
  generalize hAe : va_A [] s.heap.size = A at hD hst ⊢
  have hA : ∀ q : Nat, s.heap.size ≤ q → A q := fun q h => by rw [← hAe]; exact Or.inr h
  have hS : va_S A s.heap s.heap [] := va_S.rf
  have hl := lv_entry ([.long x]) (n := 2) (Nat.le_of_ble_eq_true rfl)
  rw [lg_entry_eq]
  generalize (lg_sl ([.long x]) ++ List.replicate (2 - (lg_sl ([.long x])).length) Slot.unset).toArray = ls at hl ⊢
  have hl : lv_has ls 2 [(0, .long x)] := hl
  refine lv_lload_n hx hb d_MO_truth_0 rfl (lv_at hl 0 rfl) ?_
  refine lv_bipush (v := 21) hx hb d_MO_truth_1 (by decide) ?_
  refine W.callRL (W.runS (As := [.int 21]) (rest := [.long x]) ⟨hx, hb, hml, hown, hG⟩ (mo_constant l D cI cL cZ cC 21 ) (cwS 1 hG (gd_S k_1461 k_1462 k_116 k_1463) rfl rfl rfl (by decide +kernel) ⟨Nat.le_of_ble_eq_true rfl, Nat.le_of_ble_eq_true rfl⟩) (wq_S hP hK [] rfl) rfl rfl hl.1 rfl (lv_room (Nat.le_of_ble_eq_true rfl)) d_MO_truth_3 ⟨Nat.le_of_ble_eq_true rfl, Nat.le_of_ble_eq_true rfl⟩) ?_
  refine W.eq (g2 := F0 m 6 ls [.long (wof 2 21), .long x]) rfl ?_
  refine W.lcmp hx hb d_MO_truth_6 ?_
  refine lv_if_eq (tgt := 20) hx hb d_MO_truth_7 (by decide) (fun hb_1 => ?_) (fun hb_1 => ?_)
  · skip
    refine lv_iconst (v := 1) hx hb d_MO_truth_20 (by decide) ?_
    refine lv_goto (tgt := 25) hx hb d_MO_truth_21 (by decide) ?_
    exact em_zret hx hb hr hlocks rfl hP hD hK hS () [] (by decide) rfl ⟨_, rfl, (Or.inr rfl)⟩ d_MO_truth_25
  · skip
    refine lv_lload_n hx hb d_MO_truth_10 rfl (lv_at hl 0 rfl) ?_
    refine lv_bipush (v := 22) hx hb d_MO_truth_11 (by decide) ?_
    refine W.callRL (W.runS (As := [.int 22]) (rest := [.long x]) ⟨hx, hb, hml, hown, hG⟩ (mo_constant l D cI cL cZ cC 22 ) (cwS 1 hG (gd_S k_1461 k_1462 k_116 k_1463) rfl rfl rfl (by decide +kernel) ⟨Nat.le_of_ble_eq_true rfl, Nat.le_of_ble_eq_true rfl⟩) (wq_S hP hK [] rfl) rfl rfl hl.1 rfl (lv_room (Nat.le_of_ble_eq_true rfl)) d_MO_truth_13 ⟨Nat.le_of_ble_eq_true rfl, Nat.le_of_ble_eq_true rfl⟩) ?_
    refine W.eq (g2 := F0 m 16 ls [.long (wof 2 22), .long x]) rfl ?_
    refine W.lcmp hx hb d_MO_truth_16 ?_
    refine lv_if_ne (tgt := 24) hx hb d_MO_truth_17 (by decide) (fun hb_2 => ?_) (fun hb_2 => ?_)
    · skip
      refine lv_iconst (v := 0) hx hb d_MO_truth_24 (by decide) ?_
      exact em_zret hx hb hr hlocks rfl hP hD hK hS () [] (by decide) rfl ⟨_, rfl, (Or.inl rfl)⟩ d_MO_truth_25
    · skip
      refine lv_iconst (v := 1) hx hb d_MO_truth_20 (by decide) ?_
      refine lv_goto (tgt := 25) hx hb d_MO_truth_21 (by decide) ?_
      exact em_zret hx hb hr hlocks rfl hP hD hK hS () [] (by decide) rfl ⟨_, rfl, (Or.inr rfl)⟩ d_MO_truth_25
set_option maxHeartbeats 8000000 in
set_option maxRecDepth 100000 in
theorem mo_counted (l : Launch) (D : va_G) (cI cL cZ cC : ClassId) (f : Nat → Nat) (h0 : Nat) (tn : Int32) (rm : Nat) (ln : Nat) (lx : Nat) (at_ : Nat) (bd : Int32) (fs : Nat) (dp : Nat) (on : Nat) (os : Nat) (bn : Nat) (df : Nat) (th : Int32) (tp : Nat) (mo_ : Int32) (ev : Nat) (ss : Int32) (so : Int32) (lk : Int64) (rs : Int64) (pt : Int32) (ot : Nat) (cl : Int32) (one : Nat → Int64) (two : Nat → Int64) (spn : Nat → Int32) (trm : Nat → Int64) (Gc : Nat → Prop) (c0 : Int32) (a : Int32) (b : Int32) (sz : Nat) (hn2 : 2 ≤ tp) (htp : tp ≤ 150) (hHG : HG df Gc trm one two) (hsp : ∀ k, k < tp → ∃ c : Nat, Gc c ∧ spn k = nI c) (hnt : l.stackTraces = false) : em_Met l y_MO_counted (wz y_MO_counted b_MO_counted 6 none) ({ frames := 2, cells := 0, slots := 0, locals := 41 }) (va_Pc [.ref h0, .int c0, .int a, .int b] (tw_pre D (tys4 cI cL cZ cC) [(h0, .inr (8, mS f tn rm ln lx at_ bd fs dp on os bn df th tp mo_ ev ss so lk rs pt ot cl)), ((f 20), .inl (cL, 400, .inr (.inl one))), ((f 21), .inl (cL, 400, .inr (.inl two))), ((f 24), .inl (cI, 150, .inl spn)), ((f 18), .inl (cL, 9, .inr (.inl trm)))] sz)) D (tys4 cI cL cZ cC) (va_A [(h0, .inr (8, mS f tn rm ln lx at_ bd fs dp on os bn df th tp mo_ ev ss so lk rs pt ot cl)), ((f 20), .inl (cL, 400, .inr (.inl one))), ((f 21), .inl (cL, 400, .inr (.inl two))), ((f 24), .inl (cI, 150, .inl spn)), ((f 18), .inl (cL, 9, .inr (.inl trm)))] sz) (fun (u : Nat × Int64 × Int32 × (Nat → Int64) × (Nat → Int64)) => [(h0, .inr (8, mS f tn rm ln lx at_ bd fs dp on os bn df th u.1 mo_ ev u.2.2.1 so u.2.1 rs pt ot cl)), ((f 20), .inl (cL, 400, .inr (.inl u.2.2.2.1))), ((f 21), .inl (cL, 400, .inr (.inl u.2.2.2.2))), ((f 24), .inl (cI, 150, .inl spn)), ((f 18), .inl (cL, 9, .inr (.inl trm)))]) (fun v (u : Nat × Int64 × Int32 × (Nat → Int64) × (Nat → Int64)) => v = none ∧ ((HG df Gc trm u.2.2.2.1 u.2.2.2.2) ∧ (u.1 + 2 = tp + 1) ∧ (okh df Gc u.2.1) ∧ (u.2.2.1 = ss + 1))) (fun C (u : Nat × Int64 × Int32 × (Nat → Int64) × (Nat → Int64)) => False) 0 0 := by
  refine em_Met.ofW (cc := b_MO_counted) (maxL := 6) (ret := none) (by decide) rfl ?_
  intro p e s m args below meth c s₁ B hml hv hno
  obtain ⟨rfl, ⟨hsz, hP, hK, hD0⟩, hE⟩ := hv
  have hx := B.exec
  have hb := B.bytes
  have hr := B.returns
  have hts := atoms_spec (ws := wz y_MO_counted b_MO_counted 6 none) B.pre
  have hG := wz_G hts
  have hown : s.vm.findClass rn_MO = some m.cls := findClass_of_methodNamed B.named
  have hlocks := B.notSynchronized
  subst hsz
  have hD := hD0.self (sz := s.heap.size)
  have hst := tw_st hP
  generalize hAe : va_A [(h0, .inr (8, mS f tn rm ln lx at_ bd fs dp on os bn df th tp mo_ ev ss so lk rs pt ot cl)), ((f 20), .inl (cL, 400, .inr (.inl one))), ((f 21), .inl (cL, 400, .inr (.inl two))), ((f 24), .inl (cI, 150, .inl spn)), ((f 18), .inl (cL, 9, .inr (.inl trm)))] s.heap.size = A at hD hst ⊢
  have hA : ∀ q : Nat, s.heap.size ≤ q → A q := fun q h => by rw [← hAe]; exact Or.inr h
  have hS : va_S A s.heap s.heap [] := va_S.rf
  have hl := lv_entry ([.ref h0, .int c0, .int a, .int b]) (n := 6) (Nat.le_of_ble_eq_true rfl)
  rw [lg_entry_eq]
  generalize (lg_sl ([.ref h0, .int c0, .int a, .int b]) ++ List.replicate (6 - (lg_sl ([.ref h0, .int c0, .int a, .int b])).length) Slot.unset).toArray = ls at hl ⊢
  have hl : lv_has ls 6 [(0, .ref h0), (1, .int c0), (2, .int a), (3, .int b)] := hl
  refine lv_iload_n hx hb d_MO_counted_0 rfl (lv_at hl 1 rfl) ?_
  refine lv_bipush (v := 14) hx hb d_MO_counted_1 (by decide) ?_
  refine lv_icmp_ge (tgt := 40) hx hb d_MO_counted_3 (by decide) (fun hb_1 => ?_) (fun hb_1 => ?_)
  · skip
    refine lv_iload_n hx hb d_MO_counted_40 rfl (lv_at hl 1 rfl) ?_
    refine lv_bipush (v := 14) hx hb d_MO_counted_41 (by decide) ?_
    refine lv_icmp_ne (tgt := 54) hx hb d_MO_counted_43 (by decide) (fun hb_2 => ?_) (fun hb_2 => ?_)
    · skip
      refine lv_iload_n hx hb d_MO_counted_54 rfl (lv_at hl 2 rfl) ?_
      refine lv_iload_n hx hb d_MO_counted_55 rfl (lv_at hl 3 rfl) ?_
      refine lv_icmp_ne (tgt := 64) hx hb d_MO_counted_56 (by decide) (fun hb_3 => ?_) (fun hb_3 => ?_)
      · skip
        refine lv_bipush (v := 22) hx hb d_MO_counted_64 (by decide) ?_
        refine W.callRL (W.runS (As := [.int 22]) (rest := []) ⟨hx, hb, hml, hown, hG⟩ (mo_constant l D cI cL cZ cC 22 ) (cwS 1 hG (gd_S k_1461 k_1462 k_116 k_1463) rfl rfl rfl (by decide +kernel) ⟨Nat.le_of_ble_eq_true rfl, Nat.le_of_ble_eq_true rfl⟩) (wq_S hP hK [] rfl) rfl rfl hl.1 rfl (lv_room (Nat.le_of_ble_eq_true rfl)) d_MO_counted_66 ⟨Nat.le_of_ble_eq_true rfl, Nat.le_of_ble_eq_true rfl⟩) ?_
        refine W.eq (g2 := F0 m 69 ls [.long (wof 2 22)]) rfl ?_
        refine lv_lstore (lv' := [(4, .long (wof 2 22)), (0, .ref h0), (1, .int c0), (2, .int a), (3, .int b)]) hx hb d_MO_counted_69 hl (Nat.le_of_ble_eq_true rfl) rfl (fun ls hl => ?_)
        refine lv_aload_n hx hb d_MO_counted_71 rfl (lv_at hl 1 rfl) ?_
        refine lv_iconst (v := 2) hx hb d_MO_counted_72 (by decide) ?_
        refine lv_iconst (v := 2) hx hb d_MO_counted_73 (by decide) ?_
        refine W.callRL (W.runS (As := [.int 2]) (rest := [.int 2, .ref h0]) ⟨hx, hb, hml, hown, hG⟩ (mo_constant l D cI cL cZ cC 2 ) (cwS 1 hG (gd_S k_1461 k_1462 k_116 k_1463) rfl rfl rfl (by decide +kernel) ⟨Nat.le_of_ble_eq_true rfl, Nat.le_of_ble_eq_true rfl⟩) (wq_S hP hK [] rfl) rfl rfl hl.1 rfl (lv_room (Nat.le_of_ble_eq_true rfl)) d_MO_counted_74 ⟨Nat.le_of_ble_eq_true rfl, Nat.le_of_ble_eq_true rfl⟩) ?_
        refine W.eq (g2 := F0 m 77 ls [.long (wof 2 2), .int 2, .ref h0]) rfl ?_
        refine lv_lload hx hb d_MO_counted_77 (lv_at hl 0 rfl) ?_
        refine em_call (wr := []) (em_runV (As := [.int (nI 2), .long (wof 2 2), .long (wof 2 22)]) (rest := []) ⟨hx, hb, hml, hown, hG⟩ (mo_overwrite l D cI cL cZ cC f h0 tn rm ln lx at_ bd fs dp on os bn df th tp mo_ ev ss so lk rs pt ot cl one two spn trm Gc 2 (wof 2 2) (wof 2 22) _ (by omega) (by omega) (by omega) hHG (okh_con 2 (by decide) (by decide)) (okh_con 22 (by decide) (by decide)) hsp hnt) (cwV 3 hG (gd_V k_1592 k_1594 k_94 k_116 k_1595) rfl rfl rfl (by decide +kernel) ⟨Nat.le_of_ble_eq_true rfl, Nat.le_of_ble_eq_true rfl⟩) (tw_V (q0 := 0) hP hD hK hE hst hS rfl rfl [0, 1, 2, 3, 4] rfl (by decide)) rfl rfl hl.1 rfl (lv_room (Nat.le_of_ble_eq_true rfl)) d_MO_counted_79 ⟨Nat.le_of_ble_eq_true rfl, Nat.le_of_ble_eq_true rfl⟩) hP hD hS hA [0, 1, 2, 3, 4] [] rfl rfl (by decide) (by decide) (fun v u H locs hok hP hD hS => ?_) (fun x C u H locs hbad hxx hP hD hS => ?_)
        · skip
          obtain ⟨tp_4, lk_5, ss_6, one_7, two_8⟩ := u
          obtain ⟨rfl, hp_10⟩ := hok
          obtain ⟨hHG_11, htp_12, hlk_13, hss_14⟩ : (HG df Gc trm one_7 two_8) ∧ (tp_4 + 2 = tp + 1) ∧ (lk_5 = (wof 2 2)) ∧ (ss_6 = ss + 1) := hp_10
          have hP : va_P D classes [(h0, .inr (8, mS f tn rm ln lx at_ bd fs dp on os bn df th tp_4 mo_ ev ss_6 so lk_5 rs pt ot cl)), ((f 20), .inl (cL, 400, .inr (.inl one_7))), ((f 21), .inl (cL, 400, .inr (.inl two_8))), ((f 24), .inl (cI, 150, .inl spn)), ((f 18), .inl (cL, 9, .inr (.inl trm)))] H := hP
          have hD : va_D A [(h0, .inr (8, mS f tn rm ln lx at_ bd fs dp on os bn df th tp_4 mo_ ev ss_6 so lk_5 rs pt ot cl)), ((f 20), .inl (cL, 400, .inr (.inl one_7))), ((f 21), .inl (cL, 400, .inr (.inl two_8))), ((f 24), .inl (cI, 150, .inl spn)), ((f 18), .inl (cL, 9, .inr (.inl trm)))] := hD
          refine W.eq (g2 := F0 m 82 ls []) rfl ?_
          exact em_vret hx hb hr hlocks hP hD hK hS (tp_4, lk_5, ss_6, one_7, two_8) [0, 1, 2, 3, 4] (by decide) rfl ⟨rfl, ⟨(show HG df Gc trm one_7 two_8 from hHG_11), (show tp_4 + 2 = tp + 1 from htp_12), (show okh df Gc lk_5 from (by rw [hlk_13]; exact okh_con 2 (by decide) (by decide))), (show ss_6 = ss + 1 from hss_14)⟩⟩ d_MO_counted_82
        · skip
          exact hbad.elim
      · skip
        refine lv_bipush (v := 21) hx hb d_MO_counted_59 (by decide) ?_
        refine lv_goto (tgt := 66) hx hb d_MO_counted_61 (by decide) ?_
        refine W.callRL (W.runS (As := [.int 21]) (rest := []) ⟨hx, hb, hml, hown, hG⟩ (mo_constant l D cI cL cZ cC 21 ) (cwS 1 hG (gd_S k_1461 k_1462 k_116 k_1463) rfl rfl rfl (by decide +kernel) ⟨Nat.le_of_ble_eq_true rfl, Nat.le_of_ble_eq_true rfl⟩) (wq_S hP hK [] rfl) rfl rfl hl.1 rfl (lv_room (Nat.le_of_ble_eq_true rfl)) d_MO_counted_66 ⟨Nat.le_of_ble_eq_true rfl, Nat.le_of_ble_eq_true rfl⟩) ?_
        refine W.eq (g2 := F0 m 69 ls [.long (wof 2 21)]) rfl ?_
        refine lv_lstore (lv' := [(4, .long (wof 2 21)), (0, .ref h0), (1, .int c0), (2, .int a), (3, .int b)]) hx hb d_MO_counted_69 hl (Nat.le_of_ble_eq_true rfl) rfl (fun ls hl => ?_)
        refine lv_aload_n hx hb d_MO_counted_71 rfl (lv_at hl 1 rfl) ?_
        refine lv_iconst (v := 2) hx hb d_MO_counted_72 (by decide) ?_
        refine lv_iconst (v := 2) hx hb d_MO_counted_73 (by decide) ?_
        refine W.callRL (W.runS (As := [.int 2]) (rest := [.int 2, .ref h0]) ⟨hx, hb, hml, hown, hG⟩ (mo_constant l D cI cL cZ cC 2 ) (cwS 1 hG (gd_S k_1461 k_1462 k_116 k_1463) rfl rfl rfl (by decide +kernel) ⟨Nat.le_of_ble_eq_true rfl, Nat.le_of_ble_eq_true rfl⟩) (wq_S hP hK [] rfl) rfl rfl hl.1 rfl (lv_room (Nat.le_of_ble_eq_true rfl)) d_MO_counted_74 ⟨Nat.le_of_ble_eq_true rfl, Nat.le_of_ble_eq_true rfl⟩) ?_
        refine W.eq (g2 := F0 m 77 ls [.long (wof 2 2), .int 2, .ref h0]) rfl ?_
        refine lv_lload hx hb d_MO_counted_77 (lv_at hl 0 rfl) ?_
        refine em_call (wr := []) (em_runV (As := [.int (nI 2), .long (wof 2 2), .long (wof 2 21)]) (rest := []) ⟨hx, hb, hml, hown, hG⟩ (mo_overwrite l D cI cL cZ cC f h0 tn rm ln lx at_ bd fs dp on os bn df th tp mo_ ev ss so lk rs pt ot cl one two spn trm Gc 2 (wof 2 2) (wof 2 21) _ (by omega) (by omega) (by omega) hHG (okh_con 2 (by decide) (by decide)) (okh_con 21 (by decide) (by decide)) hsp hnt) (cwV 3 hG (gd_V k_1592 k_1594 k_94 k_116 k_1595) rfl rfl rfl (by decide +kernel) ⟨Nat.le_of_ble_eq_true rfl, Nat.le_of_ble_eq_true rfl⟩) (tw_V (q0 := 0) hP hD hK hE hst hS rfl rfl [0, 1, 2, 3, 4] rfl (by decide)) rfl rfl hl.1 rfl (lv_room (Nat.le_of_ble_eq_true rfl)) d_MO_counted_79 ⟨Nat.le_of_ble_eq_true rfl, Nat.le_of_ble_eq_true rfl⟩) hP hD hS hA [0, 1, 2, 3, 4] [] rfl rfl (by decide) (by decide) (fun v u H locs hok hP hD hS => ?_) (fun x C u H locs hbad hxx hP hD hS => ?_)
        · skip
          obtain ⟨tp_16, lk_17, ss_18, one_19, two_20⟩ := u
          obtain ⟨rfl, hp_22⟩ := hok
          obtain ⟨hHG_23, htp_24, hlk_25, hss_26⟩ : (HG df Gc trm one_19 two_20) ∧ (tp_16 + 2 = tp + 1) ∧ (lk_17 = (wof 2 2)) ∧ (ss_18 = ss + 1) := hp_22
          have hP : va_P D classes [(h0, .inr (8, mS f tn rm ln lx at_ bd fs dp on os bn df th tp_16 mo_ ev ss_18 so lk_17 rs pt ot cl)), ((f 20), .inl (cL, 400, .inr (.inl one_19))), ((f 21), .inl (cL, 400, .inr (.inl two_20))), ((f 24), .inl (cI, 150, .inl spn)), ((f 18), .inl (cL, 9, .inr (.inl trm)))] H := hP
          have hD : va_D A [(h0, .inr (8, mS f tn rm ln lx at_ bd fs dp on os bn df th tp_16 mo_ ev ss_18 so lk_17 rs pt ot cl)), ((f 20), .inl (cL, 400, .inr (.inl one_19))), ((f 21), .inl (cL, 400, .inr (.inl two_20))), ((f 24), .inl (cI, 150, .inl spn)), ((f 18), .inl (cL, 9, .inr (.inl trm)))] := hD
          refine W.eq (g2 := F0 m 82 ls []) rfl ?_
          exact em_vret hx hb hr hlocks hP hD hK hS (tp_16, lk_17, ss_18, one_19, two_20) [0, 1, 2, 3, 4] (by decide) rfl ⟨rfl, ⟨(show HG df Gc trm one_19 two_20 from hHG_23), (show tp_16 + 2 = tp + 1 from htp_24), (show okh df Gc lk_17 from (by rw [hlk_25]; exact okh_con 2 (by decide) (by decide))), (show ss_18 = ss + 1 from hss_26)⟩⟩ d_MO_counted_82
        · skip
          exact hbad.elim
    · skip
      refine lv_iload_n hx hb d_MO_counted_46 rfl (lv_at hl 2 rfl) ?_
      refine lv_iload_n hx hb d_MO_counted_47 rfl (lv_at hl 3 rfl) ?_
      refine lv_icmp_ge (tgt := 64) hx hb d_MO_counted_48 (by decide) (fun hb_28 => ?_) (fun hb_28 => ?_)
      · skip
        refine lv_bipush (v := 22) hx hb d_MO_counted_64 (by decide) ?_
        refine W.callRL (W.runS (As := [.int 22]) (rest := []) ⟨hx, hb, hml, hown, hG⟩ (mo_constant l D cI cL cZ cC 22 ) (cwS 1 hG (gd_S k_1461 k_1462 k_116 k_1463) rfl rfl rfl (by decide +kernel) ⟨Nat.le_of_ble_eq_true rfl, Nat.le_of_ble_eq_true rfl⟩) (wq_S hP hK [] rfl) rfl rfl hl.1 rfl (lv_room (Nat.le_of_ble_eq_true rfl)) d_MO_counted_66 ⟨Nat.le_of_ble_eq_true rfl, Nat.le_of_ble_eq_true rfl⟩) ?_
        refine W.eq (g2 := F0 m 69 ls [.long (wof 2 22)]) rfl ?_
        refine lv_lstore (lv' := [(4, .long (wof 2 22)), (0, .ref h0), (1, .int c0), (2, .int a), (3, .int b)]) hx hb d_MO_counted_69 hl (Nat.le_of_ble_eq_true rfl) rfl (fun ls hl => ?_)
        refine lv_aload_n hx hb d_MO_counted_71 rfl (lv_at hl 1 rfl) ?_
        refine lv_iconst (v := 2) hx hb d_MO_counted_72 (by decide) ?_
        refine lv_iconst (v := 2) hx hb d_MO_counted_73 (by decide) ?_
        refine W.callRL (W.runS (As := [.int 2]) (rest := [.int 2, .ref h0]) ⟨hx, hb, hml, hown, hG⟩ (mo_constant l D cI cL cZ cC 2 ) (cwS 1 hG (gd_S k_1461 k_1462 k_116 k_1463) rfl rfl rfl (by decide +kernel) ⟨Nat.le_of_ble_eq_true rfl, Nat.le_of_ble_eq_true rfl⟩) (wq_S hP hK [] rfl) rfl rfl hl.1 rfl (lv_room (Nat.le_of_ble_eq_true rfl)) d_MO_counted_74 ⟨Nat.le_of_ble_eq_true rfl, Nat.le_of_ble_eq_true rfl⟩) ?_
        refine W.eq (g2 := F0 m 77 ls [.long (wof 2 2), .int 2, .ref h0]) rfl ?_
        refine lv_lload hx hb d_MO_counted_77 (lv_at hl 0 rfl) ?_
        refine em_call (wr := []) (em_runV (As := [.int (nI 2), .long (wof 2 2), .long (wof 2 22)]) (rest := []) ⟨hx, hb, hml, hown, hG⟩ (mo_overwrite l D cI cL cZ cC f h0 tn rm ln lx at_ bd fs dp on os bn df th tp mo_ ev ss so lk rs pt ot cl one two spn trm Gc 2 (wof 2 2) (wof 2 22) _ (by omega) (by omega) (by omega) hHG (okh_con 2 (by decide) (by decide)) (okh_con 22 (by decide) (by decide)) hsp hnt) (cwV 3 hG (gd_V k_1592 k_1594 k_94 k_116 k_1595) rfl rfl rfl (by decide +kernel) ⟨Nat.le_of_ble_eq_true rfl, Nat.le_of_ble_eq_true rfl⟩) (tw_V (q0 := 0) hP hD hK hE hst hS rfl rfl [0, 1, 2, 3, 4] rfl (by decide)) rfl rfl hl.1 rfl (lv_room (Nat.le_of_ble_eq_true rfl)) d_MO_counted_79 ⟨Nat.le_of_ble_eq_true rfl, Nat.le_of_ble_eq_true rfl⟩) hP hD hS hA [0, 1, 2, 3, 4] [] rfl rfl (by decide) (by decide) (fun v u H locs hok hP hD hS => ?_) (fun x C u H locs hbad hxx hP hD hS => ?_)
        · skip
          obtain ⟨tp_29, lk_30, ss_31, one_32, two_33⟩ := u
          obtain ⟨rfl, hp_35⟩ := hok
          obtain ⟨hHG_36, htp_37, hlk_38, hss_39⟩ : (HG df Gc trm one_32 two_33) ∧ (tp_29 + 2 = tp + 1) ∧ (lk_30 = (wof 2 2)) ∧ (ss_31 = ss + 1) := hp_35
          have hP : va_P D classes [(h0, .inr (8, mS f tn rm ln lx at_ bd fs dp on os bn df th tp_29 mo_ ev ss_31 so lk_30 rs pt ot cl)), ((f 20), .inl (cL, 400, .inr (.inl one_32))), ((f 21), .inl (cL, 400, .inr (.inl two_33))), ((f 24), .inl (cI, 150, .inl spn)), ((f 18), .inl (cL, 9, .inr (.inl trm)))] H := hP
          have hD : va_D A [(h0, .inr (8, mS f tn rm ln lx at_ bd fs dp on os bn df th tp_29 mo_ ev ss_31 so lk_30 rs pt ot cl)), ((f 20), .inl (cL, 400, .inr (.inl one_32))), ((f 21), .inl (cL, 400, .inr (.inl two_33))), ((f 24), .inl (cI, 150, .inl spn)), ((f 18), .inl (cL, 9, .inr (.inl trm)))] := hD
          refine W.eq (g2 := F0 m 82 ls []) rfl ?_
          exact em_vret hx hb hr hlocks hP hD hK hS (tp_29, lk_30, ss_31, one_32, two_33) [0, 1, 2, 3, 4] (by decide) rfl ⟨rfl, ⟨(show HG df Gc trm one_32 two_33 from hHG_36), (show tp_29 + 2 = tp + 1 from htp_37), (show okh df Gc lk_30 from (by rw [hlk_38]; exact okh_con 2 (by decide) (by decide))), (show ss_31 = ss + 1 from hss_39)⟩⟩ d_MO_counted_82
        · skip
          exact hbad.elim
      · skip
        refine lv_goto (tgt := 59) hx hb d_MO_counted_51 (by decide) ?_
        refine lv_bipush (v := 21) hx hb d_MO_counted_59 (by decide) ?_
        refine lv_goto (tgt := 66) hx hb d_MO_counted_61 (by decide) ?_
        refine W.callRL (W.runS (As := [.int 21]) (rest := []) ⟨hx, hb, hml, hown, hG⟩ (mo_constant l D cI cL cZ cC 21 ) (cwS 1 hG (gd_S k_1461 k_1462 k_116 k_1463) rfl rfl rfl (by decide +kernel) ⟨Nat.le_of_ble_eq_true rfl, Nat.le_of_ble_eq_true rfl⟩) (wq_S hP hK [] rfl) rfl rfl hl.1 rfl (lv_room (Nat.le_of_ble_eq_true rfl)) d_MO_counted_66 ⟨Nat.le_of_ble_eq_true rfl, Nat.le_of_ble_eq_true rfl⟩) ?_
        refine W.eq (g2 := F0 m 69 ls [.long (wof 2 21)]) rfl ?_
        refine lv_lstore (lv' := [(4, .long (wof 2 21)), (0, .ref h0), (1, .int c0), (2, .int a), (3, .int b)]) hx hb d_MO_counted_69 hl (Nat.le_of_ble_eq_true rfl) rfl (fun ls hl => ?_)
        refine lv_aload_n hx hb d_MO_counted_71 rfl (lv_at hl 1 rfl) ?_
        refine lv_iconst (v := 2) hx hb d_MO_counted_72 (by decide) ?_
        refine lv_iconst (v := 2) hx hb d_MO_counted_73 (by decide) ?_
        refine W.callRL (W.runS (As := [.int 2]) (rest := [.int 2, .ref h0]) ⟨hx, hb, hml, hown, hG⟩ (mo_constant l D cI cL cZ cC 2 ) (cwS 1 hG (gd_S k_1461 k_1462 k_116 k_1463) rfl rfl rfl (by decide +kernel) ⟨Nat.le_of_ble_eq_true rfl, Nat.le_of_ble_eq_true rfl⟩) (wq_S hP hK [] rfl) rfl rfl hl.1 rfl (lv_room (Nat.le_of_ble_eq_true rfl)) d_MO_counted_74 ⟨Nat.le_of_ble_eq_true rfl, Nat.le_of_ble_eq_true rfl⟩) ?_
        refine W.eq (g2 := F0 m 77 ls [.long (wof 2 2), .int 2, .ref h0]) rfl ?_
        refine lv_lload hx hb d_MO_counted_77 (lv_at hl 0 rfl) ?_
        refine em_call (wr := []) (em_runV (As := [.int (nI 2), .long (wof 2 2), .long (wof 2 21)]) (rest := []) ⟨hx, hb, hml, hown, hG⟩ (mo_overwrite l D cI cL cZ cC f h0 tn rm ln lx at_ bd fs dp on os bn df th tp mo_ ev ss so lk rs pt ot cl one two spn trm Gc 2 (wof 2 2) (wof 2 21) _ (by omega) (by omega) (by omega) hHG (okh_con 2 (by decide) (by decide)) (okh_con 21 (by decide) (by decide)) hsp hnt) (cwV 3 hG (gd_V k_1592 k_1594 k_94 k_116 k_1595) rfl rfl rfl (by decide +kernel) ⟨Nat.le_of_ble_eq_true rfl, Nat.le_of_ble_eq_true rfl⟩) (tw_V (q0 := 0) hP hD hK hE hst hS rfl rfl [0, 1, 2, 3, 4] rfl (by decide)) rfl rfl hl.1 rfl (lv_room (Nat.le_of_ble_eq_true rfl)) d_MO_counted_79 ⟨Nat.le_of_ble_eq_true rfl, Nat.le_of_ble_eq_true rfl⟩) hP hD hS hA [0, 1, 2, 3, 4] [] rfl rfl (by decide) (by decide) (fun v u H locs hok hP hD hS => ?_) (fun x C u H locs hbad hxx hP hD hS => ?_)
        · skip
          obtain ⟨tp_41, lk_42, ss_43, one_44, two_45⟩ := u
          obtain ⟨rfl, hp_47⟩ := hok
          obtain ⟨hHG_48, htp_49, hlk_50, hss_51⟩ : (HG df Gc trm one_44 two_45) ∧ (tp_41 + 2 = tp + 1) ∧ (lk_42 = (wof 2 2)) ∧ (ss_43 = ss + 1) := hp_47
          have hP : va_P D classes [(h0, .inr (8, mS f tn rm ln lx at_ bd fs dp on os bn df th tp_41 mo_ ev ss_43 so lk_42 rs pt ot cl)), ((f 20), .inl (cL, 400, .inr (.inl one_44))), ((f 21), .inl (cL, 400, .inr (.inl two_45))), ((f 24), .inl (cI, 150, .inl spn)), ((f 18), .inl (cL, 9, .inr (.inl trm)))] H := hP
          have hD : va_D A [(h0, .inr (8, mS f tn rm ln lx at_ bd fs dp on os bn df th tp_41 mo_ ev ss_43 so lk_42 rs pt ot cl)), ((f 20), .inl (cL, 400, .inr (.inl one_44))), ((f 21), .inl (cL, 400, .inr (.inl two_45))), ((f 24), .inl (cI, 150, .inl spn)), ((f 18), .inl (cL, 9, .inr (.inl trm)))] := hD
          refine W.eq (g2 := F0 m 82 ls []) rfl ?_
          exact em_vret hx hb hr hlocks hP hD hK hS (tp_41, lk_42, ss_43, one_44, two_45) [0, 1, 2, 3, 4] (by decide) rfl ⟨rfl, ⟨(show HG df Gc trm one_44 two_45 from hHG_48), (show tp_41 + 2 = tp + 1 from htp_49), (show okh df Gc lk_42 from (by rw [hlk_50]; exact okh_con 2 (by decide) (by decide))), (show ss_43 = ss + 1 from hss_51)⟩⟩ d_MO_counted_82
        · skip
          exact hbad.elim
  · skip
    refine lv_iconst (v := 0) hx hb d_MO_counted_6 (by decide) ?_
    refine lv_iload_n hx hb d_MO_counted_7 rfl (lv_at hl 1 rfl) ?_
    refine lv_bipush (v := 11) hx hb d_MO_counted_8 (by decide) ?_
    refine lv_icmp_ne (tgt := 19) hx hb d_MO_counted_10 (by decide) (fun hb_53 => ?_) (fun hb_53 => ?_)
    · skip
      refine lv_iload_n hx hb d_MO_counted_19 rfl (lv_at hl 1 rfl) ?_
      refine lv_bipush (v := 12) hx hb d_MO_counted_20 (by decide) ?_
      refine lv_icmp_ne (tgt := 31) hx hb d_MO_counted_22 (by decide) (fun hb_54 => ?_) (fun hb_54 => ?_)
      · skip
        refine lv_iload_n hx hb d_MO_counted_31 rfl (lv_at hl 2 rfl) ?_
        refine lv_iload_n hx hb d_MO_counted_32 rfl (lv_at hl 3 rfl) ?_
        refine lv_imul hx hb d_MO_counted_33 ?_
        refine W.callRL (W.runS (As := [.int 0, .int (a * b)]) (rest := []) ⟨hx, hb, hml, hown, hG⟩ (mo_term l D cI cL cZ cC 0 (a * b) ) (cwS 2 hG (gd_S k_1445 k_1446 k_116 k_1447) rfl rfl rfl (by decide +kernel) ⟨Nat.le_of_ble_eq_true rfl, Nat.le_of_ble_eq_true rfl⟩) (wq_S hP hK [] rfl) rfl rfl hl.1 rfl (lv_room (Nat.le_of_ble_eq_true rfl)) d_MO_counted_34 ⟨Nat.le_of_ble_eq_true rfl, Nat.le_of_ble_eq_true rfl⟩) ?_
        refine W.eq (g2 := F0 m 37 ls [.long (wof 0 (a * b))]) rfl ?_
        refine lv_goto (tgt := 69) hx hb d_MO_counted_37 (by decide) ?_
        refine lv_lstore (lv' := [(4, .long (wof 0 (a * b))), (0, .ref h0), (1, .int c0), (2, .int a), (3, .int b)]) hx hb d_MO_counted_69 hl (Nat.le_of_ble_eq_true rfl) rfl (fun ls hl => ?_)
        refine lv_aload_n hx hb d_MO_counted_71 rfl (lv_at hl 1 rfl) ?_
        refine lv_iconst (v := 2) hx hb d_MO_counted_72 (by decide) ?_
        refine lv_iconst (v := 2) hx hb d_MO_counted_73 (by decide) ?_
        refine W.callRL (W.runS (As := [.int 2]) (rest := [.int 2, .ref h0]) ⟨hx, hb, hml, hown, hG⟩ (mo_constant l D cI cL cZ cC 2 ) (cwS 1 hG (gd_S k_1461 k_1462 k_116 k_1463) rfl rfl rfl (by decide +kernel) ⟨Nat.le_of_ble_eq_true rfl, Nat.le_of_ble_eq_true rfl⟩) (wq_S hP hK [] rfl) rfl rfl hl.1 rfl (lv_room (Nat.le_of_ble_eq_true rfl)) d_MO_counted_74 ⟨Nat.le_of_ble_eq_true rfl, Nat.le_of_ble_eq_true rfl⟩) ?_
        refine W.eq (g2 := F0 m 77 ls [.long (wof 2 2), .int 2, .ref h0]) rfl ?_
        refine lv_lload hx hb d_MO_counted_77 (lv_at hl 0 rfl) ?_
        refine em_call (wr := []) (em_runV (As := [.int (nI 2), .long (wof 2 2), .long (wof 0 (a * b))]) (rest := []) ⟨hx, hb, hml, hown, hG⟩ (mo_overwrite l D cI cL cZ cC f h0 tn rm ln lx at_ bd fs dp on os bn df th tp mo_ ev ss so lk rs pt ot cl one two spn trm Gc 2 (wof 2 2) (wof 0 (a * b)) _ (by omega) (by omega) (by omega) hHG (okh_con 2 (by decide) (by decide)) (okh_num _) hsp hnt) (cwV 3 hG (gd_V k_1592 k_1594 k_94 k_116 k_1595) rfl rfl rfl (by decide +kernel) ⟨Nat.le_of_ble_eq_true rfl, Nat.le_of_ble_eq_true rfl⟩) (tw_V (q0 := 0) hP hD hK hE hst hS rfl rfl [0, 1, 2, 3, 4] rfl (by decide)) rfl rfl hl.1 rfl (lv_room (Nat.le_of_ble_eq_true rfl)) d_MO_counted_79 ⟨Nat.le_of_ble_eq_true rfl, Nat.le_of_ble_eq_true rfl⟩) hP hD hS hA [0, 1, 2, 3, 4] [] rfl rfl (by decide) (by decide) (fun v u H locs hok hP hD hS => ?_) (fun x C u H locs hbad hxx hP hD hS => ?_)
        · skip
          obtain ⟨tp_55, lk_56, ss_57, one_58, two_59⟩ := u
          obtain ⟨rfl, hp_61⟩ := hok
          obtain ⟨hHG_62, htp_63, hlk_64, hss_65⟩ : (HG df Gc trm one_58 two_59) ∧ (tp_55 + 2 = tp + 1) ∧ (lk_56 = (wof 2 2)) ∧ (ss_57 = ss + 1) := hp_61
          have hP : va_P D classes [(h0, .inr (8, mS f tn rm ln lx at_ bd fs dp on os bn df th tp_55 mo_ ev ss_57 so lk_56 rs pt ot cl)), ((f 20), .inl (cL, 400, .inr (.inl one_58))), ((f 21), .inl (cL, 400, .inr (.inl two_59))), ((f 24), .inl (cI, 150, .inl spn)), ((f 18), .inl (cL, 9, .inr (.inl trm)))] H := hP
          have hD : va_D A [(h0, .inr (8, mS f tn rm ln lx at_ bd fs dp on os bn df th tp_55 mo_ ev ss_57 so lk_56 rs pt ot cl)), ((f 20), .inl (cL, 400, .inr (.inl one_58))), ((f 21), .inl (cL, 400, .inr (.inl two_59))), ((f 24), .inl (cI, 150, .inl spn)), ((f 18), .inl (cL, 9, .inr (.inl trm)))] := hD
          refine W.eq (g2 := F0 m 82 ls []) rfl ?_
          exact em_vret hx hb hr hlocks hP hD hK hS (tp_55, lk_56, ss_57, one_58, two_59) [0, 1, 2, 3, 4] (by decide) rfl ⟨rfl, ⟨(show HG df Gc trm one_58 two_59 from hHG_62), (show tp_55 + 2 = tp + 1 from htp_63), (show okh df Gc lk_56 from (by rw [hlk_64]; exact okh_con 2 (by decide) (by decide))), (show ss_57 = ss + 1 from hss_65)⟩⟩ d_MO_counted_82
        · skip
          exact hbad.elim
      · skip
        refine lv_iload_n hx hb d_MO_counted_25 rfl (lv_at hl 2 rfl) ?_
        refine lv_iload_n hx hb d_MO_counted_26 rfl (lv_at hl 3 rfl) ?_
        refine lv_isub hx hb d_MO_counted_27 ?_
        refine lv_goto (tgt := 34) hx hb d_MO_counted_28 (by decide) ?_
        refine W.callRL (W.runS (As := [.int 0, .int (a - b)]) (rest := []) ⟨hx, hb, hml, hown, hG⟩ (mo_term l D cI cL cZ cC 0 (a - b) ) (cwS 2 hG (gd_S k_1445 k_1446 k_116 k_1447) rfl rfl rfl (by decide +kernel) ⟨Nat.le_of_ble_eq_true rfl, Nat.le_of_ble_eq_true rfl⟩) (wq_S hP hK [] rfl) rfl rfl hl.1 rfl (lv_room (Nat.le_of_ble_eq_true rfl)) d_MO_counted_34 ⟨Nat.le_of_ble_eq_true rfl, Nat.le_of_ble_eq_true rfl⟩) ?_
        refine W.eq (g2 := F0 m 37 ls [.long (wof 0 (a - b))]) rfl ?_
        refine lv_goto (tgt := 69) hx hb d_MO_counted_37 (by decide) ?_
        refine lv_lstore (lv' := [(4, .long (wof 0 (a - b))), (0, .ref h0), (1, .int c0), (2, .int a), (3, .int b)]) hx hb d_MO_counted_69 hl (Nat.le_of_ble_eq_true rfl) rfl (fun ls hl => ?_)
        refine lv_aload_n hx hb d_MO_counted_71 rfl (lv_at hl 1 rfl) ?_
        refine lv_iconst (v := 2) hx hb d_MO_counted_72 (by decide) ?_
        refine lv_iconst (v := 2) hx hb d_MO_counted_73 (by decide) ?_
        refine W.callRL (W.runS (As := [.int 2]) (rest := [.int 2, .ref h0]) ⟨hx, hb, hml, hown, hG⟩ (mo_constant l D cI cL cZ cC 2 ) (cwS 1 hG (gd_S k_1461 k_1462 k_116 k_1463) rfl rfl rfl (by decide +kernel) ⟨Nat.le_of_ble_eq_true rfl, Nat.le_of_ble_eq_true rfl⟩) (wq_S hP hK [] rfl) rfl rfl hl.1 rfl (lv_room (Nat.le_of_ble_eq_true rfl)) d_MO_counted_74 ⟨Nat.le_of_ble_eq_true rfl, Nat.le_of_ble_eq_true rfl⟩) ?_
        refine W.eq (g2 := F0 m 77 ls [.long (wof 2 2), .int 2, .ref h0]) rfl ?_
        refine lv_lload hx hb d_MO_counted_77 (lv_at hl 0 rfl) ?_
        refine em_call (wr := []) (em_runV (As := [.int (nI 2), .long (wof 2 2), .long (wof 0 (a - b))]) (rest := []) ⟨hx, hb, hml, hown, hG⟩ (mo_overwrite l D cI cL cZ cC f h0 tn rm ln lx at_ bd fs dp on os bn df th tp mo_ ev ss so lk rs pt ot cl one two spn trm Gc 2 (wof 2 2) (wof 0 (a - b)) _ (by omega) (by omega) (by omega) hHG (okh_con 2 (by decide) (by decide)) (okh_num _) hsp hnt) (cwV 3 hG (gd_V k_1592 k_1594 k_94 k_116 k_1595) rfl rfl rfl (by decide +kernel) ⟨Nat.le_of_ble_eq_true rfl, Nat.le_of_ble_eq_true rfl⟩) (tw_V (q0 := 0) hP hD hK hE hst hS rfl rfl [0, 1, 2, 3, 4] rfl (by decide)) rfl rfl hl.1 rfl (lv_room (Nat.le_of_ble_eq_true rfl)) d_MO_counted_79 ⟨Nat.le_of_ble_eq_true rfl, Nat.le_of_ble_eq_true rfl⟩) hP hD hS hA [0, 1, 2, 3, 4] [] rfl rfl (by decide) (by decide) (fun v u H locs hok hP hD hS => ?_) (fun x C u H locs hbad hxx hP hD hS => ?_)
        · skip
          obtain ⟨tp_67, lk_68, ss_69, one_70, two_71⟩ := u
          obtain ⟨rfl, hp_73⟩ := hok
          obtain ⟨hHG_74, htp_75, hlk_76, hss_77⟩ : (HG df Gc trm one_70 two_71) ∧ (tp_67 + 2 = tp + 1) ∧ (lk_68 = (wof 2 2)) ∧ (ss_69 = ss + 1) := hp_73
          have hP : va_P D classes [(h0, .inr (8, mS f tn rm ln lx at_ bd fs dp on os bn df th tp_67 mo_ ev ss_69 so lk_68 rs pt ot cl)), ((f 20), .inl (cL, 400, .inr (.inl one_70))), ((f 21), .inl (cL, 400, .inr (.inl two_71))), ((f 24), .inl (cI, 150, .inl spn)), ((f 18), .inl (cL, 9, .inr (.inl trm)))] H := hP
          have hD : va_D A [(h0, .inr (8, mS f tn rm ln lx at_ bd fs dp on os bn df th tp_67 mo_ ev ss_69 so lk_68 rs pt ot cl)), ((f 20), .inl (cL, 400, .inr (.inl one_70))), ((f 21), .inl (cL, 400, .inr (.inl two_71))), ((f 24), .inl (cI, 150, .inl spn)), ((f 18), .inl (cL, 9, .inr (.inl trm)))] := hD
          refine W.eq (g2 := F0 m 82 ls []) rfl ?_
          exact em_vret hx hb hr hlocks hP hD hK hS (tp_67, lk_68, ss_69, one_70, two_71) [0, 1, 2, 3, 4] (by decide) rfl ⟨rfl, ⟨(show HG df Gc trm one_70 two_71 from hHG_74), (show tp_67 + 2 = tp + 1 from htp_75), (show okh df Gc lk_68 from (by rw [hlk_76]; exact okh_con 2 (by decide) (by decide))), (show ss_69 = ss + 1 from hss_77)⟩⟩ d_MO_counted_82
        · skip
          exact hbad.elim
    · skip
      refine lv_iload_n hx hb d_MO_counted_13 rfl (lv_at hl 2 rfl) ?_
      refine lv_iload_n hx hb d_MO_counted_14 rfl (lv_at hl 3 rfl) ?_
      refine lv_iadd hx hb d_MO_counted_15 ?_
      refine lv_goto (tgt := 34) hx hb d_MO_counted_16 (by decide) ?_
      refine W.callRL (W.runS (As := [.int 0, .int (a + b)]) (rest := []) ⟨hx, hb, hml, hown, hG⟩ (mo_term l D cI cL cZ cC 0 (a + b) ) (cwS 2 hG (gd_S k_1445 k_1446 k_116 k_1447) rfl rfl rfl (by decide +kernel) ⟨Nat.le_of_ble_eq_true rfl, Nat.le_of_ble_eq_true rfl⟩) (wq_S hP hK [] rfl) rfl rfl hl.1 rfl (lv_room (Nat.le_of_ble_eq_true rfl)) d_MO_counted_34 ⟨Nat.le_of_ble_eq_true rfl, Nat.le_of_ble_eq_true rfl⟩) ?_
      refine W.eq (g2 := F0 m 37 ls [.long (wof 0 (a + b))]) rfl ?_
      refine lv_goto (tgt := 69) hx hb d_MO_counted_37 (by decide) ?_
      refine lv_lstore (lv' := [(4, .long (wof 0 (a + b))), (0, .ref h0), (1, .int c0), (2, .int a), (3, .int b)]) hx hb d_MO_counted_69 hl (Nat.le_of_ble_eq_true rfl) rfl (fun ls hl => ?_)
      refine lv_aload_n hx hb d_MO_counted_71 rfl (lv_at hl 1 rfl) ?_
      refine lv_iconst (v := 2) hx hb d_MO_counted_72 (by decide) ?_
      refine lv_iconst (v := 2) hx hb d_MO_counted_73 (by decide) ?_
      refine W.callRL (W.runS (As := [.int 2]) (rest := [.int 2, .ref h0]) ⟨hx, hb, hml, hown, hG⟩ (mo_constant l D cI cL cZ cC 2 ) (cwS 1 hG (gd_S k_1461 k_1462 k_116 k_1463) rfl rfl rfl (by decide +kernel) ⟨Nat.le_of_ble_eq_true rfl, Nat.le_of_ble_eq_true rfl⟩) (wq_S hP hK [] rfl) rfl rfl hl.1 rfl (lv_room (Nat.le_of_ble_eq_true rfl)) d_MO_counted_74 ⟨Nat.le_of_ble_eq_true rfl, Nat.le_of_ble_eq_true rfl⟩) ?_
      refine W.eq (g2 := F0 m 77 ls [.long (wof 2 2), .int 2, .ref h0]) rfl ?_
      refine lv_lload hx hb d_MO_counted_77 (lv_at hl 0 rfl) ?_
      refine em_call (wr := []) (em_runV (As := [.int (nI 2), .long (wof 2 2), .long (wof 0 (a + b))]) (rest := []) ⟨hx, hb, hml, hown, hG⟩ (mo_overwrite l D cI cL cZ cC f h0 tn rm ln lx at_ bd fs dp on os bn df th tp mo_ ev ss so lk rs pt ot cl one two spn trm Gc 2 (wof 2 2) (wof 0 (a + b)) _ (by omega) (by omega) (by omega) hHG (okh_con 2 (by decide) (by decide)) (okh_num _) hsp hnt) (cwV 3 hG (gd_V k_1592 k_1594 k_94 k_116 k_1595) rfl rfl rfl (by decide +kernel) ⟨Nat.le_of_ble_eq_true rfl, Nat.le_of_ble_eq_true rfl⟩) (tw_V (q0 := 0) hP hD hK hE hst hS rfl rfl [0, 1, 2, 3, 4] rfl (by decide)) rfl rfl hl.1 rfl (lv_room (Nat.le_of_ble_eq_true rfl)) d_MO_counted_79 ⟨Nat.le_of_ble_eq_true rfl, Nat.le_of_ble_eq_true rfl⟩) hP hD hS hA [0, 1, 2, 3, 4] [] rfl rfl (by decide) (by decide) (fun v u H locs hok hP hD hS => ?_) (fun x C u H locs hbad hxx hP hD hS => ?_)
      · skip
        obtain ⟨tp_79, lk_80, ss_81, one_82, two_83⟩ := u
        obtain ⟨rfl, hp_85⟩ := hok
        obtain ⟨hHG_86, htp_87, hlk_88, hss_89⟩ : (HG df Gc trm one_82 two_83) ∧ (tp_79 + 2 = tp + 1) ∧ (lk_80 = (wof 2 2)) ∧ (ss_81 = ss + 1) := hp_85
        have hP : va_P D classes [(h0, .inr (8, mS f tn rm ln lx at_ bd fs dp on os bn df th tp_79 mo_ ev ss_81 so lk_80 rs pt ot cl)), ((f 20), .inl (cL, 400, .inr (.inl one_82))), ((f 21), .inl (cL, 400, .inr (.inl two_83))), ((f 24), .inl (cI, 150, .inl spn)), ((f 18), .inl (cL, 9, .inr (.inl trm)))] H := hP
        have hD : va_D A [(h0, .inr (8, mS f tn rm ln lx at_ bd fs dp on os bn df th tp_79 mo_ ev ss_81 so lk_80 rs pt ot cl)), ((f 20), .inl (cL, 400, .inr (.inl one_82))), ((f 21), .inl (cL, 400, .inr (.inl two_83))), ((f 24), .inl (cI, 150, .inl spn)), ((f 18), .inl (cL, 9, .inr (.inl trm)))] := hD
        refine W.eq (g2 := F0 m 82 ls []) rfl ?_
        exact em_vret hx hb hr hlocks hP hD hK hS (tp_79, lk_80, ss_81, one_82, two_83) [0, 1, 2, 3, 4] (by decide) rfl ⟨rfl, ⟨(show HG df Gc trm one_82 two_83 from hHG_86), (show tp_79 + 2 = tp + 1 from htp_87), (show okh df Gc lk_80 from (by rw [hlk_88]; exact okh_con 2 (by decide) (by decide))), (show ss_81 = ss + 1 from hss_89)⟩⟩ d_MO_counted_82
      · skip
        exact hbad.elim
set_option maxHeartbeats 8000000 in
set_option maxRecDepth 100000 in
theorem mo_goes00 (l : Launch) (D : va_G) (cI cL cZ cC : ClassId) (f : Nat → Nat) (h0 : Nat) (tn : Int32) (rm : Nat) (ln : Nat) (lx : Nat) (at_ : Nat) (bd : Int32) (fs : Nat) (dp : Nat) (on : Nat) (os : Nat) (bn : Nat) (df : Nat) (th : Int32) (tp : Nat) (mo_ : Int32) (ev : Nat) (ss : Int32) (so : Int32) (lk : Int64) (rs : Int64) (pt : Int32) (ot : Nat) (cl : Int32) (one : Nat → Int64) (two : Nat → Int64) (bss : Nat → Int32) (wts : Nat → Int32) (snd : Nat → Int32) (nbr : Nat → Int32) (spn : Nat → Int32) (trm : Nat → Int64) (Gc : Nat → Prop) (mb : Nat) (v : Int64) (x : Int64) (y : Int64) (sz : Nat) (hsnd : bln snd) (hMI : MI df Gc trm one two spn tp lk rs pt) (hv : okh df Gc v) (hev1 : 1 ≤ ev) (hev2 : ev ≤ 40) (hm1 : mb ≤ tp) (hm3 : bss (ev - 1) = nI mb) (hm4 : me bss wts ev mb 0) (hnt : l.stackTraces = false) : em_Met l y_MO_goesOn (wz y_MO_goesOn b_MO_goesOn 11 none) ({ frames := 3, cells := 0, slots := 0, locals := 66 }) (va_Pc [.ref h0, .long v, .int 0, .long x, .long y, .int 0] (tw_pre D (tys4 cI cL cZ cC) [(h0, .inr (8, mS f tn rm ln lx at_ bd fs dp on os bn df th tp mo_ ev ss so lk rs pt ot cl)), ((f 20), .inl (cL, 400, .inr (.inl one))), ((f 21), .inl (cL, 400, .inr (.inl two))), ((f 25), .inl (cI, 41, .inl bss)), ((f 26), .inl (cI, 41, .inl wts)), ((f 27), .inl (cZ, 41, .inl snd)), ((f 28), .inl (cI, 41, .inl nbr)), ((f 24), .inl (cI, 150, .inl spn)), ((f 18), .inl (cL, 9, .inr (.inl trm)))] sz)) D (tys4 cI cL cZ cC) (va_A [(h0, .inr (8, mS f tn rm ln lx at_ bd fs dp on os bn df th tp mo_ ev ss so lk rs pt ot cl)), ((f 20), .inl (cL, 400, .inr (.inl one))), ((f 21), .inl (cL, 400, .inr (.inl two))), ((f 25), .inl (cI, 41, .inl bss)), ((f 26), .inl (cI, 41, .inl wts)), ((f 27), .inl (cZ, 41, .inl snd)), ((f 28), .inl (cI, 41, .inl nbr)), ((f 24), .inl (cI, 150, .inl spn)), ((f 18), .inl (cL, 9, .inr (.inl trm)))] sz) (fun (u : Nat × Nat × Int64 × Int32 × Int32 × (Nat → Int64) × (Nat → Int64) × (Nat → Int32) × (Nat → Int32) × (Nat → Int32) × (Nat → Int32)) => [(h0, .inr (8, mS f tn rm ln lx at_ bd fs dp on os bn df th u.2.1 mo_ u.1 u.2.2.2.1 u.2.2.2.2.1 u.2.2.1 rs pt ot cl)), ((f 20), .inl (cL, 400, .inr (.inl u.2.2.2.2.2.1))), ((f 21), .inl (cL, 400, .inr (.inl u.2.2.2.2.2.2.1))), ((f 25), .inl (cI, 41, .inl u.2.2.2.2.2.2.2.1)), ((f 26), .inl (cI, 41, .inl u.2.2.2.2.2.2.2.2.1)), ((f 27), .inl (cZ, 41, .inl u.2.2.2.2.2.2.2.2.2.1)), ((f 28), .inl (cI, 41, .inl u.2.2.2.2.2.2.2.2.2.2)), ((f 24), .inl (cI, 150, .inl spn)), ((f 18), .inl (cL, 9, .inr (.inl trm)))]) (fun v (u : Nat × Nat × Int64 × Int32 × Int32 × (Nat → Int64) × (Nat → Int64) × (Nat → Int32) × (Nat → Int32) × (Nat → Int32) × (Nat → Int32)) => v = none ∧ ((bln u.2.2.2.2.2.2.2.2.2.1) ∧ (MI df Gc trm u.2.2.2.2.2.1 u.2.2.2.2.2.2.1 spn u.2.1 u.2.2.1 rs pt) ∧ (u.1 ≤ 40) ∧ (me u.2.2.2.2.2.2.2.1 u.2.2.2.2.2.2.2.2.1 u.1 u.2.1 0) ∧ (((u.2.2.2.1 = ss + 1 ∧ u.2.2.2.2.1 = so) ∨ (u.2.2.2.1 = ss ∧ ¬ u.2.2.2.2.1 = 0) ∨ (u.2.2.2.1 = ss ∧ u.2.2.2.2.1 = so ∧ u.1 = ev ∧ fz u.2.2.2.2.2.2.2.2.2.1 u.1 + 1 = fz snd ev))))) (fun C (u : Nat × Nat × Int64 × Int32 × Int32 × (Nat → Int64) × (Nat → Int64) × (Nat → Int32) × (Nat → Int32) × (Nat → Int32) × (Nat → Int32)) => False) 0 0 := by
  refine em_Met.ofW (cc := b_MO_goesOn) (maxL := 11) (ret := none) (by decide) rfl ?_
  intro p e s m args below meth c s₁ B hml hv hno
  obtain ⟨rfl, ⟨hsz, hP, hK, hD0⟩, hE⟩ := hv
  have hx := B.exec
  have hb := B.bytes
  have hr := B.returns
  have hts := atoms_spec (ws := wz y_MO_goesOn b_MO_goesOn 11 none) B.pre
  have hG := wz_G hts
  have hown : s.vm.findClass rn_MO = some m.cls := findClass_of_methodNamed B.named
  have hlocks := B.notSynchronized
  subst hsz
  have hD := hD0.self (sz := s.heap.size)
  have hst := tw_st hP
  generalize hAe : va_A [(h0, .inr (8, mS f tn rm ln lx at_ bd fs dp on os bn df th tp mo_ ev ss so lk rs pt ot cl)), ((f 20), .inl (cL, 400, .inr (.inl one))), ((f 21), .inl (cL, 400, .inr (.inl two))), ((f 25), .inl (cI, 41, .inl bss)), ((f 26), .inl (cI, 41, .inl wts)), ((f 27), .inl (cZ, 41, .inl snd)), ((f 28), .inl (cI, 41, .inl nbr)), ((f 24), .inl (cI, 150, .inl spn)), ((f 18), .inl (cL, 9, .inr (.inl trm)))] s.heap.size = A at hD hst ⊢
  have hA : ∀ q : Nat, s.heap.size ≤ q → A q := fun q h => by rw [← hAe]; exact Or.inr h
  have hS : va_S A s.heap s.heap [] := va_S.rf
  have hl := lv_entry ([.ref h0, .long v, .int 0, .long x, .long y, .int 0]) (n := 11) (Nat.le_of_ble_eq_true rfl)
  rw [lg_entry_eq]
  generalize (lg_sl ([.ref h0, .long v, .int 0, .long x, .long y, .int 0]) ++ List.replicate (11 - (lg_sl ([.ref h0, .long v, .int 0, .long x, .long y, .int 0])).length) Slot.unset).toArray = ls at hl ⊢
  have hl : lv_has ls 11 [(0, .ref h0), (1, .long v), (3, .int 0), (4, .long x), (6, .long y), (8, .int 0)] := hl
  obtain ⟨hHG, hlk, hrs, htp, hsp⟩ := id hMI
  obtain ⟨wa, ewa, hw1, hw2, hw3, hw4, hsl⟩ := hm4.pop hm3 (by omega) hev1
  have hnd := nd_or wa
  have hle := hsl.le
  have hsp2 : ∀ k, k < mb → ∃ c : Nat, Gc c ∧ spn k = nI c := fun k hk => hsp k (by omega)
  refine lv_aload_n hx hb d_MO_goesOn_0 rfl (lv_at hl 0 rfl) ?_
  refine lv_dup hx hb d_MO_goesOn_1 rfl ?_
  refine va_get (D := D) (ci := 8) (v := .int (nI ev)) (C := rn_MO) (T := fl_MO) (N := 55) hx hb hG in_MO hown hK hP 0 rfl rfl 40 (by decide) (hG _ k_1231) (fun _ h9 => h9) rfl d_MO_goesOn_2 ?_
  refine lv_iconst (v := 1) hx hb d_MO_goesOn_5 (by decide) ?_
  refine lw_isub (a := ev) (b := 1) hx hb d_MO_goesOn_6 (by omega) ?_
  refine va_put (D := D) (ci := 8) (v := .int (nI (ev - 1))) (ty := .int) (C := rn_MO) (T := fl_MO) (N := 55) hx hb hG in_MO tt_MO tk_MO nn_MO hown hK hP hD hS 0 rfl rfl 40 (by decide) (hG _ k_1231) (fun _ h9 => h9) rfl (by decide +kernel) rfl rfl (Nat.le_of_ble_eq_true rfl) d_MO_goesOn_7 (fun H locs hP hD hS => ?_)
  have hP : va_P D classes [(h0, .inr (8, mS f tn rm ln lx at_ bd fs dp on os bn df th tp mo_ (ev - 1) ss so lk rs pt ot cl)), ((f 20), .inl (cL, 400, .inr (.inl one))), ((f 21), .inl (cL, 400, .inr (.inl two))), ((f 25), .inl (cI, 41, .inl bss)), ((f 26), .inl (cI, 41, .inl wts)), ((f 27), .inl (cZ, 41, .inl snd)), ((f 28), .inl (cI, 41, .inl nbr)), ((f 24), .inl (cI, 150, .inl spn)), ((f 18), .inl (cL, 9, .inr (.inl trm)))] H := hP
  have hD : va_D A [(h0, .inr (8, mS f tn rm ln lx at_ bd fs dp on os bn df th tp mo_ (ev - 1) ss so lk rs pt ot cl)), ((f 20), .inl (cL, 400, .inr (.inl one))), ((f 21), .inl (cL, 400, .inr (.inl two))), ((f 25), .inl (cI, 41, .inl bss)), ((f 26), .inl (cI, 41, .inl wts)), ((f 27), .inl (cZ, 41, .inl snd)), ((f 28), .inl (cI, 41, .inl nbr)), ((f 24), .inl (cI, 150, .inl spn)), ((f 18), .inl (cL, 9, .inr (.inl trm)))] := hD
  refine lv_aload_n hx hb d_MO_goesOn_10 rfl (lv_at hl 0 rfl) ?_
  refine lv_aload_n hx hb d_MO_goesOn_11 rfl (lv_at hl 0 rfl) ?_
  refine va_get (D := D) (ci := 8) (v := .ref (f 25)) (C := rn_MO) (T := fl_MO) (N := 55) hx hb hG in_MO hown hK hP 0 rfl rfl 43 (by decide) (hG _ k_1234) (fun _ h9 => h9) rfl d_MO_goesOn_12 ?_
  refine lv_aload_n hx hb d_MO_goesOn_15 rfl (lv_at hl 0 rfl) ?_
  refine va_get (D := D) (ci := 8) (v := .int (nI (ev - 1))) (C := rn_MO) (T := fl_MO) (N := 55) hx hb hG in_MO hown hK hP 0 rfl rfl 40 (by decide) (hG _ k_1231) (fun _ h9 => h9) rfl d_MO_goesOn_16 ?_
  refine va_iald hx hb hK hP 3 0 rfl rfl (vp_in_nI (n := ev - 1) (N := 41) (by omega) (by omega)) d_MO_goesOn_19 ?_
  refine W.eq (g2 := F0 m 20 ls [.int (nI mb), .ref h0]) (by rw [nI_clamp (n := ev - 1) (by omega)]; rw [hm3]) ?_
  refine va_put (D := D) (ci := 8) (v := .int (nI mb)) (ty := .int) (C := rn_MO) (T := fl_MO) (N := 55) hx hb hG in_MO tt_MO tk_MO nn_MO hown hK hP hD hS 0 rfl rfl 38 (by decide) (hG _ k_1229) (fun _ h9 => h9) rfl (by decide +kernel) rfl rfl (Nat.le_of_ble_eq_true rfl) d_MO_goesOn_20 (fun H locs hP hD hS => ?_)
  have hP : va_P D classes [(h0, .inr (8, mS f tn rm ln lx at_ bd fs dp on os bn df th mb mo_ (ev - 1) ss so lk rs pt ot cl)), ((f 20), .inl (cL, 400, .inr (.inl one))), ((f 21), .inl (cL, 400, .inr (.inl two))), ((f 25), .inl (cI, 41, .inl bss)), ((f 26), .inl (cI, 41, .inl wts)), ((f 27), .inl (cZ, 41, .inl snd)), ((f 28), .inl (cI, 41, .inl nbr)), ((f 24), .inl (cI, 150, .inl spn)), ((f 18), .inl (cL, 9, .inr (.inl trm)))] H := hP
  have hD : va_D A [(h0, .inr (8, mS f tn rm ln lx at_ bd fs dp on os bn df th mb mo_ (ev - 1) ss so lk rs pt ot cl)), ((f 20), .inl (cL, 400, .inr (.inl one))), ((f 21), .inl (cL, 400, .inr (.inl two))), ((f 25), .inl (cI, 41, .inl bss)), ((f 26), .inl (cI, 41, .inl wts)), ((f 27), .inl (cZ, 41, .inl snd)), ((f 28), .inl (cI, 41, .inl nbr)), ((f 24), .inl (cI, 150, .inl spn)), ((f 18), .inl (cL, 9, .inr (.inl trm)))] := hD
  refine lv_aload_n hx hb d_MO_goesOn_23 rfl (lv_at hl 0 rfl) ?_
  refine va_get (D := D) (ci := 8) (v := .ref (f 26)) (C := rn_MO) (T := fl_MO) (N := 55) hx hb hG in_MO hown hK hP 0 rfl rfl 44 (by decide) (hG _ k_1235) (fun _ h9 => h9) rfl d_MO_goesOn_24 ?_
  refine lv_aload_n hx hb d_MO_goesOn_27 rfl (lv_at hl 0 rfl) ?_
  refine va_get (D := D) (ci := 8) (v := .int (nI (ev - 1))) (C := rn_MO) (T := fl_MO) (N := 55) hx hb hG in_MO hown hK hP 0 rfl rfl 40 (by decide) (hG _ k_1231) (fun _ h9 => h9) rfl d_MO_goesOn_28 ?_
  refine va_iald hx hb hK hP 4 0 rfl rfl (vp_in_nI (n := ev - 1) (N := 41) (by omega) (by omega)) d_MO_goesOn_31 ?_
  refine W.eq (g2 := F0 m 32 ls [.int (nI wa)]) (by rw [nI_clamp (n := ev - 1) (by omega)]; rw [ewa]) ?_
  refine lv_istore (lv' := [(9, .int (nI wa)), (0, .ref h0), (1, .long v), (3, .int 0), (4, .long x), (6, .long y), (8, .int 0)]) hx hb d_MO_goesOn_32 hl (Nat.le_of_ble_eq_true rfl) rfl (fun ls hl => ?_)
  refine lv_aload_n hx hb d_MO_goesOn_34 rfl (lv_at hl 1 rfl) ?_
  refine lv_lload_n hx hb d_MO_goesOn_35 rfl (lv_at hl 2 rfl) ?_
  refine va_put (D := D) (ci := 8) (v := .long v) (ty := .long) (C := rn_MO) (T := fl_MO) (N := 55) hx hb hG in_MO tt_MO tk_MO nn_MO hown hK hP hD hS 0 rfl rfl 47 (by decide) (hG _ k_1238) (fun _ h9 => h9) rfl (by decide +kernel) rfl rfl (Nat.le_of_ble_eq_true rfl) d_MO_goesOn_36 (fun H locs hP hD hS => ?_)
  have hP : va_P D classes [(h0, .inr (8, mS f tn rm ln lx at_ bd fs dp on os bn df th mb mo_ (ev - 1) ss so v rs pt ot cl)), ((f 20), .inl (cL, 400, .inr (.inl one))), ((f 21), .inl (cL, 400, .inr (.inl two))), ((f 25), .inl (cI, 41, .inl bss)), ((f 26), .inl (cI, 41, .inl wts)), ((f 27), .inl (cZ, 41, .inl snd)), ((f 28), .inl (cI, 41, .inl nbr)), ((f 24), .inl (cI, 150, .inl spn)), ((f 18), .inl (cL, 9, .inr (.inl trm)))] H := hP
  have hD : va_D A [(h0, .inr (8, mS f tn rm ln lx at_ bd fs dp on os bn df th mb mo_ (ev - 1) ss so v rs pt ot cl)), ((f 20), .inl (cL, 400, .inr (.inl one))), ((f 21), .inl (cL, 400, .inr (.inl two))), ((f 25), .inl (cI, 41, .inl bss)), ((f 26), .inl (cI, 41, .inl wts)), ((f 27), .inl (cZ, 41, .inl snd)), ((f 28), .inl (cI, 41, .inl nbr)), ((f 24), .inl (cI, 150, .inl spn)), ((f 18), .inl (cL, 9, .inr (.inl trm)))] := hD
  refine lv_lload_n hx hb d_MO_goesOn_39 rfl (lv_at hl 2 rfl) ?_
  refine W.callR (W.runS (As := [.long v]) (rest := []) ⟨hx, hb, hml, hown, hG⟩ (mo_kindOf l D cI cL cZ cC v ) (cwS 1 hG (gd_S k_1519 k_1520 k_116 k_1521) rfl rfl rfl (by decide +kernel) ⟨Nat.le_of_ble_eq_true rfl, Nat.le_of_ble_eq_true rfl⟩) (wq_S hP hK [] rfl) rfl rfl hl.1 rfl (lv_room (Nat.le_of_ble_eq_true rfl)) d_MO_goesOn_40 ⟨Nat.le_of_ble_eq_true rfl, Nat.le_of_ble_eq_true rfl⟩) ?_
  refine W.eq (g2 := F0 m 43 ls [.int (wkind v)]) rfl ?_
  refine lv_if_ne (tgt := 59) hx hb d_MO_goesOn_43 (by decide) (fun hb_1 => ?_) (fun hb_1 => ?_)
  · skip
    refine lv_iconst (v := 0) hx hb d_MO_goesOn_59 (by decide) ?_
    refine lv_istore (lv' := [(10, .int 0), (9, .int (nI wa)), (0, .ref h0), (1, .long v), (3, .int 0), (4, .long x), (6, .long y), (8, .int 0)]) hx hb d_MO_goesOn_60 hl (Nat.le_of_ble_eq_true rfl) rfl (fun ls hl => ?_)
    refine lv_iload hx hb d_MO_goesOn_62 (lv_at hl 1 rfl) ?_
    refine lv_bipush (v := 10) hx hb d_MO_goesOn_64 (by decide) ?_
    refine lv_icmp_ne (tgt := 120) hx hb d_MO_goesOn_66 (by decide) (fun hb_2 => ?_) (fun hb_2 => ?_)
    · skip
      have hn_3 : ¬ wa = 10 := fun h => hb_2 ((nI_eq (a := wa) (b := 10) (by omega) (by omega)).mpr h)
      refine lv_iload hx hb d_MO_goesOn_120 (lv_at hl 1 rfl) ?_
      refine lv_bipush (v := 18) hx hb d_MO_goesOn_122 (by decide) ?_
      refine lv_icmp_eq (tgt := 134) hx hb d_MO_goesOn_124 (by decide) (fun hb_4 => ?_) (fun hb_4 => ?_)
      · skip
        have hn_5 : wa = 18 := (nI_eq (a := wa) (b := 18) (by omega) (by omega)).mp hb_4
        refine lv_iload_n hx hb d_MO_goesOn_134 rfl (lv_at hl 4 rfl) ?_
        refine lv_if_ne (tgt := 146) hx hb d_MO_goesOn_135 (by decide) (fun hbr => absurd (by decide) hbr) (fun hbr => ?_)
        refine lv_aload_n hx hb d_MO_goesOn_138 rfl (lv_at hl 2 rfl) ?_
        refine lv_iconst (v := 2) hx hb d_MO_goesOn_139 (by decide) ?_
        refine va_put (D := D) (ci := 8) (v := .int 2) (ty := .int) (C := rn_MO) (T := fl_MO) (N := 55) hx hb hG in_MO tt_MO tk_MO nn_MO hown hK hP hD hS 0 rfl rfl 42 (by decide) (hG _ k_1233) (fun _ h9 => h9) rfl (by decide +kernel) rfl rfl (Nat.le_of_ble_eq_true rfl) d_MO_goesOn_140 (fun H locs hP hD hS => ?_)
        have hP : va_P D classes [(h0, .inr (8, mS f tn rm ln lx at_ bd fs dp on os bn df th mb mo_ (ev - 1) ss 2 v rs pt ot cl)), ((f 20), .inl (cL, 400, .inr (.inl one))), ((f 21), .inl (cL, 400, .inr (.inl two))), ((f 25), .inl (cI, 41, .inl bss)), ((f 26), .inl (cI, 41, .inl wts)), ((f 27), .inl (cZ, 41, .inl snd)), ((f 28), .inl (cI, 41, .inl nbr)), ((f 24), .inl (cI, 150, .inl spn)), ((f 18), .inl (cL, 9, .inr (.inl trm)))] H := hP
        have hD : va_D A [(h0, .inr (8, mS f tn rm ln lx at_ bd fs dp on os bn df th mb mo_ (ev - 1) ss 2 v rs pt ot cl)), ((f 20), .inl (cL, 400, .inr (.inl one))), ((f 21), .inl (cL, 400, .inr (.inl two))), ((f 25), .inl (cI, 41, .inl bss)), ((f 26), .inl (cI, 41, .inl wts)), ((f 27), .inl (cZ, 41, .inl snd)), ((f 28), .inl (cI, 41, .inl nbr)), ((f 24), .inl (cI, 150, .inl spn)), ((f 18), .inl (cL, 9, .inr (.inl trm)))] := hD
        refine lv_goto (tgt := 290) hx hb d_MO_goesOn_143 (by decide) ?_
        exact em_vret hx hb hr hlocks hP hD hK hS (ev - 1, mb, v, ss, 2, one, two, bss, wts, snd, nbr) [0, 1, 2, 3, 4, 5, 6, 7, 8] (by decide) rfl ⟨rfl, ⟨hsnd, (show MI df Gc trm one two spn mb v rs pt from ⟨hHG, hv, hrs, (by omega), (fun k hk => hsp k (by omega))⟩), (show (ev - 1) ≤ 40 from (by first | assumption | omega | exact Or.inl rfl)), (show me bss wts (ev - 1) mb 0 from (hsl.mono (by omega))), (show ((ss = ss + 1 ∧ 2 = so) ∨ (ss = ss ∧ ¬ 2 = 0) ∨ (ss = ss ∧ 2 = so ∧ (ev - 1) = ev ∧ fz snd (ev - 1) + 1 = fz snd ev)) from (Or.inr (Or.inl ⟨rfl, by decide⟩)))⟩⟩ d_MO_goesOn_290
      · skip
        have hn_6 : ¬ wa = 18 := fun h => hb_4 ((nI_eq (a := wa) (b := 18) (by omega) (by omega)).mpr h)
        refine lv_iload hx hb d_MO_goesOn_127 (lv_at hl 1 rfl) ?_
        refine lv_bipush (v := 19) hx hb d_MO_goesOn_129 (by decide) ?_
        refine lv_icmp_ne (tgt := 172) hx hb d_MO_goesOn_131 (by decide) (fun hb_7 => ?_) (fun hb_7 => ?_)
        · skip
          have hn_8 : ¬ wa = 19 := fun h => hb_7 ((nI_eq (a := wa) (b := 19) (by omega) (by omega)).mpr h)
          refine lv_iload hx hb d_MO_goesOn_172 (lv_at hl 1 rfl) ?_
          refine lv_bipush (v := 20) hx hb d_MO_goesOn_174 (by decide) ?_
          refine lv_icmp_ne (tgt := 227) hx hb d_MO_goesOn_176 (by decide) (fun hb_9 => ?_) (fun hb_9 => ?_)
          · skip
            have hn_10 : ¬ wa = 20 := fun h => hb_9 ((nI_eq (a := wa) (b := 20) (by omega) (by omega)).mpr h)
            refine lv_iload hx hb d_MO_goesOn_227 (lv_at hl 0 rfl) ?_
            refine lv_if_ne (tgt := 240) hx hb d_MO_goesOn_229 (by decide) (fun hbr => absurd (by decide) hbr) (fun hbr => ?_)
            refine lv_aload_n hx hb d_MO_goesOn_232 rfl (lv_at hl 2 rfl) ?_
            refine lv_iconst (v := 2) hx hb d_MO_goesOn_233 (by decide) ?_
            refine va_put (D := D) (ci := 8) (v := .int 2) (ty := .int) (C := rn_MO) (T := fl_MO) (N := 55) hx hb hG in_MO tt_MO tk_MO nn_MO hown hK hP hD hS 0 rfl rfl 42 (by decide) (hG _ k_1233) (fun _ h9 => h9) rfl (by decide +kernel) rfl rfl (Nat.le_of_ble_eq_true rfl) d_MO_goesOn_234 (fun H locs hP hD hS => ?_)
            have hP : va_P D classes [(h0, .inr (8, mS f tn rm ln lx at_ bd fs dp on os bn df th mb mo_ (ev - 1) ss 2 v rs pt ot cl)), ((f 20), .inl (cL, 400, .inr (.inl one))), ((f 21), .inl (cL, 400, .inr (.inl two))), ((f 25), .inl (cI, 41, .inl bss)), ((f 26), .inl (cI, 41, .inl wts)), ((f 27), .inl (cZ, 41, .inl snd)), ((f 28), .inl (cI, 41, .inl nbr)), ((f 24), .inl (cI, 150, .inl spn)), ((f 18), .inl (cL, 9, .inr (.inl trm)))] H := hP
            have hD : va_D A [(h0, .inr (8, mS f tn rm ln lx at_ bd fs dp on os bn df th mb mo_ (ev - 1) ss 2 v rs pt ot cl)), ((f 20), .inl (cL, 400, .inr (.inl one))), ((f 21), .inl (cL, 400, .inr (.inl two))), ((f 25), .inl (cI, 41, .inl bss)), ((f 26), .inl (cI, 41, .inl wts)), ((f 27), .inl (cZ, 41, .inl snd)), ((f 28), .inl (cI, 41, .inl nbr)), ((f 24), .inl (cI, 150, .inl spn)), ((f 18), .inl (cL, 9, .inr (.inl trm)))] := hD
            refine lv_goto (tgt := 290) hx hb d_MO_goesOn_237 (by decide) ?_
            exact em_vret hx hb hr hlocks hP hD hK hS (ev - 1, mb, v, ss, 2, one, two, bss, wts, snd, nbr) [0, 1, 2, 3, 4, 5, 6, 7, 8] (by decide) rfl ⟨rfl, ⟨hsnd, (show MI df Gc trm one two spn mb v rs pt from ⟨hHG, hv, hrs, (by omega), (fun k hk => hsp k (by omega))⟩), (show (ev - 1) ≤ 40 from (by first | assumption | omega | exact Or.inl rfl)), (show me bss wts (ev - 1) mb 0 from (hsl.mono (by omega))), (show ((ss = ss + 1 ∧ 2 = so) ∨ (ss = ss ∧ ¬ 2 = 0) ∨ (ss = ss ∧ 2 = so ∧ (ev - 1) = ev ∧ fz snd (ev - 1) + 1 = fz snd ev)) from (Or.inr (Or.inl ⟨rfl, by decide⟩)))⟩⟩ d_MO_goesOn_290
          · skip
            have hn_11 : wa = 20 := (nI_eq (a := wa) (b := 20) (by omega) (by omega)).mp hb_9
            refine lv_iload_n hx hb d_MO_goesOn_179 rfl (lv_at hl 4 rfl) ?_
            refine lv_if_ne (tgt := 201) hx hb d_MO_goesOn_180 (by decide) (fun hbr => absurd (by decide) hbr) (fun hbr => ?_)
            refine lv_lload_n hx hb d_MO_goesOn_183 rfl (lv_at hl 3 rfl) ?_
            refine lv_bipush (v := 17) hx hb d_MO_goesOn_184 (by decide) ?_
            refine W.callRL (W.runS (As := [.int 17]) (rest := [.long v]) ⟨hx, hb, hml, hown, hG⟩ (mo_constant l D cI cL cZ cC 17 ) (cwS 1 hG (gd_S k_1461 k_1462 k_116 k_1463) rfl rfl rfl (by decide +kernel) ⟨Nat.le_of_ble_eq_true rfl, Nat.le_of_ble_eq_true rfl⟩) (wq_S hP hK [] rfl) rfl rfl hl.1 rfl (lv_room (Nat.le_of_ble_eq_true rfl)) d_MO_goesOn_186 ⟨Nat.le_of_ble_eq_true rfl, Nat.le_of_ble_eq_true rfl⟩) ?_
            refine W.eq (g2 := F0 m 189 ls [.long (wof 2 17), .long v]) rfl ?_
            refine W.lcmp hx hb d_MO_goesOn_189 ?_
            refine lv_if_eq (tgt := 201) hx hb d_MO_goesOn_190 (by decide) (fun hb_12 => ?_) (fun hb_12 => ?_)
            · skip
              have hq_13 := (lg_cmp_eq _ _).mp hb_12
              refine lv_aload_n hx hb d_MO_goesOn_201 rfl (lv_at hl 2 rfl) ?_
              refine lv_iconst (v := 1) hx hb d_MO_goesOn_202 (by decide) ?_
              refine lv_iconst (v := 2) hx hb d_MO_goesOn_203 (by decide) ?_
              refine W.callRL (W.runS (As := [.int 2]) (rest := [.int 1, .ref h0]) ⟨hx, hb, hml, hown, hG⟩ (mo_constant l D cI cL cZ cC 2 ) (cwS 1 hG (gd_S k_1461 k_1462 k_116 k_1463) rfl rfl rfl (by decide +kernel) ⟨Nat.le_of_ble_eq_true rfl, Nat.le_of_ble_eq_true rfl⟩) (wq_S hP hK [] rfl) rfl rfl hl.1 rfl (lv_room (Nat.le_of_ble_eq_true rfl)) d_MO_goesOn_204 ⟨Nat.le_of_ble_eq_true rfl, Nat.le_of_ble_eq_true rfl⟩) ?_
              refine W.eq (g2 := F0 m 207 ls [.long (wof 2 2), .int 1, .ref h0]) rfl ?_
              refine lv_iload_n hx hb d_MO_goesOn_207 rfl (lv_at hl 4 rfl) ?_
              refine lv_if_eq (tgt := 216) hx hb d_MO_goesOn_208 (by decide) (fun hbr => ?_) (fun hbr => absurd (by decide) hbr)
              refine lv_bipush (v := 21) hx hb d_MO_goesOn_216 (by decide) ?_
              refine W.callRL (W.runS (As := [.int 21]) (rest := [.long (wof 2 2), .int 1, .ref h0]) ⟨hx, hb, hml, hown, hG⟩ (mo_constant l D cI cL cZ cC 21 ) (cwS 1 hG (gd_S k_1461 k_1462 k_116 k_1463) rfl rfl rfl (by decide +kernel) ⟨Nat.le_of_ble_eq_true rfl, Nat.le_of_ble_eq_true rfl⟩) (wq_S hP hK [] rfl) rfl rfl hl.1 rfl (lv_room (Nat.le_of_ble_eq_true rfl)) d_MO_goesOn_218 ⟨Nat.le_of_ble_eq_true rfl, Nat.le_of_ble_eq_true rfl⟩) ?_
              refine W.eq (g2 := F0 m 221 ls [.long (wof 2 21), .long (wof 2 2), .int 1, .ref h0]) rfl ?_
              refine em_call (wr := [((f 25), .inl (cI, 41, .inl bss)), ((f 26), .inl (cI, 41, .inl wts)), ((f 27), .inl (cZ, 41, .inl snd)), ((f 28), .inl (cI, 41, .inl nbr))]) (em_runV (As := [.int (nI 1), .long (wof 2 2), .long (wof 2 21)]) (rest := []) ⟨hx, hb, hml, hown, hG⟩ (mo_overwrite l D cI cL cZ cC f h0 tn rm ln lx at_ bd fs dp on os bn df th mb mo_ (ev - 1) ss so v rs pt ot cl one two spn trm Gc 1 (wof 2 2) (wof 2 21) _ (by omega) (by omega) (by omega) hHG (okh_con 2 (by decide) (by decide)) (okh_con 21 (by decide) (by decide)) hsp2 hnt) (cwV 3 hG (gd_V k_1592 k_1594 k_94 k_116 k_1595) rfl rfl rfl (by decide +kernel) ⟨Nat.le_of_ble_eq_true rfl, Nat.le_of_ble_eq_true rfl⟩) (tw_V (q0 := 0) hP hD hK hE hst hS rfl rfl [0, 1, 2, 7, 8] rfl (by decide)) rfl rfl hl.1 rfl (lv_room (Nat.le_of_ble_eq_true rfl)) d_MO_goesOn_221 ⟨Nat.le_of_ble_eq_true rfl, Nat.le_of_ble_eq_true rfl⟩) hP hD hS hA [0, 1, 2, 7, 8] [3, 4, 5, 6] rfl rfl (by decide) (by decide) (fun v u H locs hok hP hD hS => ?_) (fun x C u H locs hbad hxx hP hD hS => ?_)
              · skip
                obtain ⟨tp_14, lk_15, ss_16, one_17, two_18⟩ := u
                obtain ⟨rfl, hp_20⟩ := hok
                obtain ⟨hHG_21, htp_22, hlk_23, hss_24⟩ : (HG df Gc trm one_17 two_18) ∧ (tp_14 + 1 = mb + 1) ∧ (lk_15 = (wof 2 2)) ∧ (ss_16 = ss + 1) := hp_20
                have hP : va_P D classes [((f 25), .inl (cI, 41, .inl bss)), ((f 26), .inl (cI, 41, .inl wts)), ((f 27), .inl (cZ, 41, .inl snd)), ((f 28), .inl (cI, 41, .inl nbr)), (h0, .inr (8, mS f tn rm ln lx at_ bd fs dp on os bn df th tp_14 mo_ (ev - 1) ss_16 so lk_15 rs pt ot cl)), ((f 20), .inl (cL, 400, .inr (.inl one_17))), ((f 21), .inl (cL, 400, .inr (.inl two_18))), ((f 24), .inl (cI, 150, .inl spn)), ((f 18), .inl (cL, 9, .inr (.inl trm)))] H := hP
                have hD : va_D A [((f 25), .inl (cI, 41, .inl bss)), ((f 26), .inl (cI, 41, .inl wts)), ((f 27), .inl (cZ, 41, .inl snd)), ((f 28), .inl (cI, 41, .inl nbr)), (h0, .inr (8, mS f tn rm ln lx at_ bd fs dp on os bn df th tp_14 mo_ (ev - 1) ss_16 so lk_15 rs pt ot cl)), ((f 20), .inl (cL, 400, .inr (.inl one_17))), ((f 21), .inl (cL, 400, .inr (.inl two_18))), ((f 24), .inl (cI, 150, .inl spn)), ((f 18), .inl (cL, 9, .inr (.inl trm)))] := hD
                refine W.eq (g2 := F0 m 224 ls []) rfl ?_
                refine lv_goto (tgt := 290) hx hb d_MO_goesOn_224 (by decide) ?_
                exact em_vret hx hb hr hlocks hP hD hK hS (ev - 1, tp_14, lk_15, ss_16, so, one_17, two_18, bss, wts, snd, nbr) [4, 5, 6, 0, 1, 2, 3, 7, 8] (by decide) rfl ⟨rfl, ⟨hsnd, (show MI df Gc trm one_17 two_18 spn tp_14 lk_15 rs pt from ⟨hHG_21, (by rw [hlk_23]; exact (okh_con 2 (by decide) (by decide))), hrs, (by omega), (fun k hk => hsp k (by omega))⟩), (show (ev - 1) ≤ 40 from (by first | assumption | omega | exact Or.inl rfl)), (show me bss wts (ev - 1) tp_14 0 from (hsl.mono (by omega))), (show ((ss_16 = ss + 1 ∧ so = so) ∨ (ss_16 = ss ∧ ¬ so = 0) ∨ (ss_16 = ss ∧ so = so ∧ (ev - 1) = ev ∧ fz snd (ev - 1) + 1 = fz snd ev)) from (Or.inl ⟨hss_24, rfl⟩))⟩⟩ d_MO_goesOn_290
              · skip
                exact hbad.elim
            · skip
              have hq_26 : ¬ _ := fun h => hb_12 ((lg_cmp_eq _ _).mpr h)
              refine lv_aload_n hx hb d_MO_goesOn_193 rfl (lv_at hl 2 rfl) ?_
              refine lv_iconst (v := 2) hx hb d_MO_goesOn_194 (by decide) ?_
              refine va_put (D := D) (ci := 8) (v := .int 2) (ty := .int) (C := rn_MO) (T := fl_MO) (N := 55) hx hb hG in_MO tt_MO tk_MO nn_MO hown hK hP hD hS 0 rfl rfl 42 (by decide) (hG _ k_1233) (fun _ h9 => h9) rfl (by decide +kernel) rfl rfl (Nat.le_of_ble_eq_true rfl) d_MO_goesOn_195 (fun H locs hP hD hS => ?_)
              have hP : va_P D classes [(h0, .inr (8, mS f tn rm ln lx at_ bd fs dp on os bn df th mb mo_ (ev - 1) ss 2 v rs pt ot cl)), ((f 20), .inl (cL, 400, .inr (.inl one))), ((f 21), .inl (cL, 400, .inr (.inl two))), ((f 25), .inl (cI, 41, .inl bss)), ((f 26), .inl (cI, 41, .inl wts)), ((f 27), .inl (cZ, 41, .inl snd)), ((f 28), .inl (cI, 41, .inl nbr)), ((f 24), .inl (cI, 150, .inl spn)), ((f 18), .inl (cL, 9, .inr (.inl trm)))] H := hP
              have hD : va_D A [(h0, .inr (8, mS f tn rm ln lx at_ bd fs dp on os bn df th mb mo_ (ev - 1) ss 2 v rs pt ot cl)), ((f 20), .inl (cL, 400, .inr (.inl one))), ((f 21), .inl (cL, 400, .inr (.inl two))), ((f 25), .inl (cI, 41, .inl bss)), ((f 26), .inl (cI, 41, .inl wts)), ((f 27), .inl (cZ, 41, .inl snd)), ((f 28), .inl (cI, 41, .inl nbr)), ((f 24), .inl (cI, 150, .inl spn)), ((f 18), .inl (cL, 9, .inr (.inl trm)))] := hD
              refine lv_goto (tgt := 290) hx hb d_MO_goesOn_198 (by decide) ?_
              exact em_vret hx hb hr hlocks hP hD hK hS (ev - 1, mb, v, ss, 2, one, two, bss, wts, snd, nbr) [0, 1, 2, 3, 4, 5, 6, 7, 8] (by decide) rfl ⟨rfl, ⟨hsnd, (show MI df Gc trm one two spn mb v rs pt from ⟨hHG, hv, hrs, (by omega), (fun k hk => hsp k (by omega))⟩), (show (ev - 1) ≤ 40 from (by first | assumption | omega | exact Or.inl rfl)), (show me bss wts (ev - 1) mb 0 from (hsl.mono (by omega))), (show ((ss = ss + 1 ∧ 2 = so) ∨ (ss = ss ∧ ¬ 2 = 0) ∨ (ss = ss ∧ 2 = so ∧ (ev - 1) = ev ∧ fz snd (ev - 1) + 1 = fz snd ev)) from (Or.inr (Or.inl ⟨rfl, by decide⟩)))⟩⟩ d_MO_goesOn_290
        · skip
          have hn_27 : wa = 19 := (nI_eq (a := wa) (b := 19) (by omega) (by omega)).mp hb_7
          refine lv_iload_n hx hb d_MO_goesOn_134 rfl (lv_at hl 4 rfl) ?_
          refine lv_if_ne (tgt := 146) hx hb d_MO_goesOn_135 (by decide) (fun hbr => absurd (by decide) hbr) (fun hbr => ?_)
          refine lv_aload_n hx hb d_MO_goesOn_138 rfl (lv_at hl 2 rfl) ?_
          refine lv_iconst (v := 2) hx hb d_MO_goesOn_139 (by decide) ?_
          refine va_put (D := D) (ci := 8) (v := .int 2) (ty := .int) (C := rn_MO) (T := fl_MO) (N := 55) hx hb hG in_MO tt_MO tk_MO nn_MO hown hK hP hD hS 0 rfl rfl 42 (by decide) (hG _ k_1233) (fun _ h9 => h9) rfl (by decide +kernel) rfl rfl (Nat.le_of_ble_eq_true rfl) d_MO_goesOn_140 (fun H locs hP hD hS => ?_)
          have hP : va_P D classes [(h0, .inr (8, mS f tn rm ln lx at_ bd fs dp on os bn df th mb mo_ (ev - 1) ss 2 v rs pt ot cl)), ((f 20), .inl (cL, 400, .inr (.inl one))), ((f 21), .inl (cL, 400, .inr (.inl two))), ((f 25), .inl (cI, 41, .inl bss)), ((f 26), .inl (cI, 41, .inl wts)), ((f 27), .inl (cZ, 41, .inl snd)), ((f 28), .inl (cI, 41, .inl nbr)), ((f 24), .inl (cI, 150, .inl spn)), ((f 18), .inl (cL, 9, .inr (.inl trm)))] H := hP
          have hD : va_D A [(h0, .inr (8, mS f tn rm ln lx at_ bd fs dp on os bn df th mb mo_ (ev - 1) ss 2 v rs pt ot cl)), ((f 20), .inl (cL, 400, .inr (.inl one))), ((f 21), .inl (cL, 400, .inr (.inl two))), ((f 25), .inl (cI, 41, .inl bss)), ((f 26), .inl (cI, 41, .inl wts)), ((f 27), .inl (cZ, 41, .inl snd)), ((f 28), .inl (cI, 41, .inl nbr)), ((f 24), .inl (cI, 150, .inl spn)), ((f 18), .inl (cL, 9, .inr (.inl trm)))] := hD
          refine lv_goto (tgt := 290) hx hb d_MO_goesOn_143 (by decide) ?_
          exact em_vret hx hb hr hlocks hP hD hK hS (ev - 1, mb, v, ss, 2, one, two, bss, wts, snd, nbr) [0, 1, 2, 3, 4, 5, 6, 7, 8] (by decide) rfl ⟨rfl, ⟨hsnd, (show MI df Gc trm one two spn mb v rs pt from ⟨hHG, hv, hrs, (by omega), (fun k hk => hsp k (by omega))⟩), (show (ev - 1) ≤ 40 from (by first | assumption | omega | exact Or.inl rfl)), (show me bss wts (ev - 1) mb 0 from (hsl.mono (by omega))), (show ((ss = ss + 1 ∧ 2 = so) ∨ (ss = ss ∧ ¬ 2 = 0) ∨ (ss = ss ∧ 2 = so ∧ (ev - 1) = ev ∧ fz snd (ev - 1) + 1 = fz snd ev)) from (Or.inr (Or.inl ⟨rfl, by decide⟩)))⟩⟩ d_MO_goesOn_290
    · skip
      have hn_28 : wa = 10 := (nI_eq (a := wa) (b := 10) (by omega) (by omega)).mp hb_2
      refine lv_lload_n hx hb d_MO_goesOn_69 rfl (lv_at hl 3 rfl) ?_
      refine em_call (wr := [(h0, .inr (8, mS f tn rm ln lx at_ bd fs dp on os bn df th mb mo_ (ev - 1) ss so v rs pt ot cl)), ((f 20), .inl (cL, 400, .inr (.inl one))), ((f 21), .inl (cL, 400, .inr (.inl two))), ((f 25), .inl (cI, 41, .inl bss)), ((f 26), .inl (cI, 41, .inl wts)), ((f 27), .inl (cZ, 41, .inl snd)), ((f 28), .inl (cI, 41, .inl nbr)), ((f 24), .inl (cI, 150, .inl spn)), ((f 18), .inl (cL, 9, .inr (.inl trm)))]) (em_runS (As := [.long v]) (rest := []) ⟨hx, hb, hml, hown, hG⟩ (mo_truth l D cI cL cZ cC v _  hnt) (cwS 1 hG (gd_S k_1589 k_1590 k_116 k_1591) rfl rfl rfl (by decide +kernel) ⟨Nat.le_of_ble_eq_true rfl, Nat.le_of_ble_eq_true rfl⟩) (tw_S hP hD hK hE hst hS [] rfl (by decide)) rfl rfl hl.1 rfl (lv_room (Nat.le_of_ble_eq_true rfl)) d_MO_goesOn_70 ⟨Nat.le_of_ble_eq_true rfl, Nat.le_of_ble_eq_true rfl⟩) hP hD hS hA [] [0, 1, 2, 3, 4, 5, 6, 7, 8] rfl rfl (by decide) (by decide) (fun v u H locs hok hP hD hS => ?_) (fun x C u H locs hbad hxx hP hD hS => ?_)
      · skip
        obtain ⟨r_29, rfl, hp_30⟩ := hok
        have hP : va_P D classes [(h0, .inr (8, mS f tn rm ln lx at_ bd fs dp on os bn df th mb mo_ (ev - 1) ss so v rs pt ot cl)), ((f 20), .inl (cL, 400, .inr (.inl one))), ((f 21), .inl (cL, 400, .inr (.inl two))), ((f 25), .inl (cI, 41, .inl bss)), ((f 26), .inl (cI, 41, .inl wts)), ((f 27), .inl (cZ, 41, .inl snd)), ((f 28), .inl (cI, 41, .inl nbr)), ((f 24), .inl (cI, 150, .inl spn)), ((f 18), .inl (cL, 9, .inr (.inl trm)))] H := hP
        have hD : va_D A [(h0, .inr (8, mS f tn rm ln lx at_ bd fs dp on os bn df th mb mo_ (ev - 1) ss so v rs pt ot cl)), ((f 20), .inl (cL, 400, .inr (.inl one))), ((f 21), .inl (cL, 400, .inr (.inl two))), ((f 25), .inl (cI, 41, .inl bss)), ((f 26), .inl (cI, 41, .inl wts)), ((f 27), .inl (cZ, 41, .inl snd)), ((f 28), .inl (cI, 41, .inl nbr)), ((f 24), .inl (cI, 150, .inl spn)), ((f 18), .inl (cL, 9, .inr (.inl trm)))] := hD
        rcases hp_30 with rfl | rfl
        · skip
          refine W.eq (g2 := F0 m 73 ls [.int 0]) rfl ?_
          refine lv_if_eq (tgt := 81) hx hb d_MO_goesOn_73 (by decide) (fun hbr => ?_) (fun hbr => absurd (by decide) hbr)
          refine lv_aload_n hx hb d_MO_goesOn_81 rfl (lv_at hl 2 rfl) ?_
          refine lv_iconst (v := 2) hx hb d_MO_goesOn_82 (by decide) ?_
          refine va_put (D := D) (ci := 8) (v := .int 2) (ty := .int) (C := rn_MO) (T := fl_MO) (N := 55) hx hb hG in_MO tt_MO tk_MO nn_MO hown hK hP hD hS 0 rfl rfl 42 (by decide) (hG _ k_1233) (fun _ h9 => h9) rfl (by decide +kernel) rfl rfl (Nat.le_of_ble_eq_true rfl) d_MO_goesOn_83 (fun H locs hP hD hS => ?_)
          have hP : va_P D classes [(h0, .inr (8, mS f tn rm ln lx at_ bd fs dp on os bn df th mb mo_ (ev - 1) ss 2 v rs pt ot cl)), ((f 20), .inl (cL, 400, .inr (.inl one))), ((f 21), .inl (cL, 400, .inr (.inl two))), ((f 25), .inl (cI, 41, .inl bss)), ((f 26), .inl (cI, 41, .inl wts)), ((f 27), .inl (cZ, 41, .inl snd)), ((f 28), .inl (cI, 41, .inl nbr)), ((f 24), .inl (cI, 150, .inl spn)), ((f 18), .inl (cL, 9, .inr (.inl trm)))] H := hP
          have hD : va_D A [(h0, .inr (8, mS f tn rm ln lx at_ bd fs dp on os bn df th mb mo_ (ev - 1) ss 2 v rs pt ot cl)), ((f 20), .inl (cL, 400, .inr (.inl one))), ((f 21), .inl (cL, 400, .inr (.inl two))), ((f 25), .inl (cI, 41, .inl bss)), ((f 26), .inl (cI, 41, .inl wts)), ((f 27), .inl (cZ, 41, .inl snd)), ((f 28), .inl (cI, 41, .inl nbr)), ((f 24), .inl (cI, 150, .inl spn)), ((f 18), .inl (cL, 9, .inr (.inl trm)))] := hD
          refine lv_goto (tgt := 290) hx hb d_MO_goesOn_86 (by decide) ?_
          exact em_vret hx hb hr hlocks hP hD hK hS (ev - 1, mb, v, ss, 2, one, two, bss, wts, snd, nbr) [0, 1, 2, 3, 4, 5, 6, 7, 8] (by decide) rfl ⟨rfl, ⟨hsnd, (show MI df Gc trm one two spn mb v rs pt from ⟨hHG, hv, hrs, (by omega), (fun k hk => hsp k (by omega))⟩), (show (ev - 1) ≤ 40 from (by first | assumption | omega | exact Or.inl rfl)), (show me bss wts (ev - 1) mb 0 from (hsl.mono (by omega))), (show ((ss = ss + 1 ∧ 2 = so) ∨ (ss = ss ∧ ¬ 2 = 0) ∨ (ss = ss ∧ 2 = so ∧ (ev - 1) = ev ∧ fz snd (ev - 1) + 1 = fz snd ev)) from (Or.inr (Or.inl ⟨rfl, by decide⟩)))⟩⟩ d_MO_goesOn_290
        · skip
          refine W.eq (g2 := F0 m 73 ls [.int 1]) rfl ?_
          refine lv_if_eq (tgt := 81) hx hb d_MO_goesOn_73 (by decide) (fun hbr => absurd hbr (by decide)) (fun hbr => ?_)
          refine lv_iload hx hb d_MO_goesOn_76 (lv_at hl 7 rfl) ?_
          refine lv_if_eq (tgt := 89) hx hb d_MO_goesOn_78 (by decide) (fun hbr => ?_) (fun hbr => absurd (by decide) hbr)
          refine lv_aload_n hx hb d_MO_goesOn_89 rfl (lv_at hl 2 rfl) ?_
          refine lv_iconst (v := 3) hx hb d_MO_goesOn_90 (by decide) ?_
          refine lv_iconst (v := 2) hx hb d_MO_goesOn_91 (by decide) ?_
          refine W.callRL (W.runS (As := [.int 2]) (rest := [.int 3, .ref h0]) ⟨hx, hb, hml, hown, hG⟩ (mo_constant l D cI cL cZ cC 2 ) (cwS 1 hG (gd_S k_1461 k_1462 k_116 k_1463) rfl rfl rfl (by decide +kernel) ⟨Nat.le_of_ble_eq_true rfl, Nat.le_of_ble_eq_true rfl⟩) (wq_S hP hK [] rfl) rfl rfl hl.1 rfl (lv_room (Nat.le_of_ble_eq_true rfl)) d_MO_goesOn_92 ⟨Nat.le_of_ble_eq_true rfl, Nat.le_of_ble_eq_true rfl⟩) ?_
          refine W.eq (g2 := F0 m 95 ls [.long (wof 2 2), .int 3, .ref h0]) rfl ?_
          refine lv_aload_n hx hb d_MO_goesOn_95 rfl (lv_at hl 2 rfl) ?_
          refine lv_lload_n hx hb d_MO_goesOn_96 rfl (lv_at hl 3 rfl) ?_
          refine lv_bipush (v := 21) hx hb d_MO_goesOn_97 (by decide) ?_
          refine W.callRL (W.runS (As := [.int 21]) (rest := [.long v, .ref h0, .long (wof 2 2), .int 3, .ref h0]) ⟨hx, hb, hml, hown, hG⟩ (mo_constant l D cI cL cZ cC 21 ) (cwS 1 hG (gd_S k_1461 k_1462 k_116 k_1463) rfl rfl rfl (by decide +kernel) ⟨Nat.le_of_ble_eq_true rfl, Nat.le_of_ble_eq_true rfl⟩) (wq_S hP hK [] rfl) rfl rfl hl.1 rfl (lv_room (Nat.le_of_ble_eq_true rfl)) d_MO_goesOn_99 ⟨Nat.le_of_ble_eq_true rfl, Nat.le_of_ble_eq_true rfl⟩) ?_
          refine W.eq (g2 := F0 m 102 ls [.long (wof 2 21), .long v, .ref h0, .long (wof 2 2), .int 3, .ref h0]) rfl ?_
          refine W.lcmp hx hb d_MO_goesOn_102 ?_
          refine lv_if_ne (tgt := 110) hx hb d_MO_goesOn_103 (by decide) (fun hb_31 => ?_) (fun hb_31 => ?_)
          · skip
            have hq_32 : ¬ _ := fun h => hb_31 ((lg_cmp_eq _ _).mpr h)
            refine lv_iconst (v := 2) hx hb d_MO_goesOn_110 (by decide) ?_
            refine em_call (wr := [((f 25), .inl (cI, 41, .inl bss)), ((f 26), .inl (cI, 41, .inl wts)), ((f 27), .inl (cZ, 41, .inl snd)), ((f 28), .inl (cI, 41, .inl nbr))]) (em_runV (As := [.int (nI 2)]) (rest := [.long (wof 2 2), .int 3, .ref h0]) ⟨hx, hb, hml, hown, hG⟩ (mo_argument l D cI cL cZ cC f h0 tn rm ln lx at_ bd fs dp on os bn df th mb mo_ (ev - 1) ss so v rs pt ot cl two spn trm one Gc 2 _ (by omega) (by omega) hHG hsp2 hnt) (cwV 1 hG (gd_V k_1581 k_1583 k_92 k_116 k_1584) rfl rfl rfl (by decide +kernel) ⟨Nat.le_of_ble_eq_true rfl, Nat.le_of_ble_eq_true rfl⟩) (tw_V (q0 := 0) hP hD hK hE hst hS rfl rfl [0, 2, 7, 8, 1] rfl (by decide)) rfl rfl hl.1 rfl (lv_room (Nat.le_of_ble_eq_true rfl)) d_MO_goesOn_111 ⟨Nat.le_of_ble_eq_true rfl, Nat.le_of_ble_eq_true rfl⟩) hP hD hS hA [0, 2, 7, 8, 1] [3, 4, 5, 6] rfl rfl (by decide) (by decide) (fun v u H locs hok hP hD hS => ?_) (fun x C u H locs hbad hxx hP hD hS => ?_)
            · skip
              obtain ⟨r_33, rfl, hp_34⟩ := hok
              have hres_35 : (okh df Gc r_33) := hp_34
              have hP : va_P D classes [((f 25), .inl (cI, 41, .inl bss)), ((f 26), .inl (cI, 41, .inl wts)), ((f 27), .inl (cZ, 41, .inl snd)), ((f 28), .inl (cI, 41, .inl nbr)), (h0, .inr (8, mS f tn rm ln lx at_ bd fs dp on os bn df th mb mo_ (ev - 1) ss so v rs pt ot cl)), ((f 21), .inl (cL, 400, .inr (.inl two))), ((f 24), .inl (cI, 150, .inl spn)), ((f 18), .inl (cL, 9, .inr (.inl trm))), ((f 20), .inl (cL, 400, .inr (.inl one)))] H := hP
              have hD : va_D A [((f 25), .inl (cI, 41, .inl bss)), ((f 26), .inl (cI, 41, .inl wts)), ((f 27), .inl (cZ, 41, .inl snd)), ((f 28), .inl (cI, 41, .inl nbr)), (h0, .inr (8, mS f tn rm ln lx at_ bd fs dp on os bn df th mb mo_ (ev - 1) ss so v rs pt ot cl)), ((f 21), .inl (cL, 400, .inr (.inl two))), ((f 24), .inl (cI, 150, .inl spn)), ((f 18), .inl (cL, 9, .inr (.inl trm))), ((f 20), .inl (cL, 400, .inr (.inl one)))] := hD
              refine W.eq (g2 := F0 m 114 ls [.long r_33, .long (wof 2 2), .int 3, .ref h0]) rfl ?_
              refine em_call (wr := [((f 25), .inl (cI, 41, .inl bss)), ((f 26), .inl (cI, 41, .inl wts)), ((f 27), .inl (cZ, 41, .inl snd)), ((f 28), .inl (cI, 41, .inl nbr))]) (em_runV (As := [.int (nI 3), .long (wof 2 2), .long r_33]) (rest := []) ⟨hx, hb, hml, hown, hG⟩ (mo_overwrite l D cI cL cZ cC f h0 tn rm ln lx at_ bd fs dp on os bn df th mb mo_ (ev - 1) ss so v rs pt ot cl one two spn trm Gc 3 (wof 2 2) r_33 _ (by omega) (by omega) (by omega) hHG (okh_con 2 (by decide) (by decide)) hres_35 hsp2 hnt) (cwV 3 hG (gd_V k_1592 k_1594 k_94 k_116 k_1595) rfl rfl rfl (by decide +kernel) ⟨Nat.le_of_ble_eq_true rfl, Nat.le_of_ble_eq_true rfl⟩) (tw_V (q0 := 4) hP hD hK hE hst hS rfl rfl [4, 8, 5, 6, 7] rfl (by decide)) rfl rfl hl.1 rfl (lv_room (Nat.le_of_ble_eq_true rfl)) d_MO_goesOn_114 ⟨Nat.le_of_ble_eq_true rfl, Nat.le_of_ble_eq_true rfl⟩) hP hD hS hA [4, 8, 5, 6, 7] [0, 1, 2, 3] rfl rfl (by decide) (by decide) (fun v u H locs hok hP hD hS => ?_) (fun x C u H locs hbad hxx hP hD hS => ?_)
              · skip
                obtain ⟨tp_36, lk_37, ss_38, one_39, two_40⟩ := u
                obtain ⟨rfl, hp_42⟩ := hok
                obtain ⟨hHG_43, htp_44, hlk_45, hss_46⟩ : (HG df Gc trm one_39 two_40) ∧ (tp_36 + 3 = mb + 1) ∧ (lk_37 = (wof 2 2)) ∧ (ss_38 = ss + 1) := hp_42
                have hP : va_P D classes [((f 25), .inl (cI, 41, .inl bss)), ((f 26), .inl (cI, 41, .inl wts)), ((f 27), .inl (cZ, 41, .inl snd)), ((f 28), .inl (cI, 41, .inl nbr)), (h0, .inr (8, mS f tn rm ln lx at_ bd fs dp on os bn df th tp_36 mo_ (ev - 1) ss_38 so lk_37 rs pt ot cl)), ((f 20), .inl (cL, 400, .inr (.inl one_39))), ((f 21), .inl (cL, 400, .inr (.inl two_40))), ((f 24), .inl (cI, 150, .inl spn)), ((f 18), .inl (cL, 9, .inr (.inl trm)))] H := hP
                have hD : va_D A [((f 25), .inl (cI, 41, .inl bss)), ((f 26), .inl (cI, 41, .inl wts)), ((f 27), .inl (cZ, 41, .inl snd)), ((f 28), .inl (cI, 41, .inl nbr)), (h0, .inr (8, mS f tn rm ln lx at_ bd fs dp on os bn df th tp_36 mo_ (ev - 1) ss_38 so lk_37 rs pt ot cl)), ((f 20), .inl (cL, 400, .inr (.inl one_39))), ((f 21), .inl (cL, 400, .inr (.inl two_40))), ((f 24), .inl (cI, 150, .inl spn)), ((f 18), .inl (cL, 9, .inr (.inl trm)))] := hD
                refine W.eq (g2 := F0 m 117 ls []) rfl ?_
                refine lv_goto (tgt := 290) hx hb d_MO_goesOn_117 (by decide) ?_
                exact em_vret hx hb hr hlocks hP hD hK hS (ev - 1, tp_36, lk_37, ss_38, so, one_39, two_40, bss, wts, snd, nbr) [4, 5, 6, 0, 1, 2, 3, 7, 8] (by decide) rfl ⟨rfl, ⟨hsnd, (show MI df Gc trm one_39 two_40 spn tp_36 lk_37 rs pt from ⟨hHG_43, (by rw [hlk_45]; exact (okh_con 2 (by decide) (by decide))), hrs, (by omega), (fun k hk => hsp k (by omega))⟩), (show (ev - 1) ≤ 40 from (by first | assumption | omega | exact Or.inl rfl)), (show me bss wts (ev - 1) tp_36 0 from (hsl.mono (by omega))), (show ((ss_38 = ss + 1 ∧ so = so) ∨ (ss_38 = ss ∧ ¬ so = 0) ∨ (ss_38 = ss ∧ so = so ∧ (ev - 1) = ev ∧ fz snd (ev - 1) + 1 = fz snd ev)) from (Or.inl ⟨hss_46, rfl⟩))⟩⟩ d_MO_goesOn_290
              · skip
                exact hbad.elim
            · skip
              exact hbad.elim
          · skip
            have hq_48 := (lg_cmp_eq _ _).mp hb_31
            refine lv_iconst (v := 1) hx hb d_MO_goesOn_106 (by decide) ?_
            refine lv_goto (tgt := 111) hx hb d_MO_goesOn_107 (by decide) ?_
            refine em_call (wr := [((f 25), .inl (cI, 41, .inl bss)), ((f 26), .inl (cI, 41, .inl wts)), ((f 27), .inl (cZ, 41, .inl snd)), ((f 28), .inl (cI, 41, .inl nbr))]) (em_runV (As := [.int (nI 1)]) (rest := [.long (wof 2 2), .int 3, .ref h0]) ⟨hx, hb, hml, hown, hG⟩ (mo_argument l D cI cL cZ cC f h0 tn rm ln lx at_ bd fs dp on os bn df th mb mo_ (ev - 1) ss so v rs pt ot cl two spn trm one Gc 1 _ (by omega) (by omega) hHG hsp2 hnt) (cwV 1 hG (gd_V k_1581 k_1583 k_92 k_116 k_1584) rfl rfl rfl (by decide +kernel) ⟨Nat.le_of_ble_eq_true rfl, Nat.le_of_ble_eq_true rfl⟩) (tw_V (q0 := 0) hP hD hK hE hst hS rfl rfl [0, 2, 7, 8, 1] rfl (by decide)) rfl rfl hl.1 rfl (lv_room (Nat.le_of_ble_eq_true rfl)) d_MO_goesOn_111 ⟨Nat.le_of_ble_eq_true rfl, Nat.le_of_ble_eq_true rfl⟩) hP hD hS hA [0, 2, 7, 8, 1] [3, 4, 5, 6] rfl rfl (by decide) (by decide) (fun v u H locs hok hP hD hS => ?_) (fun x C u H locs hbad hxx hP hD hS => ?_)
            · skip
              obtain ⟨r_49, rfl, hp_50⟩ := hok
              have hres_51 : (okh df Gc r_49) := hp_50
              have hP : va_P D classes [((f 25), .inl (cI, 41, .inl bss)), ((f 26), .inl (cI, 41, .inl wts)), ((f 27), .inl (cZ, 41, .inl snd)), ((f 28), .inl (cI, 41, .inl nbr)), (h0, .inr (8, mS f tn rm ln lx at_ bd fs dp on os bn df th mb mo_ (ev - 1) ss so v rs pt ot cl)), ((f 21), .inl (cL, 400, .inr (.inl two))), ((f 24), .inl (cI, 150, .inl spn)), ((f 18), .inl (cL, 9, .inr (.inl trm))), ((f 20), .inl (cL, 400, .inr (.inl one)))] H := hP
              have hD : va_D A [((f 25), .inl (cI, 41, .inl bss)), ((f 26), .inl (cI, 41, .inl wts)), ((f 27), .inl (cZ, 41, .inl snd)), ((f 28), .inl (cI, 41, .inl nbr)), (h0, .inr (8, mS f tn rm ln lx at_ bd fs dp on os bn df th mb mo_ (ev - 1) ss so v rs pt ot cl)), ((f 21), .inl (cL, 400, .inr (.inl two))), ((f 24), .inl (cI, 150, .inl spn)), ((f 18), .inl (cL, 9, .inr (.inl trm))), ((f 20), .inl (cL, 400, .inr (.inl one)))] := hD
              refine W.eq (g2 := F0 m 114 ls [.long r_49, .long (wof 2 2), .int 3, .ref h0]) rfl ?_
              refine em_call (wr := [((f 25), .inl (cI, 41, .inl bss)), ((f 26), .inl (cI, 41, .inl wts)), ((f 27), .inl (cZ, 41, .inl snd)), ((f 28), .inl (cI, 41, .inl nbr))]) (em_runV (As := [.int (nI 3), .long (wof 2 2), .long r_49]) (rest := []) ⟨hx, hb, hml, hown, hG⟩ (mo_overwrite l D cI cL cZ cC f h0 tn rm ln lx at_ bd fs dp on os bn df th mb mo_ (ev - 1) ss so v rs pt ot cl one two spn trm Gc 3 (wof 2 2) r_49 _ (by omega) (by omega) (by omega) hHG (okh_con 2 (by decide) (by decide)) hres_51 hsp2 hnt) (cwV 3 hG (gd_V k_1592 k_1594 k_94 k_116 k_1595) rfl rfl rfl (by decide +kernel) ⟨Nat.le_of_ble_eq_true rfl, Nat.le_of_ble_eq_true rfl⟩) (tw_V (q0 := 4) hP hD hK hE hst hS rfl rfl [4, 8, 5, 6, 7] rfl (by decide)) rfl rfl hl.1 rfl (lv_room (Nat.le_of_ble_eq_true rfl)) d_MO_goesOn_114 ⟨Nat.le_of_ble_eq_true rfl, Nat.le_of_ble_eq_true rfl⟩) hP hD hS hA [4, 8, 5, 6, 7] [0, 1, 2, 3] rfl rfl (by decide) (by decide) (fun v u H locs hok hP hD hS => ?_) (fun x C u H locs hbad hxx hP hD hS => ?_)
              · skip
                obtain ⟨tp_52, lk_53, ss_54, one_55, two_56⟩ := u
                obtain ⟨rfl, hp_58⟩ := hok
                obtain ⟨hHG_59, htp_60, hlk_61, hss_62⟩ : (HG df Gc trm one_55 two_56) ∧ (tp_52 + 3 = mb + 1) ∧ (lk_53 = (wof 2 2)) ∧ (ss_54 = ss + 1) := hp_58
                have hP : va_P D classes [((f 25), .inl (cI, 41, .inl bss)), ((f 26), .inl (cI, 41, .inl wts)), ((f 27), .inl (cZ, 41, .inl snd)), ((f 28), .inl (cI, 41, .inl nbr)), (h0, .inr (8, mS f tn rm ln lx at_ bd fs dp on os bn df th tp_52 mo_ (ev - 1) ss_54 so lk_53 rs pt ot cl)), ((f 20), .inl (cL, 400, .inr (.inl one_55))), ((f 21), .inl (cL, 400, .inr (.inl two_56))), ((f 24), .inl (cI, 150, .inl spn)), ((f 18), .inl (cL, 9, .inr (.inl trm)))] H := hP
                have hD : va_D A [((f 25), .inl (cI, 41, .inl bss)), ((f 26), .inl (cI, 41, .inl wts)), ((f 27), .inl (cZ, 41, .inl snd)), ((f 28), .inl (cI, 41, .inl nbr)), (h0, .inr (8, mS f tn rm ln lx at_ bd fs dp on os bn df th tp_52 mo_ (ev - 1) ss_54 so lk_53 rs pt ot cl)), ((f 20), .inl (cL, 400, .inr (.inl one_55))), ((f 21), .inl (cL, 400, .inr (.inl two_56))), ((f 24), .inl (cI, 150, .inl spn)), ((f 18), .inl (cL, 9, .inr (.inl trm)))] := hD
                refine W.eq (g2 := F0 m 117 ls []) rfl ?_
                refine lv_goto (tgt := 290) hx hb d_MO_goesOn_117 (by decide) ?_
                exact em_vret hx hb hr hlocks hP hD hK hS (ev - 1, tp_52, lk_53, ss_54, so, one_55, two_56, bss, wts, snd, nbr) [4, 5, 6, 0, 1, 2, 3, 7, 8] (by decide) rfl ⟨rfl, ⟨hsnd, (show MI df Gc trm one_55 two_56 spn tp_52 lk_53 rs pt from ⟨hHG_59, (by rw [hlk_61]; exact (okh_con 2 (by decide) (by decide))), hrs, (by omega), (fun k hk => hsp k (by omega))⟩), (show (ev - 1) ≤ 40 from (by first | assumption | omega | exact Or.inl rfl)), (show me bss wts (ev - 1) tp_52 0 from (hsl.mono (by omega))), (show ((ss_54 = ss + 1 ∧ so = so) ∨ (ss_54 = ss ∧ ¬ so = 0) ∨ (ss_54 = ss ∧ so = so ∧ (ev - 1) = ev ∧ fz snd (ev - 1) + 1 = fz snd ev)) from (Or.inl ⟨hss_62, rfl⟩))⟩⟩ d_MO_goesOn_290
              · skip
                exact hbad.elim
            · skip
              exact hbad.elim
      · skip
        exact hbad.elim
  · skip
    refine lv_iload_n hx hb d_MO_goesOn_46 rfl (lv_at hl 3 rfl) ?_
    refine lv_if_ne (tgt := 59) hx hb d_MO_goesOn_47 (by decide) (fun hbr => absurd (by decide) hbr) (fun hbr => ?_)
    refine lv_iload hx hb d_MO_goesOn_50 (lv_at hl 6 rfl) ?_
    refine lv_if_ne (tgt := 59) hx hb d_MO_goesOn_52 (by decide) (fun hbr => absurd (by decide) hbr) (fun hbr => ?_)
    refine lv_iconst (v := 1) hx hb d_MO_goesOn_55 (by decide) ?_
    refine lv_goto (tgt := 60) hx hb d_MO_goesOn_56 (by decide) ?_
    refine lv_istore (lv' := [(10, .int 1), (9, .int (nI wa)), (0, .ref h0), (1, .long v), (3, .int 0), (4, .long x), (6, .long y), (8, .int 0)]) hx hb d_MO_goesOn_60 hl (Nat.le_of_ble_eq_true rfl) rfl (fun ls hl => ?_)
    refine lv_iload hx hb d_MO_goesOn_62 (lv_at hl 1 rfl) ?_
    refine lv_bipush (v := 10) hx hb d_MO_goesOn_64 (by decide) ?_
    refine lv_icmp_ne (tgt := 120) hx hb d_MO_goesOn_66 (by decide) (fun hb_64 => ?_) (fun hb_64 => ?_)
    · skip
      have hn_65 : ¬ wa = 10 := fun h => hb_64 ((nI_eq (a := wa) (b := 10) (by omega) (by omega)).mpr h)
      refine lv_iload hx hb d_MO_goesOn_120 (lv_at hl 1 rfl) ?_
      refine lv_bipush (v := 18) hx hb d_MO_goesOn_122 (by decide) ?_
      refine lv_icmp_eq (tgt := 134) hx hb d_MO_goesOn_124 (by decide) (fun hb_66 => ?_) (fun hb_66 => ?_)
      · skip
        have hn_67 : wa = 18 := (nI_eq (a := wa) (b := 18) (by omega) (by omega)).mp hb_66
        refine lv_iload_n hx hb d_MO_goesOn_134 rfl (lv_at hl 4 rfl) ?_
        refine lv_if_ne (tgt := 146) hx hb d_MO_goesOn_135 (by decide) (fun hbr => absurd (by decide) hbr) (fun hbr => ?_)
        refine lv_aload_n hx hb d_MO_goesOn_138 rfl (lv_at hl 2 rfl) ?_
        refine lv_iconst (v := 2) hx hb d_MO_goesOn_139 (by decide) ?_
        refine va_put (D := D) (ci := 8) (v := .int 2) (ty := .int) (C := rn_MO) (T := fl_MO) (N := 55) hx hb hG in_MO tt_MO tk_MO nn_MO hown hK hP hD hS 0 rfl rfl 42 (by decide) (hG _ k_1233) (fun _ h9 => h9) rfl (by decide +kernel) rfl rfl (Nat.le_of_ble_eq_true rfl) d_MO_goesOn_140 (fun H locs hP hD hS => ?_)
        have hP : va_P D classes [(h0, .inr (8, mS f tn rm ln lx at_ bd fs dp on os bn df th mb mo_ (ev - 1) ss 2 v rs pt ot cl)), ((f 20), .inl (cL, 400, .inr (.inl one))), ((f 21), .inl (cL, 400, .inr (.inl two))), ((f 25), .inl (cI, 41, .inl bss)), ((f 26), .inl (cI, 41, .inl wts)), ((f 27), .inl (cZ, 41, .inl snd)), ((f 28), .inl (cI, 41, .inl nbr)), ((f 24), .inl (cI, 150, .inl spn)), ((f 18), .inl (cL, 9, .inr (.inl trm)))] H := hP
        have hD : va_D A [(h0, .inr (8, mS f tn rm ln lx at_ bd fs dp on os bn df th mb mo_ (ev - 1) ss 2 v rs pt ot cl)), ((f 20), .inl (cL, 400, .inr (.inl one))), ((f 21), .inl (cL, 400, .inr (.inl two))), ((f 25), .inl (cI, 41, .inl bss)), ((f 26), .inl (cI, 41, .inl wts)), ((f 27), .inl (cZ, 41, .inl snd)), ((f 28), .inl (cI, 41, .inl nbr)), ((f 24), .inl (cI, 150, .inl spn)), ((f 18), .inl (cL, 9, .inr (.inl trm)))] := hD
        refine lv_goto (tgt := 290) hx hb d_MO_goesOn_143 (by decide) ?_
        exact em_vret hx hb hr hlocks hP hD hK hS (ev - 1, mb, v, ss, 2, one, two, bss, wts, snd, nbr) [0, 1, 2, 3, 4, 5, 6, 7, 8] (by decide) rfl ⟨rfl, ⟨hsnd, (show MI df Gc trm one two spn mb v rs pt from ⟨hHG, hv, hrs, (by omega), (fun k hk => hsp k (by omega))⟩), (show (ev - 1) ≤ 40 from (by first | assumption | omega | exact Or.inl rfl)), (show me bss wts (ev - 1) mb 0 from (hsl.mono (by omega))), (show ((ss = ss + 1 ∧ 2 = so) ∨ (ss = ss ∧ ¬ 2 = 0) ∨ (ss = ss ∧ 2 = so ∧ (ev - 1) = ev ∧ fz snd (ev - 1) + 1 = fz snd ev)) from (Or.inr (Or.inl ⟨rfl, by decide⟩)))⟩⟩ d_MO_goesOn_290
      · skip
        have hn_68 : ¬ wa = 18 := fun h => hb_66 ((nI_eq (a := wa) (b := 18) (by omega) (by omega)).mpr h)
        refine lv_iload hx hb d_MO_goesOn_127 (lv_at hl 1 rfl) ?_
        refine lv_bipush (v := 19) hx hb d_MO_goesOn_129 (by decide) ?_
        refine lv_icmp_ne (tgt := 172) hx hb d_MO_goesOn_131 (by decide) (fun hb_69 => ?_) (fun hb_69 => ?_)
        · skip
          have hn_70 : ¬ wa = 19 := fun h => hb_69 ((nI_eq (a := wa) (b := 19) (by omega) (by omega)).mpr h)
          refine lv_iload hx hb d_MO_goesOn_172 (lv_at hl 1 rfl) ?_
          refine lv_bipush (v := 20) hx hb d_MO_goesOn_174 (by decide) ?_
          refine lv_icmp_ne (tgt := 227) hx hb d_MO_goesOn_176 (by decide) (fun hb_71 => ?_) (fun hb_71 => ?_)
          · skip
            have hn_72 : ¬ wa = 20 := fun h => hb_71 ((nI_eq (a := wa) (b := 20) (by omega) (by omega)).mpr h)
            refine lv_iload hx hb d_MO_goesOn_227 (lv_at hl 0 rfl) ?_
            refine lv_if_ne (tgt := 240) hx hb d_MO_goesOn_229 (by decide) (fun hbr => ?_) (fun hbr => absurd hbr (by decide))
            refine lv_aload_n hx hb d_MO_goesOn_240 rfl (lv_at hl 2 rfl) ?_
            refine va_get (D := D) (ci := 8) (v := .ref (f 27)) (C := rn_MO) (T := fl_MO) (N := 55) hx hb hG in_MO hown hK hP 0 rfl rfl 45 (by decide) (hG _ k_1236) (fun _ h9 => h9) rfl d_MO_goesOn_241 ?_
            refine lv_aload_n hx hb d_MO_goesOn_244 rfl (lv_at hl 2 rfl) ?_
            refine va_get (D := D) (ci := 8) (v := .int (nI (ev - 1))) (C := rn_MO) (T := fl_MO) (N := 55) hx hb hG in_MO hown hK hP 0 rfl rfl 40 (by decide) (hG _ k_1231) (fun _ h9 => h9) rfl d_MO_goesOn_245 ?_
            refine va_zald hx hb hK hP 5 2 rfl rfl (vp_in_nI (n := ev - 1) (N := 41) (by omega) (by omega)) d_MO_goesOn_248 ?_
            refine W.eq (g2 := F0 m 249 ls [.int (snd (ev - 1))]) (by rw [nI_clamp (n := ev - 1) (by omega)]) ?_
            refine lv_if_eq (tgt := 274) hx hb d_MO_goesOn_249 (by decide) (fun hb_73 => ?_) (fun hb_73 => ?_)
            · skip
              refine lv_aload_n hx hb d_MO_goesOn_274 rfl (lv_at hl 2 rfl) ?_
              refine lv_iload hx hb d_MO_goesOn_275 (lv_at hl 1 rfl) ?_
              refine lv_aload_n hx hb d_MO_goesOn_277 rfl (lv_at hl 2 rfl) ?_
              refine lv_iconst (v := 1) hx hb d_MO_goesOn_278 (by decide) ?_
              refine em_call (wr := [((f 25), .inl (cI, 41, .inl bss)), ((f 26), .inl (cI, 41, .inl wts)), ((f 27), .inl (cZ, 41, .inl snd)), ((f 28), .inl (cI, 41, .inl nbr))]) (em_runV (As := [.int (nI 1)]) (rest := [.int (nI wa), .ref h0]) ⟨hx, hb, hml, hown, hG⟩ (mo_argument l D cI cL cZ cC f h0 tn rm ln lx at_ bd fs dp on os bn df th mb mo_ (ev - 1) ss so v rs pt ot cl two spn trm one Gc 1 _ (by omega) (by omega) hHG hsp2 hnt) (cwV 1 hG (gd_V k_1581 k_1583 k_92 k_116 k_1584) rfl rfl rfl (by decide +kernel) ⟨Nat.le_of_ble_eq_true rfl, Nat.le_of_ble_eq_true rfl⟩) (tw_V (q0 := 0) hP hD hK hE hst hS rfl rfl [0, 2, 7, 8, 1] rfl (by decide)) rfl rfl hl.1 rfl (lv_room (Nat.le_of_ble_eq_true rfl)) d_MO_goesOn_279 ⟨Nat.le_of_ble_eq_true rfl, Nat.le_of_ble_eq_true rfl⟩) hP hD hS hA [0, 2, 7, 8, 1] [3, 4, 5, 6] rfl rfl (by decide) (by decide) (fun v u H locs hok hP hD hS => ?_) (fun x C u H locs hbad hxx hP hD hS => ?_)
              · skip
                obtain ⟨r_74, rfl, hp_75⟩ := hok
                have hres_76 : (okh df Gc r_74) := hp_75
                have hP : va_P D classes [((f 25), .inl (cI, 41, .inl bss)), ((f 26), .inl (cI, 41, .inl wts)), ((f 27), .inl (cZ, 41, .inl snd)), ((f 28), .inl (cI, 41, .inl nbr)), (h0, .inr (8, mS f tn rm ln lx at_ bd fs dp on os bn df th mb mo_ (ev - 1) ss so v rs pt ot cl)), ((f 21), .inl (cL, 400, .inr (.inl two))), ((f 24), .inl (cI, 150, .inl spn)), ((f 18), .inl (cL, 9, .inr (.inl trm))), ((f 20), .inl (cL, 400, .inr (.inl one)))] H := hP
                have hD : va_D A [((f 25), .inl (cI, 41, .inl bss)), ((f 26), .inl (cI, 41, .inl wts)), ((f 27), .inl (cZ, 41, .inl snd)), ((f 28), .inl (cI, 41, .inl nbr)), (h0, .inr (8, mS f tn rm ln lx at_ bd fs dp on os bn df th mb mo_ (ev - 1) ss so v rs pt ot cl)), ((f 21), .inl (cL, 400, .inr (.inl two))), ((f 24), .inl (cI, 150, .inl spn)), ((f 18), .inl (cL, 9, .inr (.inl trm))), ((f 20), .inl (cL, 400, .inr (.inl one)))] := hD
                refine W.eq (g2 := F0 m 282 ls [.long r_74, .int (nI wa), .ref h0]) rfl ?_
                refine lv_iconst (v := 1) hx hb d_MO_goesOn_282 (by decide) ?_
                refine lv_lload_n hx hb d_MO_goesOn_283 rfl (lv_at hl 3 rfl) ?_
                refine W.callR (W.runS (As := [.long v]) (rest := [.int 1, .long r_74, .int (nI wa), .ref h0]) ⟨hx, hb, hml, hown, hG⟩ (mo_valueOf l D cI cL cZ cC v ) (cwS 1 hG (gd_S k_1522 k_1523 k_116 k_1524) rfl rfl rfl (by decide +kernel) ⟨Nat.le_of_ble_eq_true rfl, Nat.le_of_ble_eq_true rfl⟩) (wq_S hP hK [] rfl) rfl rfl hl.1 rfl (lv_room (Nat.le_of_ble_eq_true rfl)) d_MO_goesOn_284 ⟨Nat.le_of_ble_eq_true rfl, Nat.le_of_ble_eq_true rfl⟩) ?_
                refine W.eq (g2 := F0 m 287 ls [.int v.toInt32, .int 1, .long r_74, .int (nI wa), .ref h0]) rfl ?_
                refine em_call (wr := [((f 21), .inl (cL, 400, .inr (.inl two))), ((f 24), .inl (cI, 150, .inl spn)), ((f 18), .inl (cL, 9, .inr (.inl trm))), ((f 20), .inl (cL, 400, .inr (.inl one)))]) (em_runV (As := [.int (nI wa), .long r_74, .int 1, .int v.toInt32]) (rest := []) ⟨hx, hb, hml, hown, hG⟩ (mo_eval1 l D cI cL cZ cC f h0 tn rm ln lx at_ bd fs dp on os bn df th mb mo_ (ev - 1) ss so v rs pt ot cl bss wts snd nbr wa r_74 v.toInt32 _ hsnd hw1 hw2 hw3 hw4 hsl (by omega) hnt) (cwV 4 hG (gd_V k_1600 k_1602 k_96 k_116 k_1603) rfl rfl rfl (by decide +kernel) ⟨Nat.le_of_ble_eq_true rfl, Nat.le_of_ble_eq_true rfl⟩) (tw_V (q0 := 4) hP hD hK hE hst hS rfl rfl [4, 0, 1, 2, 3] rfl (by decide)) rfl rfl hl.1 rfl (lv_room (Nat.le_of_ble_eq_true rfl)) d_MO_goesOn_287 ⟨Nat.le_of_ble_eq_true rfl, Nat.le_of_ble_eq_true rfl⟩) hP hD hS hA [4, 0, 1, 2, 3] [5, 6, 7, 8] rfl rfl (by decide) (by decide) (fun v u H locs hok hP hD hS => ?_) (fun x C u H locs hbad hxx hP hD hS => ?_)
                · skip
                  obtain ⟨so_77, ev_78, lk_79, bss_80, wts_81, snd_82, nbr_83⟩ := u
                  obtain ⟨rfl, hp_85⟩ := hok
                  obtain ⟨hsnd_86, hme_87, hev_88, hE_89⟩ : (bln snd_82) ∧ (me bss_80 wts_81 ev_78 mb 0) ∧ (ev_78 ≤ 40) ∧ (((¬ so_77 = 0 ∧ ev_78 = (ev - 1) ∧ lk_79 = v) ∨ (so_77 = so ∧ ev_78 = (ev - 1) + 1 ∧ lk_79 = r_74 ∧ fz snd_82 ev_78 = fz snd (ev - 1)))) := hp_85
                  have hP : va_P D classes [((f 21), .inl (cL, 400, .inr (.inl two))), ((f 24), .inl (cI, 150, .inl spn)), ((f 18), .inl (cL, 9, .inr (.inl trm))), ((f 20), .inl (cL, 400, .inr (.inl one))), (h0, .inr (8, mS f tn rm ln lx at_ bd fs dp on os bn df th mb mo_ ev_78 ss so_77 lk_79 rs pt ot cl)), ((f 25), .inl (cI, 41, .inl bss_80)), ((f 26), .inl (cI, 41, .inl wts_81)), ((f 27), .inl (cZ, 41, .inl snd_82)), ((f 28), .inl (cI, 41, .inl nbr_83))] H := hP
                  have hD : va_D A [((f 21), .inl (cL, 400, .inr (.inl two))), ((f 24), .inl (cI, 150, .inl spn)), ((f 18), .inl (cL, 9, .inr (.inl trm))), ((f 20), .inl (cL, 400, .inr (.inl one))), (h0, .inr (8, mS f tn rm ln lx at_ bd fs dp on os bn df th mb mo_ ev_78 ss so_77 lk_79 rs pt ot cl)), ((f 25), .inl (cI, 41, .inl bss_80)), ((f 26), .inl (cI, 41, .inl wts_81)), ((f 27), .inl (cZ, 41, .inl snd_82)), ((f 28), .inl (cI, 41, .inl nbr_83))] := hD
                  refine W.eq (g2 := F0 m 290 ls []) rfl ?_
                  exact em_vret hx hb hr hlocks hP hD hK hS (ev_78, mb, lk_79, ss, so_77, one, two, bss_80, wts_81, snd_82, nbr_83) [4, 3, 0, 5, 6, 7, 8, 1, 2] (by decide) rfl ⟨rfl, ⟨hsnd_86, (show MI df Gc trm one two spn mb lk_79 rs pt from ⟨hHG, (by rcases hE_89 with ⟨_, _, q⟩ | ⟨_, _, q, _⟩; rw [q]; exact hv; rw [q]; exact hres_76), hrs, (by omega), (fun k hk => hsp k (by omega))⟩), (show ev_78 ≤ 40 from (by first | assumption | omega | exact Or.inl rfl)), (show me bss_80 wts_81 ev_78 mb 0 from hme_87), (show ((ss = ss + 1 ∧ so_77 = so) ∨ (ss = ss ∧ ¬ so_77 = 0) ∨ (ss = ss ∧ so_77 = so ∧ ev_78 = ev ∧ fz snd_82 ev_78 + 1 = fz snd ev)) from (by rcases hE_89 with ⟨q, _, _⟩ | ⟨q1, q2, q3, q4⟩; exact Or.inr (Or.inl ⟨rfl, q⟩); exact Or.inr (Or.inr ⟨rfl, q1, by omega, by rw [q4]; exact (fz_last hev1 hb_73).symm⟩)))⟩⟩ d_MO_goesOn_290
                · skip
                  exact hbad.elim
              · skip
                exact hbad.elim
            · skip
              refine lv_aload_n hx hb d_MO_goesOn_252 rfl (lv_at hl 2 rfl) ?_
              refine lv_iload hx hb d_MO_goesOn_253 (lv_at hl 1 rfl) ?_
              refine lv_aload_n hx hb d_MO_goesOn_255 rfl (lv_at hl 2 rfl) ?_
              refine va_get (D := D) (ci := 8) (v := .ref (f 28)) (C := rn_MO) (T := fl_MO) (N := 55) hx hb hG in_MO hown hK hP 0 rfl rfl 46 (by decide) (hG _ k_1237) (fun _ h9 => h9) rfl d_MO_goesOn_256 ?_
              refine lv_aload_n hx hb d_MO_goesOn_259 rfl (lv_at hl 2 rfl) ?_
              refine va_get (D := D) (ci := 8) (v := .int (nI (ev - 1))) (C := rn_MO) (T := fl_MO) (N := 55) hx hb hG in_MO hown hK hP 0 rfl rfl 40 (by decide) (hG _ k_1231) (fun _ h9 => h9) rfl d_MO_goesOn_260 ?_
              refine va_iald hx hb hK hP 6 0 rfl rfl (vp_in_nI (n := ev - 1) (N := 41) (by omega) (by omega)) d_MO_goesOn_263 ?_
              refine W.eq (g2 := F0 m 264 ls [.int (nbr (ev - 1)), .int (nI wa), .ref h0]) (by rw [nI_clamp (n := ev - 1) (by omega)]) ?_
              refine lv_lload_n hx hb d_MO_goesOn_264 rfl (lv_at hl 3 rfl) ?_
              refine W.callR (W.runS (As := [.long v]) (rest := [.int (nbr (ev - 1)), .int (nI wa), .ref h0]) ⟨hx, hb, hml, hown, hG⟩ (mo_valueOf l D cI cL cZ cC v ) (cwS 1 hG (gd_S k_1522 k_1523 k_116 k_1524) rfl rfl rfl (by decide +kernel) ⟨Nat.le_of_ble_eq_true rfl, Nat.le_of_ble_eq_true rfl⟩) (wq_S hP hK [] rfl) rfl rfl hl.1 rfl (lv_room (Nat.le_of_ble_eq_true rfl)) d_MO_goesOn_265 ⟨Nat.le_of_ble_eq_true rfl, Nat.le_of_ble_eq_true rfl⟩) ?_
              refine W.eq (g2 := F0 m 268 ls [.int v.toInt32, .int (nbr (ev - 1)), .int (nI wa), .ref h0]) rfl ?_
              refine em_call (wr := [((f 25), .inl (cI, 41, .inl bss)), ((f 26), .inl (cI, 41, .inl wts)), ((f 27), .inl (cZ, 41, .inl snd)), ((f 28), .inl (cI, 41, .inl nbr))]) (em_runV (As := [.int (nI wa), .int (nbr (ev - 1)), .int v.toInt32]) (rest := []) ⟨hx, hb, hml, hown, hG⟩ (mo_counted l D cI cL cZ cC f h0 tn rm ln lx at_ bd fs dp on os bn df th mb mo_ (ev - 1) ss so v rs pt ot cl one two spn trm Gc (nI wa) (nbr (ev - 1)) v.toInt32 _ (by omega) (by omega) hHG hsp2 hnt) (cwV 3 hG (gd_V k_1596 k_1598 k_95 k_116 k_1599) rfl rfl rfl (by decide +kernel) ⟨Nat.le_of_ble_eq_true rfl, Nat.le_of_ble_eq_true rfl⟩) (tw_V (q0 := 0) hP hD hK hE hst hS rfl rfl [0, 1, 2, 7, 8] rfl (by decide)) rfl rfl hl.1 rfl (lv_room (Nat.le_of_ble_eq_true rfl)) d_MO_goesOn_268 ⟨Nat.le_of_ble_eq_true rfl, Nat.le_of_ble_eq_true rfl⟩) hP hD hS hA [0, 1, 2, 7, 8] [3, 4, 5, 6] rfl rfl (by decide) (by decide) (fun v u H locs hok hP hD hS => ?_) (fun x C u H locs hbad hxx hP hD hS => ?_)
              · skip
                obtain ⟨tp_91, lk_92, ss_93, one_94, two_95⟩ := u
                obtain ⟨rfl, hp_97⟩ := hok
                obtain ⟨hHG_98, htp_99, hlk_100, hss_101⟩ : (HG df Gc trm one_94 two_95) ∧ (tp_91 + 2 = mb + 1) ∧ (okh df Gc lk_92) ∧ (ss_93 = ss + 1) := hp_97
                have hP : va_P D classes [((f 25), .inl (cI, 41, .inl bss)), ((f 26), .inl (cI, 41, .inl wts)), ((f 27), .inl (cZ, 41, .inl snd)), ((f 28), .inl (cI, 41, .inl nbr)), (h0, .inr (8, mS f tn rm ln lx at_ bd fs dp on os bn df th tp_91 mo_ (ev - 1) ss_93 so lk_92 rs pt ot cl)), ((f 20), .inl (cL, 400, .inr (.inl one_94))), ((f 21), .inl (cL, 400, .inr (.inl two_95))), ((f 24), .inl (cI, 150, .inl spn)), ((f 18), .inl (cL, 9, .inr (.inl trm)))] H := hP
                have hD : va_D A [((f 25), .inl (cI, 41, .inl bss)), ((f 26), .inl (cI, 41, .inl wts)), ((f 27), .inl (cZ, 41, .inl snd)), ((f 28), .inl (cI, 41, .inl nbr)), (h0, .inr (8, mS f tn rm ln lx at_ bd fs dp on os bn df th tp_91 mo_ (ev - 1) ss_93 so lk_92 rs pt ot cl)), ((f 20), .inl (cL, 400, .inr (.inl one_94))), ((f 21), .inl (cL, 400, .inr (.inl two_95))), ((f 24), .inl (cI, 150, .inl spn)), ((f 18), .inl (cL, 9, .inr (.inl trm)))] := hD
                refine W.eq (g2 := F0 m 271 ls []) rfl ?_
                refine lv_goto (tgt := 290) hx hb d_MO_goesOn_271 (by decide) ?_
                exact em_vret hx hb hr hlocks hP hD hK hS (ev - 1, tp_91, lk_92, ss_93, so, one_94, two_95, bss, wts, snd, nbr) [4, 5, 6, 0, 1, 2, 3, 7, 8] (by decide) rfl ⟨rfl, ⟨hsnd, (show MI df Gc trm one_94 two_95 spn tp_91 lk_92 rs pt from ⟨hHG_98, hlk_100, hrs, (by omega), (fun k hk => hsp k (by omega))⟩), (show (ev - 1) ≤ 40 from (by first | assumption | omega | exact Or.inl rfl)), (show me bss wts (ev - 1) tp_91 0 from (hsl.mono (by omega))), (show ((ss_93 = ss + 1 ∧ so = so) ∨ (ss_93 = ss ∧ ¬ so = 0) ∨ (ss_93 = ss ∧ so = so ∧ (ev - 1) = ev ∧ fz snd (ev - 1) + 1 = fz snd ev)) from (Or.inl ⟨hss_101, rfl⟩))⟩⟩ d_MO_goesOn_290
              · skip
                exact hbad.elim
          · skip
            have hn_103 : wa = 20 := (nI_eq (a := wa) (b := 20) (by omega) (by omega)).mp hb_71
            refine lv_iload_n hx hb d_MO_goesOn_179 rfl (lv_at hl 4 rfl) ?_
            refine lv_if_ne (tgt := 201) hx hb d_MO_goesOn_180 (by decide) (fun hbr => absurd (by decide) hbr) (fun hbr => ?_)
            refine lv_lload_n hx hb d_MO_goesOn_183 rfl (lv_at hl 3 rfl) ?_
            refine lv_bipush (v := 17) hx hb d_MO_goesOn_184 (by decide) ?_
            refine W.callRL (W.runS (As := [.int 17]) (rest := [.long v]) ⟨hx, hb, hml, hown, hG⟩ (mo_constant l D cI cL cZ cC 17 ) (cwS 1 hG (gd_S k_1461 k_1462 k_116 k_1463) rfl rfl rfl (by decide +kernel) ⟨Nat.le_of_ble_eq_true rfl, Nat.le_of_ble_eq_true rfl⟩) (wq_S hP hK [] rfl) rfl rfl hl.1 rfl (lv_room (Nat.le_of_ble_eq_true rfl)) d_MO_goesOn_186 ⟨Nat.le_of_ble_eq_true rfl, Nat.le_of_ble_eq_true rfl⟩) ?_
            refine W.eq (g2 := F0 m 189 ls [.long (wof 2 17), .long v]) rfl ?_
            refine W.lcmp hx hb d_MO_goesOn_189 ?_
            refine lv_if_eq (tgt := 201) hx hb d_MO_goesOn_190 (by decide) (fun hb_104 => ?_) (fun hb_104 => ?_)
            · skip
              have hq_105 := (lg_cmp_eq _ _).mp hb_104
              refine lv_aload_n hx hb d_MO_goesOn_201 rfl (lv_at hl 2 rfl) ?_
              refine lv_iconst (v := 1) hx hb d_MO_goesOn_202 (by decide) ?_
              refine lv_iconst (v := 2) hx hb d_MO_goesOn_203 (by decide) ?_
              refine W.callRL (W.runS (As := [.int 2]) (rest := [.int 1, .ref h0]) ⟨hx, hb, hml, hown, hG⟩ (mo_constant l D cI cL cZ cC 2 ) (cwS 1 hG (gd_S k_1461 k_1462 k_116 k_1463) rfl rfl rfl (by decide +kernel) ⟨Nat.le_of_ble_eq_true rfl, Nat.le_of_ble_eq_true rfl⟩) (wq_S hP hK [] rfl) rfl rfl hl.1 rfl (lv_room (Nat.le_of_ble_eq_true rfl)) d_MO_goesOn_204 ⟨Nat.le_of_ble_eq_true rfl, Nat.le_of_ble_eq_true rfl⟩) ?_
              refine W.eq (g2 := F0 m 207 ls [.long (wof 2 2), .int 1, .ref h0]) rfl ?_
              refine lv_iload_n hx hb d_MO_goesOn_207 rfl (lv_at hl 4 rfl) ?_
              refine lv_if_eq (tgt := 216) hx hb d_MO_goesOn_208 (by decide) (fun hbr => ?_) (fun hbr => absurd (by decide) hbr)
              refine lv_bipush (v := 21) hx hb d_MO_goesOn_216 (by decide) ?_
              refine W.callRL (W.runS (As := [.int 21]) (rest := [.long (wof 2 2), .int 1, .ref h0]) ⟨hx, hb, hml, hown, hG⟩ (mo_constant l D cI cL cZ cC 21 ) (cwS 1 hG (gd_S k_1461 k_1462 k_116 k_1463) rfl rfl rfl (by decide +kernel) ⟨Nat.le_of_ble_eq_true rfl, Nat.le_of_ble_eq_true rfl⟩) (wq_S hP hK [] rfl) rfl rfl hl.1 rfl (lv_room (Nat.le_of_ble_eq_true rfl)) d_MO_goesOn_218 ⟨Nat.le_of_ble_eq_true rfl, Nat.le_of_ble_eq_true rfl⟩) ?_
              refine W.eq (g2 := F0 m 221 ls [.long (wof 2 21), .long (wof 2 2), .int 1, .ref h0]) rfl ?_
              refine em_call (wr := [((f 25), .inl (cI, 41, .inl bss)), ((f 26), .inl (cI, 41, .inl wts)), ((f 27), .inl (cZ, 41, .inl snd)), ((f 28), .inl (cI, 41, .inl nbr))]) (em_runV (As := [.int (nI 1), .long (wof 2 2), .long (wof 2 21)]) (rest := []) ⟨hx, hb, hml, hown, hG⟩ (mo_overwrite l D cI cL cZ cC f h0 tn rm ln lx at_ bd fs dp on os bn df th mb mo_ (ev - 1) ss so v rs pt ot cl one two spn trm Gc 1 (wof 2 2) (wof 2 21) _ (by omega) (by omega) (by omega) hHG (okh_con 2 (by decide) (by decide)) (okh_con 21 (by decide) (by decide)) hsp2 hnt) (cwV 3 hG (gd_V k_1592 k_1594 k_94 k_116 k_1595) rfl rfl rfl (by decide +kernel) ⟨Nat.le_of_ble_eq_true rfl, Nat.le_of_ble_eq_true rfl⟩) (tw_V (q0 := 0) hP hD hK hE hst hS rfl rfl [0, 1, 2, 7, 8] rfl (by decide)) rfl rfl hl.1 rfl (lv_room (Nat.le_of_ble_eq_true rfl)) d_MO_goesOn_221 ⟨Nat.le_of_ble_eq_true rfl, Nat.le_of_ble_eq_true rfl⟩) hP hD hS hA [0, 1, 2, 7, 8] [3, 4, 5, 6] rfl rfl (by decide) (by decide) (fun v u H locs hok hP hD hS => ?_) (fun x C u H locs hbad hxx hP hD hS => ?_)
              · skip
                obtain ⟨tp_106, lk_107, ss_108, one_109, two_110⟩ := u
                obtain ⟨rfl, hp_112⟩ := hok
                obtain ⟨hHG_113, htp_114, hlk_115, hss_116⟩ : (HG df Gc trm one_109 two_110) ∧ (tp_106 + 1 = mb + 1) ∧ (lk_107 = (wof 2 2)) ∧ (ss_108 = ss + 1) := hp_112
                have hP : va_P D classes [((f 25), .inl (cI, 41, .inl bss)), ((f 26), .inl (cI, 41, .inl wts)), ((f 27), .inl (cZ, 41, .inl snd)), ((f 28), .inl (cI, 41, .inl nbr)), (h0, .inr (8, mS f tn rm ln lx at_ bd fs dp on os bn df th tp_106 mo_ (ev - 1) ss_108 so lk_107 rs pt ot cl)), ((f 20), .inl (cL, 400, .inr (.inl one_109))), ((f 21), .inl (cL, 400, .inr (.inl two_110))), ((f 24), .inl (cI, 150, .inl spn)), ((f 18), .inl (cL, 9, .inr (.inl trm)))] H := hP
                have hD : va_D A [((f 25), .inl (cI, 41, .inl bss)), ((f 26), .inl (cI, 41, .inl wts)), ((f 27), .inl (cZ, 41, .inl snd)), ((f 28), .inl (cI, 41, .inl nbr)), (h0, .inr (8, mS f tn rm ln lx at_ bd fs dp on os bn df th tp_106 mo_ (ev - 1) ss_108 so lk_107 rs pt ot cl)), ((f 20), .inl (cL, 400, .inr (.inl one_109))), ((f 21), .inl (cL, 400, .inr (.inl two_110))), ((f 24), .inl (cI, 150, .inl spn)), ((f 18), .inl (cL, 9, .inr (.inl trm)))] := hD
                refine W.eq (g2 := F0 m 224 ls []) rfl ?_
                refine lv_goto (tgt := 290) hx hb d_MO_goesOn_224 (by decide) ?_
                exact em_vret hx hb hr hlocks hP hD hK hS (ev - 1, tp_106, lk_107, ss_108, so, one_109, two_110, bss, wts, snd, nbr) [4, 5, 6, 0, 1, 2, 3, 7, 8] (by decide) rfl ⟨rfl, ⟨hsnd, (show MI df Gc trm one_109 two_110 spn tp_106 lk_107 rs pt from ⟨hHG_113, (by rw [hlk_115]; exact (okh_con 2 (by decide) (by decide))), hrs, (by omega), (fun k hk => hsp k (by omega))⟩), (show (ev - 1) ≤ 40 from (by first | assumption | omega | exact Or.inl rfl)), (show me bss wts (ev - 1) tp_106 0 from (hsl.mono (by omega))), (show ((ss_108 = ss + 1 ∧ so = so) ∨ (ss_108 = ss ∧ ¬ so = 0) ∨ (ss_108 = ss ∧ so = so ∧ (ev - 1) = ev ∧ fz snd (ev - 1) + 1 = fz snd ev)) from (Or.inl ⟨hss_116, rfl⟩))⟩⟩ d_MO_goesOn_290
              · skip
                exact hbad.elim
            · skip
              have hq_118 : ¬ _ := fun h => hb_104 ((lg_cmp_eq _ _).mpr h)
              refine lv_aload_n hx hb d_MO_goesOn_193 rfl (lv_at hl 2 rfl) ?_
              refine lv_iconst (v := 2) hx hb d_MO_goesOn_194 (by decide) ?_
              refine va_put (D := D) (ci := 8) (v := .int 2) (ty := .int) (C := rn_MO) (T := fl_MO) (N := 55) hx hb hG in_MO tt_MO tk_MO nn_MO hown hK hP hD hS 0 rfl rfl 42 (by decide) (hG _ k_1233) (fun _ h9 => h9) rfl (by decide +kernel) rfl rfl (Nat.le_of_ble_eq_true rfl) d_MO_goesOn_195 (fun H locs hP hD hS => ?_)
              have hP : va_P D classes [(h0, .inr (8, mS f tn rm ln lx at_ bd fs dp on os bn df th mb mo_ (ev - 1) ss 2 v rs pt ot cl)), ((f 20), .inl (cL, 400, .inr (.inl one))), ((f 21), .inl (cL, 400, .inr (.inl two))), ((f 25), .inl (cI, 41, .inl bss)), ((f 26), .inl (cI, 41, .inl wts)), ((f 27), .inl (cZ, 41, .inl snd)), ((f 28), .inl (cI, 41, .inl nbr)), ((f 24), .inl (cI, 150, .inl spn)), ((f 18), .inl (cL, 9, .inr (.inl trm)))] H := hP
              have hD : va_D A [(h0, .inr (8, mS f tn rm ln lx at_ bd fs dp on os bn df th mb mo_ (ev - 1) ss 2 v rs pt ot cl)), ((f 20), .inl (cL, 400, .inr (.inl one))), ((f 21), .inl (cL, 400, .inr (.inl two))), ((f 25), .inl (cI, 41, .inl bss)), ((f 26), .inl (cI, 41, .inl wts)), ((f 27), .inl (cZ, 41, .inl snd)), ((f 28), .inl (cI, 41, .inl nbr)), ((f 24), .inl (cI, 150, .inl spn)), ((f 18), .inl (cL, 9, .inr (.inl trm)))] := hD
              refine lv_goto (tgt := 290) hx hb d_MO_goesOn_198 (by decide) ?_
              exact em_vret hx hb hr hlocks hP hD hK hS (ev - 1, mb, v, ss, 2, one, two, bss, wts, snd, nbr) [0, 1, 2, 3, 4, 5, 6, 7, 8] (by decide) rfl ⟨rfl, ⟨hsnd, (show MI df Gc trm one two spn mb v rs pt from ⟨hHG, hv, hrs, (by omega), (fun k hk => hsp k (by omega))⟩), (show (ev - 1) ≤ 40 from (by first | assumption | omega | exact Or.inl rfl)), (show me bss wts (ev - 1) mb 0 from (hsl.mono (by omega))), (show ((ss = ss + 1 ∧ 2 = so) ∨ (ss = ss ∧ ¬ 2 = 0) ∨ (ss = ss ∧ 2 = so ∧ (ev - 1) = ev ∧ fz snd (ev - 1) + 1 = fz snd ev)) from (Or.inr (Or.inl ⟨rfl, by decide⟩)))⟩⟩ d_MO_goesOn_290
        · skip
          have hn_119 : wa = 19 := (nI_eq (a := wa) (b := 19) (by omega) (by omega)).mp hb_69
          refine lv_iload_n hx hb d_MO_goesOn_134 rfl (lv_at hl 4 rfl) ?_
          refine lv_if_ne (tgt := 146) hx hb d_MO_goesOn_135 (by decide) (fun hbr => absurd (by decide) hbr) (fun hbr => ?_)
          refine lv_aload_n hx hb d_MO_goesOn_138 rfl (lv_at hl 2 rfl) ?_
          refine lv_iconst (v := 2) hx hb d_MO_goesOn_139 (by decide) ?_
          refine va_put (D := D) (ci := 8) (v := .int 2) (ty := .int) (C := rn_MO) (T := fl_MO) (N := 55) hx hb hG in_MO tt_MO tk_MO nn_MO hown hK hP hD hS 0 rfl rfl 42 (by decide) (hG _ k_1233) (fun _ h9 => h9) rfl (by decide +kernel) rfl rfl (Nat.le_of_ble_eq_true rfl) d_MO_goesOn_140 (fun H locs hP hD hS => ?_)
          have hP : va_P D classes [(h0, .inr (8, mS f tn rm ln lx at_ bd fs dp on os bn df th mb mo_ (ev - 1) ss 2 v rs pt ot cl)), ((f 20), .inl (cL, 400, .inr (.inl one))), ((f 21), .inl (cL, 400, .inr (.inl two))), ((f 25), .inl (cI, 41, .inl bss)), ((f 26), .inl (cI, 41, .inl wts)), ((f 27), .inl (cZ, 41, .inl snd)), ((f 28), .inl (cI, 41, .inl nbr)), ((f 24), .inl (cI, 150, .inl spn)), ((f 18), .inl (cL, 9, .inr (.inl trm)))] H := hP
          have hD : va_D A [(h0, .inr (8, mS f tn rm ln lx at_ bd fs dp on os bn df th mb mo_ (ev - 1) ss 2 v rs pt ot cl)), ((f 20), .inl (cL, 400, .inr (.inl one))), ((f 21), .inl (cL, 400, .inr (.inl two))), ((f 25), .inl (cI, 41, .inl bss)), ((f 26), .inl (cI, 41, .inl wts)), ((f 27), .inl (cZ, 41, .inl snd)), ((f 28), .inl (cI, 41, .inl nbr)), ((f 24), .inl (cI, 150, .inl spn)), ((f 18), .inl (cL, 9, .inr (.inl trm)))] := hD
          refine lv_goto (tgt := 290) hx hb d_MO_goesOn_143 (by decide) ?_
          exact em_vret hx hb hr hlocks hP hD hK hS (ev - 1, mb, v, ss, 2, one, two, bss, wts, snd, nbr) [0, 1, 2, 3, 4, 5, 6, 7, 8] (by decide) rfl ⟨rfl, ⟨hsnd, (show MI df Gc trm one two spn mb v rs pt from ⟨hHG, hv, hrs, (by omega), (fun k hk => hsp k (by omega))⟩), (show (ev - 1) ≤ 40 from (by first | assumption | omega | exact Or.inl rfl)), (show me bss wts (ev - 1) mb 0 from (hsl.mono (by omega))), (show ((ss = ss + 1 ∧ 2 = so) ∨ (ss = ss ∧ ¬ 2 = 0) ∨ (ss = ss ∧ 2 = so ∧ (ev - 1) = ev ∧ fz snd (ev - 1) + 1 = fz snd ev)) from (Or.inr (Or.inl ⟨rfl, by decide⟩)))⟩⟩ d_MO_goesOn_290
    · skip
      have hn_120 : wa = 10 := (nI_eq (a := wa) (b := 10) (by omega) (by omega)).mp hb_64
      refine lv_lload_n hx hb d_MO_goesOn_69 rfl (lv_at hl 3 rfl) ?_
      refine em_call (wr := [(h0, .inr (8, mS f tn rm ln lx at_ bd fs dp on os bn df th mb mo_ (ev - 1) ss so v rs pt ot cl)), ((f 20), .inl (cL, 400, .inr (.inl one))), ((f 21), .inl (cL, 400, .inr (.inl two))), ((f 25), .inl (cI, 41, .inl bss)), ((f 26), .inl (cI, 41, .inl wts)), ((f 27), .inl (cZ, 41, .inl snd)), ((f 28), .inl (cI, 41, .inl nbr)), ((f 24), .inl (cI, 150, .inl spn)), ((f 18), .inl (cL, 9, .inr (.inl trm)))]) (em_runS (As := [.long v]) (rest := []) ⟨hx, hb, hml, hown, hG⟩ (mo_truth l D cI cL cZ cC v _  hnt) (cwS 1 hG (gd_S k_1589 k_1590 k_116 k_1591) rfl rfl rfl (by decide +kernel) ⟨Nat.le_of_ble_eq_true rfl, Nat.le_of_ble_eq_true rfl⟩) (tw_S hP hD hK hE hst hS [] rfl (by decide)) rfl rfl hl.1 rfl (lv_room (Nat.le_of_ble_eq_true rfl)) d_MO_goesOn_70 ⟨Nat.le_of_ble_eq_true rfl, Nat.le_of_ble_eq_true rfl⟩) hP hD hS hA [] [0, 1, 2, 3, 4, 5, 6, 7, 8] rfl rfl (by decide) (by decide) (fun v u H locs hok hP hD hS => ?_) (fun x C u H locs hbad hxx hP hD hS => ?_)
      · skip
        obtain ⟨r_121, rfl, hp_122⟩ := hok
        have hP : va_P D classes [(h0, .inr (8, mS f tn rm ln lx at_ bd fs dp on os bn df th mb mo_ (ev - 1) ss so v rs pt ot cl)), ((f 20), .inl (cL, 400, .inr (.inl one))), ((f 21), .inl (cL, 400, .inr (.inl two))), ((f 25), .inl (cI, 41, .inl bss)), ((f 26), .inl (cI, 41, .inl wts)), ((f 27), .inl (cZ, 41, .inl snd)), ((f 28), .inl (cI, 41, .inl nbr)), ((f 24), .inl (cI, 150, .inl spn)), ((f 18), .inl (cL, 9, .inr (.inl trm)))] H := hP
        have hD : va_D A [(h0, .inr (8, mS f tn rm ln lx at_ bd fs dp on os bn df th mb mo_ (ev - 1) ss so v rs pt ot cl)), ((f 20), .inl (cL, 400, .inr (.inl one))), ((f 21), .inl (cL, 400, .inr (.inl two))), ((f 25), .inl (cI, 41, .inl bss)), ((f 26), .inl (cI, 41, .inl wts)), ((f 27), .inl (cZ, 41, .inl snd)), ((f 28), .inl (cI, 41, .inl nbr)), ((f 24), .inl (cI, 150, .inl spn)), ((f 18), .inl (cL, 9, .inr (.inl trm)))] := hD
        rcases hp_122 with rfl | rfl
        · skip
          refine W.eq (g2 := F0 m 73 ls [.int 0]) rfl ?_
          refine lv_if_eq (tgt := 81) hx hb d_MO_goesOn_73 (by decide) (fun hbr => ?_) (fun hbr => absurd (by decide) hbr)
          refine lv_aload_n hx hb d_MO_goesOn_81 rfl (lv_at hl 2 rfl) ?_
          refine lv_iconst (v := 2) hx hb d_MO_goesOn_82 (by decide) ?_
          refine va_put (D := D) (ci := 8) (v := .int 2) (ty := .int) (C := rn_MO) (T := fl_MO) (N := 55) hx hb hG in_MO tt_MO tk_MO nn_MO hown hK hP hD hS 0 rfl rfl 42 (by decide) (hG _ k_1233) (fun _ h9 => h9) rfl (by decide +kernel) rfl rfl (Nat.le_of_ble_eq_true rfl) d_MO_goesOn_83 (fun H locs hP hD hS => ?_)
          have hP : va_P D classes [(h0, .inr (8, mS f tn rm ln lx at_ bd fs dp on os bn df th mb mo_ (ev - 1) ss 2 v rs pt ot cl)), ((f 20), .inl (cL, 400, .inr (.inl one))), ((f 21), .inl (cL, 400, .inr (.inl two))), ((f 25), .inl (cI, 41, .inl bss)), ((f 26), .inl (cI, 41, .inl wts)), ((f 27), .inl (cZ, 41, .inl snd)), ((f 28), .inl (cI, 41, .inl nbr)), ((f 24), .inl (cI, 150, .inl spn)), ((f 18), .inl (cL, 9, .inr (.inl trm)))] H := hP
          have hD : va_D A [(h0, .inr (8, mS f tn rm ln lx at_ bd fs dp on os bn df th mb mo_ (ev - 1) ss 2 v rs pt ot cl)), ((f 20), .inl (cL, 400, .inr (.inl one))), ((f 21), .inl (cL, 400, .inr (.inl two))), ((f 25), .inl (cI, 41, .inl bss)), ((f 26), .inl (cI, 41, .inl wts)), ((f 27), .inl (cZ, 41, .inl snd)), ((f 28), .inl (cI, 41, .inl nbr)), ((f 24), .inl (cI, 150, .inl spn)), ((f 18), .inl (cL, 9, .inr (.inl trm)))] := hD
          refine lv_goto (tgt := 290) hx hb d_MO_goesOn_86 (by decide) ?_
          exact em_vret hx hb hr hlocks hP hD hK hS (ev - 1, mb, v, ss, 2, one, two, bss, wts, snd, nbr) [0, 1, 2, 3, 4, 5, 6, 7, 8] (by decide) rfl ⟨rfl, ⟨hsnd, (show MI df Gc trm one two spn mb v rs pt from ⟨hHG, hv, hrs, (by omega), (fun k hk => hsp k (by omega))⟩), (show (ev - 1) ≤ 40 from (by first | assumption | omega | exact Or.inl rfl)), (show me bss wts (ev - 1) mb 0 from (hsl.mono (by omega))), (show ((ss = ss + 1 ∧ 2 = so) ∨ (ss = ss ∧ ¬ 2 = 0) ∨ (ss = ss ∧ 2 = so ∧ (ev - 1) = ev ∧ fz snd (ev - 1) + 1 = fz snd ev)) from (Or.inr (Or.inl ⟨rfl, by decide⟩)))⟩⟩ d_MO_goesOn_290
        · skip
          refine W.eq (g2 := F0 m 73 ls [.int 1]) rfl ?_
          refine lv_if_eq (tgt := 81) hx hb d_MO_goesOn_73 (by decide) (fun hbr => absurd hbr (by decide)) (fun hbr => ?_)
          refine lv_iload hx hb d_MO_goesOn_76 (lv_at hl 7 rfl) ?_
          refine lv_if_eq (tgt := 89) hx hb d_MO_goesOn_78 (by decide) (fun hbr => ?_) (fun hbr => absurd (by decide) hbr)
          refine lv_aload_n hx hb d_MO_goesOn_89 rfl (lv_at hl 2 rfl) ?_
          refine lv_iconst (v := 3) hx hb d_MO_goesOn_90 (by decide) ?_
          refine lv_iconst (v := 2) hx hb d_MO_goesOn_91 (by decide) ?_
          refine W.callRL (W.runS (As := [.int 2]) (rest := [.int 3, .ref h0]) ⟨hx, hb, hml, hown, hG⟩ (mo_constant l D cI cL cZ cC 2 ) (cwS 1 hG (gd_S k_1461 k_1462 k_116 k_1463) rfl rfl rfl (by decide +kernel) ⟨Nat.le_of_ble_eq_true rfl, Nat.le_of_ble_eq_true rfl⟩) (wq_S hP hK [] rfl) rfl rfl hl.1 rfl (lv_room (Nat.le_of_ble_eq_true rfl)) d_MO_goesOn_92 ⟨Nat.le_of_ble_eq_true rfl, Nat.le_of_ble_eq_true rfl⟩) ?_
          refine W.eq (g2 := F0 m 95 ls [.long (wof 2 2), .int 3, .ref h0]) rfl ?_
          refine lv_aload_n hx hb d_MO_goesOn_95 rfl (lv_at hl 2 rfl) ?_
          refine lv_lload_n hx hb d_MO_goesOn_96 rfl (lv_at hl 3 rfl) ?_
          refine lv_bipush (v := 21) hx hb d_MO_goesOn_97 (by decide) ?_
          refine W.callRL (W.runS (As := [.int 21]) (rest := [.long v, .ref h0, .long (wof 2 2), .int 3, .ref h0]) ⟨hx, hb, hml, hown, hG⟩ (mo_constant l D cI cL cZ cC 21 ) (cwS 1 hG (gd_S k_1461 k_1462 k_116 k_1463) rfl rfl rfl (by decide +kernel) ⟨Nat.le_of_ble_eq_true rfl, Nat.le_of_ble_eq_true rfl⟩) (wq_S hP hK [] rfl) rfl rfl hl.1 rfl (lv_room (Nat.le_of_ble_eq_true rfl)) d_MO_goesOn_99 ⟨Nat.le_of_ble_eq_true rfl, Nat.le_of_ble_eq_true rfl⟩) ?_
          refine W.eq (g2 := F0 m 102 ls [.long (wof 2 21), .long v, .ref h0, .long (wof 2 2), .int 3, .ref h0]) rfl ?_
          refine W.lcmp hx hb d_MO_goesOn_102 ?_
          refine lv_if_ne (tgt := 110) hx hb d_MO_goesOn_103 (by decide) (fun hb_123 => ?_) (fun hb_123 => ?_)
          · skip
            have hq_124 : ¬ _ := fun h => hb_123 ((lg_cmp_eq _ _).mpr h)
            refine lv_iconst (v := 2) hx hb d_MO_goesOn_110 (by decide) ?_
            refine em_call (wr := [((f 25), .inl (cI, 41, .inl bss)), ((f 26), .inl (cI, 41, .inl wts)), ((f 27), .inl (cZ, 41, .inl snd)), ((f 28), .inl (cI, 41, .inl nbr))]) (em_runV (As := [.int (nI 2)]) (rest := [.long (wof 2 2), .int 3, .ref h0]) ⟨hx, hb, hml, hown, hG⟩ (mo_argument l D cI cL cZ cC f h0 tn rm ln lx at_ bd fs dp on os bn df th mb mo_ (ev - 1) ss so v rs pt ot cl two spn trm one Gc 2 _ (by omega) (by omega) hHG hsp2 hnt) (cwV 1 hG (gd_V k_1581 k_1583 k_92 k_116 k_1584) rfl rfl rfl (by decide +kernel) ⟨Nat.le_of_ble_eq_true rfl, Nat.le_of_ble_eq_true rfl⟩) (tw_V (q0 := 0) hP hD hK hE hst hS rfl rfl [0, 2, 7, 8, 1] rfl (by decide)) rfl rfl hl.1 rfl (lv_room (Nat.le_of_ble_eq_true rfl)) d_MO_goesOn_111 ⟨Nat.le_of_ble_eq_true rfl, Nat.le_of_ble_eq_true rfl⟩) hP hD hS hA [0, 2, 7, 8, 1] [3, 4, 5, 6] rfl rfl (by decide) (by decide) (fun v u H locs hok hP hD hS => ?_) (fun x C u H locs hbad hxx hP hD hS => ?_)
            · skip
              obtain ⟨r_125, rfl, hp_126⟩ := hok
              have hres_127 : (okh df Gc r_125) := hp_126
              have hP : va_P D classes [((f 25), .inl (cI, 41, .inl bss)), ((f 26), .inl (cI, 41, .inl wts)), ((f 27), .inl (cZ, 41, .inl snd)), ((f 28), .inl (cI, 41, .inl nbr)), (h0, .inr (8, mS f tn rm ln lx at_ bd fs dp on os bn df th mb mo_ (ev - 1) ss so v rs pt ot cl)), ((f 21), .inl (cL, 400, .inr (.inl two))), ((f 24), .inl (cI, 150, .inl spn)), ((f 18), .inl (cL, 9, .inr (.inl trm))), ((f 20), .inl (cL, 400, .inr (.inl one)))] H := hP
              have hD : va_D A [((f 25), .inl (cI, 41, .inl bss)), ((f 26), .inl (cI, 41, .inl wts)), ((f 27), .inl (cZ, 41, .inl snd)), ((f 28), .inl (cI, 41, .inl nbr)), (h0, .inr (8, mS f tn rm ln lx at_ bd fs dp on os bn df th mb mo_ (ev - 1) ss so v rs pt ot cl)), ((f 21), .inl (cL, 400, .inr (.inl two))), ((f 24), .inl (cI, 150, .inl spn)), ((f 18), .inl (cL, 9, .inr (.inl trm))), ((f 20), .inl (cL, 400, .inr (.inl one)))] := hD
              refine W.eq (g2 := F0 m 114 ls [.long r_125, .long (wof 2 2), .int 3, .ref h0]) rfl ?_
              refine em_call (wr := [((f 25), .inl (cI, 41, .inl bss)), ((f 26), .inl (cI, 41, .inl wts)), ((f 27), .inl (cZ, 41, .inl snd)), ((f 28), .inl (cI, 41, .inl nbr))]) (em_runV (As := [.int (nI 3), .long (wof 2 2), .long r_125]) (rest := []) ⟨hx, hb, hml, hown, hG⟩ (mo_overwrite l D cI cL cZ cC f h0 tn rm ln lx at_ bd fs dp on os bn df th mb mo_ (ev - 1) ss so v rs pt ot cl one two spn trm Gc 3 (wof 2 2) r_125 _ (by omega) (by omega) (by omega) hHG (okh_con 2 (by decide) (by decide)) hres_127 hsp2 hnt) (cwV 3 hG (gd_V k_1592 k_1594 k_94 k_116 k_1595) rfl rfl rfl (by decide +kernel) ⟨Nat.le_of_ble_eq_true rfl, Nat.le_of_ble_eq_true rfl⟩) (tw_V (q0 := 4) hP hD hK hE hst hS rfl rfl [4, 8, 5, 6, 7] rfl (by decide)) rfl rfl hl.1 rfl (lv_room (Nat.le_of_ble_eq_true rfl)) d_MO_goesOn_114 ⟨Nat.le_of_ble_eq_true rfl, Nat.le_of_ble_eq_true rfl⟩) hP hD hS hA [4, 8, 5, 6, 7] [0, 1, 2, 3] rfl rfl (by decide) (by decide) (fun v u H locs hok hP hD hS => ?_) (fun x C u H locs hbad hxx hP hD hS => ?_)
              · skip
                obtain ⟨tp_128, lk_129, ss_130, one_131, two_132⟩ := u
                obtain ⟨rfl, hp_134⟩ := hok
                obtain ⟨hHG_135, htp_136, hlk_137, hss_138⟩ : (HG df Gc trm one_131 two_132) ∧ (tp_128 + 3 = mb + 1) ∧ (lk_129 = (wof 2 2)) ∧ (ss_130 = ss + 1) := hp_134
                have hP : va_P D classes [((f 25), .inl (cI, 41, .inl bss)), ((f 26), .inl (cI, 41, .inl wts)), ((f 27), .inl (cZ, 41, .inl snd)), ((f 28), .inl (cI, 41, .inl nbr)), (h0, .inr (8, mS f tn rm ln lx at_ bd fs dp on os bn df th tp_128 mo_ (ev - 1) ss_130 so lk_129 rs pt ot cl)), ((f 20), .inl (cL, 400, .inr (.inl one_131))), ((f 21), .inl (cL, 400, .inr (.inl two_132))), ((f 24), .inl (cI, 150, .inl spn)), ((f 18), .inl (cL, 9, .inr (.inl trm)))] H := hP
                have hD : va_D A [((f 25), .inl (cI, 41, .inl bss)), ((f 26), .inl (cI, 41, .inl wts)), ((f 27), .inl (cZ, 41, .inl snd)), ((f 28), .inl (cI, 41, .inl nbr)), (h0, .inr (8, mS f tn rm ln lx at_ bd fs dp on os bn df th tp_128 mo_ (ev - 1) ss_130 so lk_129 rs pt ot cl)), ((f 20), .inl (cL, 400, .inr (.inl one_131))), ((f 21), .inl (cL, 400, .inr (.inl two_132))), ((f 24), .inl (cI, 150, .inl spn)), ((f 18), .inl (cL, 9, .inr (.inl trm)))] := hD
                refine W.eq (g2 := F0 m 117 ls []) rfl ?_
                refine lv_goto (tgt := 290) hx hb d_MO_goesOn_117 (by decide) ?_
                exact em_vret hx hb hr hlocks hP hD hK hS (ev - 1, tp_128, lk_129, ss_130, so, one_131, two_132, bss, wts, snd, nbr) [4, 5, 6, 0, 1, 2, 3, 7, 8] (by decide) rfl ⟨rfl, ⟨hsnd, (show MI df Gc trm one_131 two_132 spn tp_128 lk_129 rs pt from ⟨hHG_135, (by rw [hlk_137]; exact (okh_con 2 (by decide) (by decide))), hrs, (by omega), (fun k hk => hsp k (by omega))⟩), (show (ev - 1) ≤ 40 from (by first | assumption | omega | exact Or.inl rfl)), (show me bss wts (ev - 1) tp_128 0 from (hsl.mono (by omega))), (show ((ss_130 = ss + 1 ∧ so = so) ∨ (ss_130 = ss ∧ ¬ so = 0) ∨ (ss_130 = ss ∧ so = so ∧ (ev - 1) = ev ∧ fz snd (ev - 1) + 1 = fz snd ev)) from (Or.inl ⟨hss_138, rfl⟩))⟩⟩ d_MO_goesOn_290
              · skip
                exact hbad.elim
            · skip
              exact hbad.elim
          · skip
            have hq_140 := (lg_cmp_eq _ _).mp hb_123
            refine lv_iconst (v := 1) hx hb d_MO_goesOn_106 (by decide) ?_
            refine lv_goto (tgt := 111) hx hb d_MO_goesOn_107 (by decide) ?_
            refine em_call (wr := [((f 25), .inl (cI, 41, .inl bss)), ((f 26), .inl (cI, 41, .inl wts)), ((f 27), .inl (cZ, 41, .inl snd)), ((f 28), .inl (cI, 41, .inl nbr))]) (em_runV (As := [.int (nI 1)]) (rest := [.long (wof 2 2), .int 3, .ref h0]) ⟨hx, hb, hml, hown, hG⟩ (mo_argument l D cI cL cZ cC f h0 tn rm ln lx at_ bd fs dp on os bn df th mb mo_ (ev - 1) ss so v rs pt ot cl two spn trm one Gc 1 _ (by omega) (by omega) hHG hsp2 hnt) (cwV 1 hG (gd_V k_1581 k_1583 k_92 k_116 k_1584) rfl rfl rfl (by decide +kernel) ⟨Nat.le_of_ble_eq_true rfl, Nat.le_of_ble_eq_true rfl⟩) (tw_V (q0 := 0) hP hD hK hE hst hS rfl rfl [0, 2, 7, 8, 1] rfl (by decide)) rfl rfl hl.1 rfl (lv_room (Nat.le_of_ble_eq_true rfl)) d_MO_goesOn_111 ⟨Nat.le_of_ble_eq_true rfl, Nat.le_of_ble_eq_true rfl⟩) hP hD hS hA [0, 2, 7, 8, 1] [3, 4, 5, 6] rfl rfl (by decide) (by decide) (fun v u H locs hok hP hD hS => ?_) (fun x C u H locs hbad hxx hP hD hS => ?_)
            · skip
              obtain ⟨r_141, rfl, hp_142⟩ := hok
              have hres_143 : (okh df Gc r_141) := hp_142
              have hP : va_P D classes [((f 25), .inl (cI, 41, .inl bss)), ((f 26), .inl (cI, 41, .inl wts)), ((f 27), .inl (cZ, 41, .inl snd)), ((f 28), .inl (cI, 41, .inl nbr)), (h0, .inr (8, mS f tn rm ln lx at_ bd fs dp on os bn df th mb mo_ (ev - 1) ss so v rs pt ot cl)), ((f 21), .inl (cL, 400, .inr (.inl two))), ((f 24), .inl (cI, 150, .inl spn)), ((f 18), .inl (cL, 9, .inr (.inl trm))), ((f 20), .inl (cL, 400, .inr (.inl one)))] H := hP
              have hD : va_D A [((f 25), .inl (cI, 41, .inl bss)), ((f 26), .inl (cI, 41, .inl wts)), ((f 27), .inl (cZ, 41, .inl snd)), ((f 28), .inl (cI, 41, .inl nbr)), (h0, .inr (8, mS f tn rm ln lx at_ bd fs dp on os bn df th mb mo_ (ev - 1) ss so v rs pt ot cl)), ((f 21), .inl (cL, 400, .inr (.inl two))), ((f 24), .inl (cI, 150, .inl spn)), ((f 18), .inl (cL, 9, .inr (.inl trm))), ((f 20), .inl (cL, 400, .inr (.inl one)))] := hD
              refine W.eq (g2 := F0 m 114 ls [.long r_141, .long (wof 2 2), .int 3, .ref h0]) rfl ?_
              refine em_call (wr := [((f 25), .inl (cI, 41, .inl bss)), ((f 26), .inl (cI, 41, .inl wts)), ((f 27), .inl (cZ, 41, .inl snd)), ((f 28), .inl (cI, 41, .inl nbr))]) (em_runV (As := [.int (nI 3), .long (wof 2 2), .long r_141]) (rest := []) ⟨hx, hb, hml, hown, hG⟩ (mo_overwrite l D cI cL cZ cC f h0 tn rm ln lx at_ bd fs dp on os bn df th mb mo_ (ev - 1) ss so v rs pt ot cl one two spn trm Gc 3 (wof 2 2) r_141 _ (by omega) (by omega) (by omega) hHG (okh_con 2 (by decide) (by decide)) hres_143 hsp2 hnt) (cwV 3 hG (gd_V k_1592 k_1594 k_94 k_116 k_1595) rfl rfl rfl (by decide +kernel) ⟨Nat.le_of_ble_eq_true rfl, Nat.le_of_ble_eq_true rfl⟩) (tw_V (q0 := 4) hP hD hK hE hst hS rfl rfl [4, 8, 5, 6, 7] rfl (by decide)) rfl rfl hl.1 rfl (lv_room (Nat.le_of_ble_eq_true rfl)) d_MO_goesOn_114 ⟨Nat.le_of_ble_eq_true rfl, Nat.le_of_ble_eq_true rfl⟩) hP hD hS hA [4, 8, 5, 6, 7] [0, 1, 2, 3] rfl rfl (by decide) (by decide) (fun v u H locs hok hP hD hS => ?_) (fun x C u H locs hbad hxx hP hD hS => ?_)
              · skip
                obtain ⟨tp_144, lk_145, ss_146, one_147, two_148⟩ := u
                obtain ⟨rfl, hp_150⟩ := hok
                obtain ⟨hHG_151, htp_152, hlk_153, hss_154⟩ : (HG df Gc trm one_147 two_148) ∧ (tp_144 + 3 = mb + 1) ∧ (lk_145 = (wof 2 2)) ∧ (ss_146 = ss + 1) := hp_150
                have hP : va_P D classes [((f 25), .inl (cI, 41, .inl bss)), ((f 26), .inl (cI, 41, .inl wts)), ((f 27), .inl (cZ, 41, .inl snd)), ((f 28), .inl (cI, 41, .inl nbr)), (h0, .inr (8, mS f tn rm ln lx at_ bd fs dp on os bn df th tp_144 mo_ (ev - 1) ss_146 so lk_145 rs pt ot cl)), ((f 20), .inl (cL, 400, .inr (.inl one_147))), ((f 21), .inl (cL, 400, .inr (.inl two_148))), ((f 24), .inl (cI, 150, .inl spn)), ((f 18), .inl (cL, 9, .inr (.inl trm)))] H := hP
                have hD : va_D A [((f 25), .inl (cI, 41, .inl bss)), ((f 26), .inl (cI, 41, .inl wts)), ((f 27), .inl (cZ, 41, .inl snd)), ((f 28), .inl (cI, 41, .inl nbr)), (h0, .inr (8, mS f tn rm ln lx at_ bd fs dp on os bn df th tp_144 mo_ (ev - 1) ss_146 so lk_145 rs pt ot cl)), ((f 20), .inl (cL, 400, .inr (.inl one_147))), ((f 21), .inl (cL, 400, .inr (.inl two_148))), ((f 24), .inl (cI, 150, .inl spn)), ((f 18), .inl (cL, 9, .inr (.inl trm)))] := hD
                refine W.eq (g2 := F0 m 117 ls []) rfl ?_
                refine lv_goto (tgt := 290) hx hb d_MO_goesOn_117 (by decide) ?_
                exact em_vret hx hb hr hlocks hP hD hK hS (ev - 1, tp_144, lk_145, ss_146, so, one_147, two_148, bss, wts, snd, nbr) [4, 5, 6, 0, 1, 2, 3, 7, 8] (by decide) rfl ⟨rfl, ⟨hsnd, (show MI df Gc trm one_147 two_148 spn tp_144 lk_145 rs pt from ⟨hHG_151, (by rw [hlk_153]; exact (okh_con 2 (by decide) (by decide))), hrs, (by omega), (fun k hk => hsp k (by omega))⟩), (show (ev - 1) ≤ 40 from (by first | assumption | omega | exact Or.inl rfl)), (show me bss wts (ev - 1) tp_144 0 from (hsl.mono (by omega))), (show ((ss_146 = ss + 1 ∧ so = so) ∨ (ss_146 = ss ∧ ¬ so = 0) ∨ (ss_146 = ss ∧ so = so ∧ (ev - 1) = ev ∧ fz snd (ev - 1) + 1 = fz snd ev)) from (Or.inl ⟨hss_154, rfl⟩))⟩⟩ d_MO_goesOn_290
              · skip
                exact hbad.elim
            · skip
              exact hbad.elim
      · skip
        exact hbad.elim
set_option maxHeartbeats 8000000 in
set_option maxRecDepth 100000 in
theorem mo_goes10 (l : Launch) (D : va_G) (cI cL cZ cC : ClassId) (f : Nat → Nat) (h0 : Nat) (tn : Int32) (rm : Nat) (ln : Nat) (lx : Nat) (at_ : Nat) (bd : Int32) (fs : Nat) (dp : Nat) (on : Nat) (os : Nat) (bn : Nat) (df : Nat) (th : Int32) (tp : Nat) (mo_ : Int32) (ev : Nat) (ss : Int32) (so : Int32) (lk : Int64) (rs : Int64) (pt : Int32) (ot : Nat) (cl : Int32) (one : Nat → Int64) (two : Nat → Int64) (bss : Nat → Int32) (wts : Nat → Int32) (snd : Nat → Int32) (nbr : Nat → Int32) (spn : Nat → Int32) (trm : Nat → Int64) (Gc : Nat → Prop) (mb : Nat) (v : Int64) (x : Int64) (y : Int64) (sz : Nat) (hsnd : bln snd) (hMI : MI df Gc trm one two spn tp lk rs pt) (hv : okh df Gc v) (hx1 : okh df Gc x) (hy1 : okh df Gc y) (hev1 : 1 ≤ ev) (hev2 : ev ≤ 40) (hm1 : mb ≤ tp) (hm3 : bss (ev - 1) = nI mb) (hm4 : me bss wts ev mb 0) (hnt : l.stackTraces = false) : em_Met l y_MO_goesOn (wz y_MO_goesOn b_MO_goesOn 11 none) ({ frames := 3, cells := 0, slots := 0, locals := 62 }) (va_Pc [.ref h0, .long v, .int 1, .long x, .long y, .int 0] (tw_pre D (tys4 cI cL cZ cC) [(h0, .inr (8, mS f tn rm ln lx at_ bd fs dp on os bn df th tp mo_ ev ss so lk rs pt ot cl)), ((f 20), .inl (cL, 400, .inr (.inl one))), ((f 21), .inl (cL, 400, .inr (.inl two))), ((f 25), .inl (cI, 41, .inl bss)), ((f 26), .inl (cI, 41, .inl wts)), ((f 27), .inl (cZ, 41, .inl snd)), ((f 28), .inl (cI, 41, .inl nbr)), ((f 24), .inl (cI, 150, .inl spn)), ((f 18), .inl (cL, 9, .inr (.inl trm)))] sz)) D (tys4 cI cL cZ cC) (va_A [(h0, .inr (8, mS f tn rm ln lx at_ bd fs dp on os bn df th tp mo_ ev ss so lk rs pt ot cl)), ((f 20), .inl (cL, 400, .inr (.inl one))), ((f 21), .inl (cL, 400, .inr (.inl two))), ((f 25), .inl (cI, 41, .inl bss)), ((f 26), .inl (cI, 41, .inl wts)), ((f 27), .inl (cZ, 41, .inl snd)), ((f 28), .inl (cI, 41, .inl nbr)), ((f 24), .inl (cI, 150, .inl spn)), ((f 18), .inl (cL, 9, .inr (.inl trm)))] sz) (fun (u : Nat × Nat × Int64 × Int32 × Int32 × (Nat → Int64) × (Nat → Int64) × (Nat → Int32) × (Nat → Int32) × (Nat → Int32) × (Nat → Int32)) => [(h0, .inr (8, mS f tn rm ln lx at_ bd fs dp on os bn df th u.2.1 mo_ u.1 u.2.2.2.1 u.2.2.2.2.1 u.2.2.1 rs pt ot cl)), ((f 20), .inl (cL, 400, .inr (.inl u.2.2.2.2.2.1))), ((f 21), .inl (cL, 400, .inr (.inl u.2.2.2.2.2.2.1))), ((f 25), .inl (cI, 41, .inl u.2.2.2.2.2.2.2.1)), ((f 26), .inl (cI, 41, .inl u.2.2.2.2.2.2.2.2.1)), ((f 27), .inl (cZ, 41, .inl u.2.2.2.2.2.2.2.2.2.1)), ((f 28), .inl (cI, 41, .inl u.2.2.2.2.2.2.2.2.2.2)), ((f 24), .inl (cI, 150, .inl spn)), ((f 18), .inl (cL, 9, .inr (.inl trm)))]) (fun v (u : Nat × Nat × Int64 × Int32 × Int32 × (Nat → Int64) × (Nat → Int64) × (Nat → Int32) × (Nat → Int32) × (Nat → Int32) × (Nat → Int32)) => v = none ∧ ((bln u.2.2.2.2.2.2.2.2.2.1) ∧ (MI df Gc trm u.2.2.2.2.2.1 u.2.2.2.2.2.2.1 spn u.2.1 u.2.2.1 rs pt) ∧ (u.1 ≤ 40) ∧ (me u.2.2.2.2.2.2.2.1 u.2.2.2.2.2.2.2.2.1 u.1 u.2.1 0) ∧ (((u.2.2.2.1 = ss + 1 ∧ u.2.2.2.2.1 = so) ∨ (u.2.2.2.1 = ss ∧ ¬ u.2.2.2.2.1 = 0) ∨ (u.2.2.2.1 = ss ∧ u.2.2.2.2.1 = so ∧ u.1 = ev ∧ fz u.2.2.2.2.2.2.2.2.2.1 u.1 + 1 = fz snd ev))))) (fun C (u : Nat × Nat × Int64 × Int32 × Int32 × (Nat → Int64) × (Nat → Int64) × (Nat → Int32) × (Nat → Int32) × (Nat → Int32) × (Nat → Int32)) => False) 0 0 := by
  refine em_Met.ofW (cc := b_MO_goesOn) (maxL := 11) (ret := none) (by decide) rfl ?_
  intro p e s m args below meth c s₁ B hml hv hno
  obtain ⟨rfl, ⟨hsz, hP, hK, hD0⟩, hE⟩ := hv
  have hx := B.exec
  have hb := B.bytes
  have hr := B.returns
  have hts := atoms_spec (ws := wz y_MO_goesOn b_MO_goesOn 11 none) B.pre
  have hG := wz_G hts
  have hown : s.vm.findClass rn_MO = some m.cls := findClass_of_methodNamed B.named
  have hlocks := B.notSynchronized
  subst hsz
  have hD := hD0.self (sz := s.heap.size)
  have hst := tw_st hP
  generalize hAe : va_A [(h0, .inr (8, mS f tn rm ln lx at_ bd fs dp on os bn df th tp mo_ ev ss so lk rs pt ot cl)), ((f 20), .inl (cL, 400, .inr (.inl one))), ((f 21), .inl (cL, 400, .inr (.inl two))), ((f 25), .inl (cI, 41, .inl bss)), ((f 26), .inl (cI, 41, .inl wts)), ((f 27), .inl (cZ, 41, .inl snd)), ((f 28), .inl (cI, 41, .inl nbr)), ((f 24), .inl (cI, 150, .inl spn)), ((f 18), .inl (cL, 9, .inr (.inl trm)))] s.heap.size = A at hD hst ⊢
  have hA : ∀ q : Nat, s.heap.size ≤ q → A q := fun q h => by rw [← hAe]; exact Or.inr h
  have hS : va_S A s.heap s.heap [] := va_S.rf
  have hl := lv_entry ([.ref h0, .long v, .int 1, .long x, .long y, .int 0]) (n := 11) (Nat.le_of_ble_eq_true rfl)
  rw [lg_entry_eq]
  generalize (lg_sl ([.ref h0, .long v, .int 1, .long x, .long y, .int 0]) ++ List.replicate (11 - (lg_sl ([.ref h0, .long v, .int 1, .long x, .long y, .int 0])).length) Slot.unset).toArray = ls at hl ⊢
  have hl : lv_has ls 11 [(0, .ref h0), (1, .long v), (3, .int 1), (4, .long x), (6, .long y), (8, .int 0)] := hl
  obtain ⟨hHG, hlk, hrs, htp, hsp⟩ := id hMI
  obtain ⟨wa, ewa, hw1, hw2, hw3, hw4, hsl⟩ := hm4.pop hm3 (by omega) hev1
  have hnd := nd_or wa
  have hle := hsl.le
  have hsp2 : ∀ k, k < mb → ∃ c : Nat, Gc c ∧ spn k = nI c := fun k hk => hsp k (by omega)
  refine lv_aload_n hx hb d_MO_goesOn_0 rfl (lv_at hl 0 rfl) ?_
  refine lv_dup hx hb d_MO_goesOn_1 rfl ?_
  refine va_get (D := D) (ci := 8) (v := .int (nI ev)) (C := rn_MO) (T := fl_MO) (N := 55) hx hb hG in_MO hown hK hP 0 rfl rfl 40 (by decide) (hG _ k_1231) (fun _ h9 => h9) rfl d_MO_goesOn_2 ?_
  refine lv_iconst (v := 1) hx hb d_MO_goesOn_5 (by decide) ?_
  refine lw_isub (a := ev) (b := 1) hx hb d_MO_goesOn_6 (by omega) ?_
  refine va_put (D := D) (ci := 8) (v := .int (nI (ev - 1))) (ty := .int) (C := rn_MO) (T := fl_MO) (N := 55) hx hb hG in_MO tt_MO tk_MO nn_MO hown hK hP hD hS 0 rfl rfl 40 (by decide) (hG _ k_1231) (fun _ h9 => h9) rfl (by decide +kernel) rfl rfl (Nat.le_of_ble_eq_true rfl) d_MO_goesOn_7 (fun H locs hP hD hS => ?_)
  have hP : va_P D classes [(h0, .inr (8, mS f tn rm ln lx at_ bd fs dp on os bn df th tp mo_ (ev - 1) ss so lk rs pt ot cl)), ((f 20), .inl (cL, 400, .inr (.inl one))), ((f 21), .inl (cL, 400, .inr (.inl two))), ((f 25), .inl (cI, 41, .inl bss)), ((f 26), .inl (cI, 41, .inl wts)), ((f 27), .inl (cZ, 41, .inl snd)), ((f 28), .inl (cI, 41, .inl nbr)), ((f 24), .inl (cI, 150, .inl spn)), ((f 18), .inl (cL, 9, .inr (.inl trm)))] H := hP
  have hD : va_D A [(h0, .inr (8, mS f tn rm ln lx at_ bd fs dp on os bn df th tp mo_ (ev - 1) ss so lk rs pt ot cl)), ((f 20), .inl (cL, 400, .inr (.inl one))), ((f 21), .inl (cL, 400, .inr (.inl two))), ((f 25), .inl (cI, 41, .inl bss)), ((f 26), .inl (cI, 41, .inl wts)), ((f 27), .inl (cZ, 41, .inl snd)), ((f 28), .inl (cI, 41, .inl nbr)), ((f 24), .inl (cI, 150, .inl spn)), ((f 18), .inl (cL, 9, .inr (.inl trm)))] := hD
  refine lv_aload_n hx hb d_MO_goesOn_10 rfl (lv_at hl 0 rfl) ?_
  refine lv_aload_n hx hb d_MO_goesOn_11 rfl (lv_at hl 0 rfl) ?_
  refine va_get (D := D) (ci := 8) (v := .ref (f 25)) (C := rn_MO) (T := fl_MO) (N := 55) hx hb hG in_MO hown hK hP 0 rfl rfl 43 (by decide) (hG _ k_1234) (fun _ h9 => h9) rfl d_MO_goesOn_12 ?_
  refine lv_aload_n hx hb d_MO_goesOn_15 rfl (lv_at hl 0 rfl) ?_
  refine va_get (D := D) (ci := 8) (v := .int (nI (ev - 1))) (C := rn_MO) (T := fl_MO) (N := 55) hx hb hG in_MO hown hK hP 0 rfl rfl 40 (by decide) (hG _ k_1231) (fun _ h9 => h9) rfl d_MO_goesOn_16 ?_
  refine va_iald hx hb hK hP 3 0 rfl rfl (vp_in_nI (n := ev - 1) (N := 41) (by omega) (by omega)) d_MO_goesOn_19 ?_
  refine W.eq (g2 := F0 m 20 ls [.int (nI mb), .ref h0]) (by rw [nI_clamp (n := ev - 1) (by omega)]; rw [hm3]) ?_
  refine va_put (D := D) (ci := 8) (v := .int (nI mb)) (ty := .int) (C := rn_MO) (T := fl_MO) (N := 55) hx hb hG in_MO tt_MO tk_MO nn_MO hown hK hP hD hS 0 rfl rfl 38 (by decide) (hG _ k_1229) (fun _ h9 => h9) rfl (by decide +kernel) rfl rfl (Nat.le_of_ble_eq_true rfl) d_MO_goesOn_20 (fun H locs hP hD hS => ?_)
  have hP : va_P D classes [(h0, .inr (8, mS f tn rm ln lx at_ bd fs dp on os bn df th mb mo_ (ev - 1) ss so lk rs pt ot cl)), ((f 20), .inl (cL, 400, .inr (.inl one))), ((f 21), .inl (cL, 400, .inr (.inl two))), ((f 25), .inl (cI, 41, .inl bss)), ((f 26), .inl (cI, 41, .inl wts)), ((f 27), .inl (cZ, 41, .inl snd)), ((f 28), .inl (cI, 41, .inl nbr)), ((f 24), .inl (cI, 150, .inl spn)), ((f 18), .inl (cL, 9, .inr (.inl trm)))] H := hP
  have hD : va_D A [(h0, .inr (8, mS f tn rm ln lx at_ bd fs dp on os bn df th mb mo_ (ev - 1) ss so lk rs pt ot cl)), ((f 20), .inl (cL, 400, .inr (.inl one))), ((f 21), .inl (cL, 400, .inr (.inl two))), ((f 25), .inl (cI, 41, .inl bss)), ((f 26), .inl (cI, 41, .inl wts)), ((f 27), .inl (cZ, 41, .inl snd)), ((f 28), .inl (cI, 41, .inl nbr)), ((f 24), .inl (cI, 150, .inl spn)), ((f 18), .inl (cL, 9, .inr (.inl trm)))] := hD
  refine lv_aload_n hx hb d_MO_goesOn_23 rfl (lv_at hl 0 rfl) ?_
  refine va_get (D := D) (ci := 8) (v := .ref (f 26)) (C := rn_MO) (T := fl_MO) (N := 55) hx hb hG in_MO hown hK hP 0 rfl rfl 44 (by decide) (hG _ k_1235) (fun _ h9 => h9) rfl d_MO_goesOn_24 ?_
  refine lv_aload_n hx hb d_MO_goesOn_27 rfl (lv_at hl 0 rfl) ?_
  refine va_get (D := D) (ci := 8) (v := .int (nI (ev - 1))) (C := rn_MO) (T := fl_MO) (N := 55) hx hb hG in_MO hown hK hP 0 rfl rfl 40 (by decide) (hG _ k_1231) (fun _ h9 => h9) rfl d_MO_goesOn_28 ?_
  refine va_iald hx hb hK hP 4 0 rfl rfl (vp_in_nI (n := ev - 1) (N := 41) (by omega) (by omega)) d_MO_goesOn_31 ?_
  refine W.eq (g2 := F0 m 32 ls [.int (nI wa)]) (by rw [nI_clamp (n := ev - 1) (by omega)]; rw [ewa]) ?_
  refine lv_istore (lv' := [(9, .int (nI wa)), (0, .ref h0), (1, .long v), (3, .int 1), (4, .long x), (6, .long y), (8, .int 0)]) hx hb d_MO_goesOn_32 hl (Nat.le_of_ble_eq_true rfl) rfl (fun ls hl => ?_)
  refine lv_aload_n hx hb d_MO_goesOn_34 rfl (lv_at hl 1 rfl) ?_
  refine lv_lload_n hx hb d_MO_goesOn_35 rfl (lv_at hl 2 rfl) ?_
  refine va_put (D := D) (ci := 8) (v := .long v) (ty := .long) (C := rn_MO) (T := fl_MO) (N := 55) hx hb hG in_MO tt_MO tk_MO nn_MO hown hK hP hD hS 0 rfl rfl 47 (by decide) (hG _ k_1238) (fun _ h9 => h9) rfl (by decide +kernel) rfl rfl (Nat.le_of_ble_eq_true rfl) d_MO_goesOn_36 (fun H locs hP hD hS => ?_)
  have hP : va_P D classes [(h0, .inr (8, mS f tn rm ln lx at_ bd fs dp on os bn df th mb mo_ (ev - 1) ss so v rs pt ot cl)), ((f 20), .inl (cL, 400, .inr (.inl one))), ((f 21), .inl (cL, 400, .inr (.inl two))), ((f 25), .inl (cI, 41, .inl bss)), ((f 26), .inl (cI, 41, .inl wts)), ((f 27), .inl (cZ, 41, .inl snd)), ((f 28), .inl (cI, 41, .inl nbr)), ((f 24), .inl (cI, 150, .inl spn)), ((f 18), .inl (cL, 9, .inr (.inl trm)))] H := hP
  have hD : va_D A [(h0, .inr (8, mS f tn rm ln lx at_ bd fs dp on os bn df th mb mo_ (ev - 1) ss so v rs pt ot cl)), ((f 20), .inl (cL, 400, .inr (.inl one))), ((f 21), .inl (cL, 400, .inr (.inl two))), ((f 25), .inl (cI, 41, .inl bss)), ((f 26), .inl (cI, 41, .inl wts)), ((f 27), .inl (cZ, 41, .inl snd)), ((f 28), .inl (cI, 41, .inl nbr)), ((f 24), .inl (cI, 150, .inl spn)), ((f 18), .inl (cL, 9, .inr (.inl trm)))] := hD
  refine lv_lload_n hx hb d_MO_goesOn_39 rfl (lv_at hl 2 rfl) ?_
  refine W.callR (W.runS (As := [.long v]) (rest := []) ⟨hx, hb, hml, hown, hG⟩ (mo_kindOf l D cI cL cZ cC v ) (cwS 1 hG (gd_S k_1519 k_1520 k_116 k_1521) rfl rfl rfl (by decide +kernel) ⟨Nat.le_of_ble_eq_true rfl, Nat.le_of_ble_eq_true rfl⟩) (wq_S hP hK [] rfl) rfl rfl hl.1 rfl (lv_room (Nat.le_of_ble_eq_true rfl)) d_MO_goesOn_40 ⟨Nat.le_of_ble_eq_true rfl, Nat.le_of_ble_eq_true rfl⟩) ?_
  refine W.eq (g2 := F0 m 43 ls [.int (wkind v)]) rfl ?_
  refine lv_if_ne (tgt := 59) hx hb d_MO_goesOn_43 (by decide) (fun hb_1 => ?_) (fun hb_1 => ?_)
  · skip
    refine lv_iconst (v := 0) hx hb d_MO_goesOn_59 (by decide) ?_
    refine lv_istore (lv' := [(10, .int 0), (9, .int (nI wa)), (0, .ref h0), (1, .long v), (3, .int 1), (4, .long x), (6, .long y), (8, .int 0)]) hx hb d_MO_goesOn_60 hl (Nat.le_of_ble_eq_true rfl) rfl (fun ls hl => ?_)
    refine lv_iload hx hb d_MO_goesOn_62 (lv_at hl 1 rfl) ?_
    refine lv_bipush (v := 10) hx hb d_MO_goesOn_64 (by decide) ?_
    refine lv_icmp_ne (tgt := 120) hx hb d_MO_goesOn_66 (by decide) (fun hb_2 => ?_) (fun hb_2 => ?_)
    · skip
      have hn_3 : ¬ wa = 10 := fun h => hb_2 ((nI_eq (a := wa) (b := 10) (by omega) (by omega)).mpr h)
      refine lv_iload hx hb d_MO_goesOn_120 (lv_at hl 1 rfl) ?_
      refine lv_bipush (v := 18) hx hb d_MO_goesOn_122 (by decide) ?_
      refine lv_icmp_eq (tgt := 134) hx hb d_MO_goesOn_124 (by decide) (fun hb_4 => ?_) (fun hb_4 => ?_)
      · skip
        have hn_5 : wa = 18 := (nI_eq (a := wa) (b := 18) (by omega) (by omega)).mp hb_4
        refine lv_iload_n hx hb d_MO_goesOn_134 rfl (lv_at hl 4 rfl) ?_
        refine lv_if_ne (tgt := 146) hx hb d_MO_goesOn_135 (by decide) (fun hbr => ?_) (fun hbr => absurd hbr (by decide))
        refine lv_aload_n hx hb d_MO_goesOn_146 rfl (lv_at hl 2 rfl) ?_
        refine lv_iconst (v := 1) hx hb d_MO_goesOn_147 (by decide) ?_
        refine lv_iconst (v := 2) hx hb d_MO_goesOn_148 (by decide) ?_
        refine W.callRL (W.runS (As := [.int 2]) (rest := [.int 1, .ref h0]) ⟨hx, hb, hml, hown, hG⟩ (mo_constant l D cI cL cZ cC 2 ) (cwS 1 hG (gd_S k_1461 k_1462 k_116 k_1463) rfl rfl rfl (by decide +kernel) ⟨Nat.le_of_ble_eq_true rfl, Nat.le_of_ble_eq_true rfl⟩) (wq_S hP hK [] rfl) rfl rfl hl.1 rfl (lv_room (Nat.le_of_ble_eq_true rfl)) d_MO_goesOn_149 ⟨Nat.le_of_ble_eq_true rfl, Nat.le_of_ble_eq_true rfl⟩) ?_
        refine W.eq (g2 := F0 m 152 ls [.long (wof 2 2), .int 1, .ref h0]) rfl ?_
        refine lv_iload hx hb d_MO_goesOn_152 (lv_at hl 1 rfl) ?_
        refine lv_bipush (v := 18) hx hb d_MO_goesOn_154 (by decide) ?_
        refine lv_icmp_ne (tgt := 164) hx hb d_MO_goesOn_156 (by decide) (fun hb_6 => ?_) (fun hb_6 => ?_)
        · skip
          have hn_7 : ¬ wa = 18 := fun h => hb_6 ((nI_eq (a := wa) (b := 18) (by omega) (by omega)).mpr h)
          refine lv_lload hx hb d_MO_goesOn_164 (lv_at hl 6 rfl) ?_
          refine em_call (wr := [((f 25), .inl (cI, 41, .inl bss)), ((f 26), .inl (cI, 41, .inl wts)), ((f 27), .inl (cZ, 41, .inl snd)), ((f 28), .inl (cI, 41, .inl nbr))]) (em_runV (As := [.int (nI 1), .long (wof 2 2), .long y]) (rest := []) ⟨hx, hb, hml, hown, hG⟩ (mo_overwrite l D cI cL cZ cC f h0 tn rm ln lx at_ bd fs dp on os bn df th mb mo_ (ev - 1) ss so v rs pt ot cl one two spn trm Gc 1 (wof 2 2) y _ (by omega) (by omega) (by omega) hHG (okh_con 2 (by decide) (by decide)) hy1 hsp2 hnt) (cwV 3 hG (gd_V k_1592 k_1594 k_94 k_116 k_1595) rfl rfl rfl (by decide +kernel) ⟨Nat.le_of_ble_eq_true rfl, Nat.le_of_ble_eq_true rfl⟩) (tw_V (q0 := 0) hP hD hK hE hst hS rfl rfl [0, 1, 2, 7, 8] rfl (by decide)) rfl rfl hl.1 rfl (lv_room (Nat.le_of_ble_eq_true rfl)) d_MO_goesOn_166 ⟨Nat.le_of_ble_eq_true rfl, Nat.le_of_ble_eq_true rfl⟩) hP hD hS hA [0, 1, 2, 7, 8] [3, 4, 5, 6] rfl rfl (by decide) (by decide) (fun v u H locs hok hP hD hS => ?_) (fun x C u H locs hbad hxx hP hD hS => ?_)
          · skip
            obtain ⟨tp_8, lk_9, ss_10, one_11, two_12⟩ := u
            obtain ⟨rfl, hp_14⟩ := hok
            obtain ⟨hHG_15, htp_16, hlk_17, hss_18⟩ : (HG df Gc trm one_11 two_12) ∧ (tp_8 + 1 = mb + 1) ∧ (lk_9 = (wof 2 2)) ∧ (ss_10 = ss + 1) := hp_14
            have hP : va_P D classes [((f 25), .inl (cI, 41, .inl bss)), ((f 26), .inl (cI, 41, .inl wts)), ((f 27), .inl (cZ, 41, .inl snd)), ((f 28), .inl (cI, 41, .inl nbr)), (h0, .inr (8, mS f tn rm ln lx at_ bd fs dp on os bn df th tp_8 mo_ (ev - 1) ss_10 so lk_9 rs pt ot cl)), ((f 20), .inl (cL, 400, .inr (.inl one_11))), ((f 21), .inl (cL, 400, .inr (.inl two_12))), ((f 24), .inl (cI, 150, .inl spn)), ((f 18), .inl (cL, 9, .inr (.inl trm)))] H := hP
            have hD : va_D A [((f 25), .inl (cI, 41, .inl bss)), ((f 26), .inl (cI, 41, .inl wts)), ((f 27), .inl (cZ, 41, .inl snd)), ((f 28), .inl (cI, 41, .inl nbr)), (h0, .inr (8, mS f tn rm ln lx at_ bd fs dp on os bn df th tp_8 mo_ (ev - 1) ss_10 so lk_9 rs pt ot cl)), ((f 20), .inl (cL, 400, .inr (.inl one_11))), ((f 21), .inl (cL, 400, .inr (.inl two_12))), ((f 24), .inl (cI, 150, .inl spn)), ((f 18), .inl (cL, 9, .inr (.inl trm)))] := hD
            refine W.eq (g2 := F0 m 169 ls []) rfl ?_
            refine lv_goto (tgt := 290) hx hb d_MO_goesOn_169 (by decide) ?_
            exact em_vret hx hb hr hlocks hP hD hK hS (ev - 1, tp_8, lk_9, ss_10, so, one_11, two_12, bss, wts, snd, nbr) [4, 5, 6, 0, 1, 2, 3, 7, 8] (by decide) rfl ⟨rfl, ⟨hsnd, (show MI df Gc trm one_11 two_12 spn tp_8 lk_9 rs pt from ⟨hHG_15, (by rw [hlk_17]; exact (okh_con 2 (by decide) (by decide))), hrs, (by omega), (fun k hk => hsp k (by omega))⟩), (show (ev - 1) ≤ 40 from (by first | assumption | omega | exact Or.inl rfl)), (show me bss wts (ev - 1) tp_8 0 from (hsl.mono (by omega))), (show ((ss_10 = ss + 1 ∧ so = so) ∨ (ss_10 = ss ∧ ¬ so = 0) ∨ (ss_10 = ss ∧ so = so ∧ (ev - 1) = ev ∧ fz snd (ev - 1) + 1 = fz snd ev)) from (Or.inl ⟨hss_18, rfl⟩))⟩⟩ d_MO_goesOn_290
          · skip
            exact hbad.elim
        · skip
          have hn_20 : wa = 18 := (nI_eq (a := wa) (b := 18) (by omega) (by omega)).mp hb_6
          refine lv_lload hx hb d_MO_goesOn_159 (lv_at hl 5 rfl) ?_
          refine lv_goto (tgt := 166) hx hb d_MO_goesOn_161 (by decide) ?_
          refine em_call (wr := [((f 25), .inl (cI, 41, .inl bss)), ((f 26), .inl (cI, 41, .inl wts)), ((f 27), .inl (cZ, 41, .inl snd)), ((f 28), .inl (cI, 41, .inl nbr))]) (em_runV (As := [.int (nI 1), .long (wof 2 2), .long x]) (rest := []) ⟨hx, hb, hml, hown, hG⟩ (mo_overwrite l D cI cL cZ cC f h0 tn rm ln lx at_ bd fs dp on os bn df th mb mo_ (ev - 1) ss so v rs pt ot cl one two spn trm Gc 1 (wof 2 2) x _ (by omega) (by omega) (by omega) hHG (okh_con 2 (by decide) (by decide)) hx1 hsp2 hnt) (cwV 3 hG (gd_V k_1592 k_1594 k_94 k_116 k_1595) rfl rfl rfl (by decide +kernel) ⟨Nat.le_of_ble_eq_true rfl, Nat.le_of_ble_eq_true rfl⟩) (tw_V (q0 := 0) hP hD hK hE hst hS rfl rfl [0, 1, 2, 7, 8] rfl (by decide)) rfl rfl hl.1 rfl (lv_room (Nat.le_of_ble_eq_true rfl)) d_MO_goesOn_166 ⟨Nat.le_of_ble_eq_true rfl, Nat.le_of_ble_eq_true rfl⟩) hP hD hS hA [0, 1, 2, 7, 8] [3, 4, 5, 6] rfl rfl (by decide) (by decide) (fun v u H locs hok hP hD hS => ?_) (fun x C u H locs hbad hxx hP hD hS => ?_)
          · skip
            obtain ⟨tp_21, lk_22, ss_23, one_24, two_25⟩ := u
            obtain ⟨rfl, hp_27⟩ := hok
            obtain ⟨hHG_28, htp_29, hlk_30, hss_31⟩ : (HG df Gc trm one_24 two_25) ∧ (tp_21 + 1 = mb + 1) ∧ (lk_22 = (wof 2 2)) ∧ (ss_23 = ss + 1) := hp_27
            have hP : va_P D classes [((f 25), .inl (cI, 41, .inl bss)), ((f 26), .inl (cI, 41, .inl wts)), ((f 27), .inl (cZ, 41, .inl snd)), ((f 28), .inl (cI, 41, .inl nbr)), (h0, .inr (8, mS f tn rm ln lx at_ bd fs dp on os bn df th tp_21 mo_ (ev - 1) ss_23 so lk_22 rs pt ot cl)), ((f 20), .inl (cL, 400, .inr (.inl one_24))), ((f 21), .inl (cL, 400, .inr (.inl two_25))), ((f 24), .inl (cI, 150, .inl spn)), ((f 18), .inl (cL, 9, .inr (.inl trm)))] H := hP
            have hD : va_D A [((f 25), .inl (cI, 41, .inl bss)), ((f 26), .inl (cI, 41, .inl wts)), ((f 27), .inl (cZ, 41, .inl snd)), ((f 28), .inl (cI, 41, .inl nbr)), (h0, .inr (8, mS f tn rm ln lx at_ bd fs dp on os bn df th tp_21 mo_ (ev - 1) ss_23 so lk_22 rs pt ot cl)), ((f 20), .inl (cL, 400, .inr (.inl one_24))), ((f 21), .inl (cL, 400, .inr (.inl two_25))), ((f 24), .inl (cI, 150, .inl spn)), ((f 18), .inl (cL, 9, .inr (.inl trm)))] := hD
            refine W.eq (g2 := F0 m 169 ls []) rfl ?_
            refine lv_goto (tgt := 290) hx hb d_MO_goesOn_169 (by decide) ?_
            exact em_vret hx hb hr hlocks hP hD hK hS (ev - 1, tp_21, lk_22, ss_23, so, one_24, two_25, bss, wts, snd, nbr) [4, 5, 6, 0, 1, 2, 3, 7, 8] (by decide) rfl ⟨rfl, ⟨hsnd, (show MI df Gc trm one_24 two_25 spn tp_21 lk_22 rs pt from ⟨hHG_28, (by rw [hlk_30]; exact (okh_con 2 (by decide) (by decide))), hrs, (by omega), (fun k hk => hsp k (by omega))⟩), (show (ev - 1) ≤ 40 from (by first | assumption | omega | exact Or.inl rfl)), (show me bss wts (ev - 1) tp_21 0 from (hsl.mono (by omega))), (show ((ss_23 = ss + 1 ∧ so = so) ∨ (ss_23 = ss ∧ ¬ so = 0) ∨ (ss_23 = ss ∧ so = so ∧ (ev - 1) = ev ∧ fz snd (ev - 1) + 1 = fz snd ev)) from (Or.inl ⟨hss_31, rfl⟩))⟩⟩ d_MO_goesOn_290
          · skip
            exact hbad.elim
      · skip
        have hn_33 : ¬ wa = 18 := fun h => hb_4 ((nI_eq (a := wa) (b := 18) (by omega) (by omega)).mpr h)
        refine lv_iload hx hb d_MO_goesOn_127 (lv_at hl 1 rfl) ?_
        refine lv_bipush (v := 19) hx hb d_MO_goesOn_129 (by decide) ?_
        refine lv_icmp_ne (tgt := 172) hx hb d_MO_goesOn_131 (by decide) (fun hb_34 => ?_) (fun hb_34 => ?_)
        · skip
          have hn_35 : ¬ wa = 19 := fun h => hb_34 ((nI_eq (a := wa) (b := 19) (by omega) (by omega)).mpr h)
          refine lv_iload hx hb d_MO_goesOn_172 (lv_at hl 1 rfl) ?_
          refine lv_bipush (v := 20) hx hb d_MO_goesOn_174 (by decide) ?_
          refine lv_icmp_ne (tgt := 227) hx hb d_MO_goesOn_176 (by decide) (fun hb_36 => ?_) (fun hb_36 => ?_)
          · skip
            have hn_37 : ¬ wa = 20 := fun h => hb_36 ((nI_eq (a := wa) (b := 20) (by omega) (by omega)).mpr h)
            refine lv_iload hx hb d_MO_goesOn_227 (lv_at hl 0 rfl) ?_
            refine lv_if_ne (tgt := 240) hx hb d_MO_goesOn_229 (by decide) (fun hbr => absurd (by decide) hbr) (fun hbr => ?_)
            refine lv_aload_n hx hb d_MO_goesOn_232 rfl (lv_at hl 2 rfl) ?_
            refine lv_iconst (v := 2) hx hb d_MO_goesOn_233 (by decide) ?_
            refine va_put (D := D) (ci := 8) (v := .int 2) (ty := .int) (C := rn_MO) (T := fl_MO) (N := 55) hx hb hG in_MO tt_MO tk_MO nn_MO hown hK hP hD hS 0 rfl rfl 42 (by decide) (hG _ k_1233) (fun _ h9 => h9) rfl (by decide +kernel) rfl rfl (Nat.le_of_ble_eq_true rfl) d_MO_goesOn_234 (fun H locs hP hD hS => ?_)
            have hP : va_P D classes [(h0, .inr (8, mS f tn rm ln lx at_ bd fs dp on os bn df th mb mo_ (ev - 1) ss 2 v rs pt ot cl)), ((f 20), .inl (cL, 400, .inr (.inl one))), ((f 21), .inl (cL, 400, .inr (.inl two))), ((f 25), .inl (cI, 41, .inl bss)), ((f 26), .inl (cI, 41, .inl wts)), ((f 27), .inl (cZ, 41, .inl snd)), ((f 28), .inl (cI, 41, .inl nbr)), ((f 24), .inl (cI, 150, .inl spn)), ((f 18), .inl (cL, 9, .inr (.inl trm)))] H := hP
            have hD : va_D A [(h0, .inr (8, mS f tn rm ln lx at_ bd fs dp on os bn df th mb mo_ (ev - 1) ss 2 v rs pt ot cl)), ((f 20), .inl (cL, 400, .inr (.inl one))), ((f 21), .inl (cL, 400, .inr (.inl two))), ((f 25), .inl (cI, 41, .inl bss)), ((f 26), .inl (cI, 41, .inl wts)), ((f 27), .inl (cZ, 41, .inl snd)), ((f 28), .inl (cI, 41, .inl nbr)), ((f 24), .inl (cI, 150, .inl spn)), ((f 18), .inl (cL, 9, .inr (.inl trm)))] := hD
            refine lv_goto (tgt := 290) hx hb d_MO_goesOn_237 (by decide) ?_
            exact em_vret hx hb hr hlocks hP hD hK hS (ev - 1, mb, v, ss, 2, one, two, bss, wts, snd, nbr) [0, 1, 2, 3, 4, 5, 6, 7, 8] (by decide) rfl ⟨rfl, ⟨hsnd, (show MI df Gc trm one two spn mb v rs pt from ⟨hHG, hv, hrs, (by omega), (fun k hk => hsp k (by omega))⟩), (show (ev - 1) ≤ 40 from (by first | assumption | omega | exact Or.inl rfl)), (show me bss wts (ev - 1) mb 0 from (hsl.mono (by omega))), (show ((ss = ss + 1 ∧ 2 = so) ∨ (ss = ss ∧ ¬ 2 = 0) ∨ (ss = ss ∧ 2 = so ∧ (ev - 1) = ev ∧ fz snd (ev - 1) + 1 = fz snd ev)) from (Or.inr (Or.inl ⟨rfl, by decide⟩)))⟩⟩ d_MO_goesOn_290
          · skip
            have hn_38 : wa = 20 := (nI_eq (a := wa) (b := 20) (by omega) (by omega)).mp hb_36
            refine lv_iload_n hx hb d_MO_goesOn_179 rfl (lv_at hl 4 rfl) ?_
            refine lv_if_ne (tgt := 201) hx hb d_MO_goesOn_180 (by decide) (fun hbr => ?_) (fun hbr => absurd hbr (by decide))
            refine lv_aload_n hx hb d_MO_goesOn_201 rfl (lv_at hl 2 rfl) ?_
            refine lv_iconst (v := 1) hx hb d_MO_goesOn_202 (by decide) ?_
            refine lv_iconst (v := 2) hx hb d_MO_goesOn_203 (by decide) ?_
            refine W.callRL (W.runS (As := [.int 2]) (rest := [.int 1, .ref h0]) ⟨hx, hb, hml, hown, hG⟩ (mo_constant l D cI cL cZ cC 2 ) (cwS 1 hG (gd_S k_1461 k_1462 k_116 k_1463) rfl rfl rfl (by decide +kernel) ⟨Nat.le_of_ble_eq_true rfl, Nat.le_of_ble_eq_true rfl⟩) (wq_S hP hK [] rfl) rfl rfl hl.1 rfl (lv_room (Nat.le_of_ble_eq_true rfl)) d_MO_goesOn_204 ⟨Nat.le_of_ble_eq_true rfl, Nat.le_of_ble_eq_true rfl⟩) ?_
            refine W.eq (g2 := F0 m 207 ls [.long (wof 2 2), .int 1, .ref h0]) rfl ?_
            refine lv_iload_n hx hb d_MO_goesOn_207 rfl (lv_at hl 4 rfl) ?_
            refine lv_if_eq (tgt := 216) hx hb d_MO_goesOn_208 (by decide) (fun hbr => absurd hbr (by decide)) (fun hbr => ?_)
            refine lv_bipush (v := 22) hx hb d_MO_goesOn_211 (by decide) ?_
            refine lv_goto (tgt := 218) hx hb d_MO_goesOn_213 (by decide) ?_
            refine W.callRL (W.runS (As := [.int 22]) (rest := [.long (wof 2 2), .int 1, .ref h0]) ⟨hx, hb, hml, hown, hG⟩ (mo_constant l D cI cL cZ cC 22 ) (cwS 1 hG (gd_S k_1461 k_1462 k_116 k_1463) rfl rfl rfl (by decide +kernel) ⟨Nat.le_of_ble_eq_true rfl, Nat.le_of_ble_eq_true rfl⟩) (wq_S hP hK [] rfl) rfl rfl hl.1 rfl (lv_room (Nat.le_of_ble_eq_true rfl)) d_MO_goesOn_218 ⟨Nat.le_of_ble_eq_true rfl, Nat.le_of_ble_eq_true rfl⟩) ?_
            refine W.eq (g2 := F0 m 221 ls [.long (wof 2 22), .long (wof 2 2), .int 1, .ref h0]) rfl ?_
            refine em_call (wr := [((f 25), .inl (cI, 41, .inl bss)), ((f 26), .inl (cI, 41, .inl wts)), ((f 27), .inl (cZ, 41, .inl snd)), ((f 28), .inl (cI, 41, .inl nbr))]) (em_runV (As := [.int (nI 1), .long (wof 2 2), .long (wof 2 22)]) (rest := []) ⟨hx, hb, hml, hown, hG⟩ (mo_overwrite l D cI cL cZ cC f h0 tn rm ln lx at_ bd fs dp on os bn df th mb mo_ (ev - 1) ss so v rs pt ot cl one two spn trm Gc 1 (wof 2 2) (wof 2 22) _ (by omega) (by omega) (by omega) hHG (okh_con 2 (by decide) (by decide)) (okh_con 22 (by decide) (by decide)) hsp2 hnt) (cwV 3 hG (gd_V k_1592 k_1594 k_94 k_116 k_1595) rfl rfl rfl (by decide +kernel) ⟨Nat.le_of_ble_eq_true rfl, Nat.le_of_ble_eq_true rfl⟩) (tw_V (q0 := 0) hP hD hK hE hst hS rfl rfl [0, 1, 2, 7, 8] rfl (by decide)) rfl rfl hl.1 rfl (lv_room (Nat.le_of_ble_eq_true rfl)) d_MO_goesOn_221 ⟨Nat.le_of_ble_eq_true rfl, Nat.le_of_ble_eq_true rfl⟩) hP hD hS hA [0, 1, 2, 7, 8] [3, 4, 5, 6] rfl rfl (by decide) (by decide) (fun v u H locs hok hP hD hS => ?_) (fun x C u H locs hbad hxx hP hD hS => ?_)
            · skip
              obtain ⟨tp_39, lk_40, ss_41, one_42, two_43⟩ := u
              obtain ⟨rfl, hp_45⟩ := hok
              obtain ⟨hHG_46, htp_47, hlk_48, hss_49⟩ : (HG df Gc trm one_42 two_43) ∧ (tp_39 + 1 = mb + 1) ∧ (lk_40 = (wof 2 2)) ∧ (ss_41 = ss + 1) := hp_45
              have hP : va_P D classes [((f 25), .inl (cI, 41, .inl bss)), ((f 26), .inl (cI, 41, .inl wts)), ((f 27), .inl (cZ, 41, .inl snd)), ((f 28), .inl (cI, 41, .inl nbr)), (h0, .inr (8, mS f tn rm ln lx at_ bd fs dp on os bn df th tp_39 mo_ (ev - 1) ss_41 so lk_40 rs pt ot cl)), ((f 20), .inl (cL, 400, .inr (.inl one_42))), ((f 21), .inl (cL, 400, .inr (.inl two_43))), ((f 24), .inl (cI, 150, .inl spn)), ((f 18), .inl (cL, 9, .inr (.inl trm)))] H := hP
              have hD : va_D A [((f 25), .inl (cI, 41, .inl bss)), ((f 26), .inl (cI, 41, .inl wts)), ((f 27), .inl (cZ, 41, .inl snd)), ((f 28), .inl (cI, 41, .inl nbr)), (h0, .inr (8, mS f tn rm ln lx at_ bd fs dp on os bn df th tp_39 mo_ (ev - 1) ss_41 so lk_40 rs pt ot cl)), ((f 20), .inl (cL, 400, .inr (.inl one_42))), ((f 21), .inl (cL, 400, .inr (.inl two_43))), ((f 24), .inl (cI, 150, .inl spn)), ((f 18), .inl (cL, 9, .inr (.inl trm)))] := hD
              refine W.eq (g2 := F0 m 224 ls []) rfl ?_
              refine lv_goto (tgt := 290) hx hb d_MO_goesOn_224 (by decide) ?_
              exact em_vret hx hb hr hlocks hP hD hK hS (ev - 1, tp_39, lk_40, ss_41, so, one_42, two_43, bss, wts, snd, nbr) [4, 5, 6, 0, 1, 2, 3, 7, 8] (by decide) rfl ⟨rfl, ⟨hsnd, (show MI df Gc trm one_42 two_43 spn tp_39 lk_40 rs pt from ⟨hHG_46, (by rw [hlk_48]; exact (okh_con 2 (by decide) (by decide))), hrs, (by omega), (fun k hk => hsp k (by omega))⟩), (show (ev - 1) ≤ 40 from (by first | assumption | omega | exact Or.inl rfl)), (show me bss wts (ev - 1) tp_39 0 from (hsl.mono (by omega))), (show ((ss_41 = ss + 1 ∧ so = so) ∨ (ss_41 = ss ∧ ¬ so = 0) ∨ (ss_41 = ss ∧ so = so ∧ (ev - 1) = ev ∧ fz snd (ev - 1) + 1 = fz snd ev)) from (Or.inl ⟨hss_49, rfl⟩))⟩⟩ d_MO_goesOn_290
            · skip
              exact hbad.elim
        · skip
          have hn_51 : wa = 19 := (nI_eq (a := wa) (b := 19) (by omega) (by omega)).mp hb_34
          refine lv_iload_n hx hb d_MO_goesOn_134 rfl (lv_at hl 4 rfl) ?_
          refine lv_if_ne (tgt := 146) hx hb d_MO_goesOn_135 (by decide) (fun hbr => ?_) (fun hbr => absurd hbr (by decide))
          refine lv_aload_n hx hb d_MO_goesOn_146 rfl (lv_at hl 2 rfl) ?_
          refine lv_iconst (v := 1) hx hb d_MO_goesOn_147 (by decide) ?_
          refine lv_iconst (v := 2) hx hb d_MO_goesOn_148 (by decide) ?_
          refine W.callRL (W.runS (As := [.int 2]) (rest := [.int 1, .ref h0]) ⟨hx, hb, hml, hown, hG⟩ (mo_constant l D cI cL cZ cC 2 ) (cwS 1 hG (gd_S k_1461 k_1462 k_116 k_1463) rfl rfl rfl (by decide +kernel) ⟨Nat.le_of_ble_eq_true rfl, Nat.le_of_ble_eq_true rfl⟩) (wq_S hP hK [] rfl) rfl rfl hl.1 rfl (lv_room (Nat.le_of_ble_eq_true rfl)) d_MO_goesOn_149 ⟨Nat.le_of_ble_eq_true rfl, Nat.le_of_ble_eq_true rfl⟩) ?_
          refine W.eq (g2 := F0 m 152 ls [.long (wof 2 2), .int 1, .ref h0]) rfl ?_
          refine lv_iload hx hb d_MO_goesOn_152 (lv_at hl 1 rfl) ?_
          refine lv_bipush (v := 18) hx hb d_MO_goesOn_154 (by decide) ?_
          refine lv_icmp_ne (tgt := 164) hx hb d_MO_goesOn_156 (by decide) (fun hb_52 => ?_) (fun hb_52 => ?_)
          · skip
            have hn_53 : ¬ wa = 18 := fun h => hb_52 ((nI_eq (a := wa) (b := 18) (by omega) (by omega)).mpr h)
            refine lv_lload hx hb d_MO_goesOn_164 (lv_at hl 6 rfl) ?_
            refine em_call (wr := [((f 25), .inl (cI, 41, .inl bss)), ((f 26), .inl (cI, 41, .inl wts)), ((f 27), .inl (cZ, 41, .inl snd)), ((f 28), .inl (cI, 41, .inl nbr))]) (em_runV (As := [.int (nI 1), .long (wof 2 2), .long y]) (rest := []) ⟨hx, hb, hml, hown, hG⟩ (mo_overwrite l D cI cL cZ cC f h0 tn rm ln lx at_ bd fs dp on os bn df th mb mo_ (ev - 1) ss so v rs pt ot cl one two spn trm Gc 1 (wof 2 2) y _ (by omega) (by omega) (by omega) hHG (okh_con 2 (by decide) (by decide)) hy1 hsp2 hnt) (cwV 3 hG (gd_V k_1592 k_1594 k_94 k_116 k_1595) rfl rfl rfl (by decide +kernel) ⟨Nat.le_of_ble_eq_true rfl, Nat.le_of_ble_eq_true rfl⟩) (tw_V (q0 := 0) hP hD hK hE hst hS rfl rfl [0, 1, 2, 7, 8] rfl (by decide)) rfl rfl hl.1 rfl (lv_room (Nat.le_of_ble_eq_true rfl)) d_MO_goesOn_166 ⟨Nat.le_of_ble_eq_true rfl, Nat.le_of_ble_eq_true rfl⟩) hP hD hS hA [0, 1, 2, 7, 8] [3, 4, 5, 6] rfl rfl (by decide) (by decide) (fun v u H locs hok hP hD hS => ?_) (fun x C u H locs hbad hxx hP hD hS => ?_)
            · skip
              obtain ⟨tp_54, lk_55, ss_56, one_57, two_58⟩ := u
              obtain ⟨rfl, hp_60⟩ := hok
              obtain ⟨hHG_61, htp_62, hlk_63, hss_64⟩ : (HG df Gc trm one_57 two_58) ∧ (tp_54 + 1 = mb + 1) ∧ (lk_55 = (wof 2 2)) ∧ (ss_56 = ss + 1) := hp_60
              have hP : va_P D classes [((f 25), .inl (cI, 41, .inl bss)), ((f 26), .inl (cI, 41, .inl wts)), ((f 27), .inl (cZ, 41, .inl snd)), ((f 28), .inl (cI, 41, .inl nbr)), (h0, .inr (8, mS f tn rm ln lx at_ bd fs dp on os bn df th tp_54 mo_ (ev - 1) ss_56 so lk_55 rs pt ot cl)), ((f 20), .inl (cL, 400, .inr (.inl one_57))), ((f 21), .inl (cL, 400, .inr (.inl two_58))), ((f 24), .inl (cI, 150, .inl spn)), ((f 18), .inl (cL, 9, .inr (.inl trm)))] H := hP
              have hD : va_D A [((f 25), .inl (cI, 41, .inl bss)), ((f 26), .inl (cI, 41, .inl wts)), ((f 27), .inl (cZ, 41, .inl snd)), ((f 28), .inl (cI, 41, .inl nbr)), (h0, .inr (8, mS f tn rm ln lx at_ bd fs dp on os bn df th tp_54 mo_ (ev - 1) ss_56 so lk_55 rs pt ot cl)), ((f 20), .inl (cL, 400, .inr (.inl one_57))), ((f 21), .inl (cL, 400, .inr (.inl two_58))), ((f 24), .inl (cI, 150, .inl spn)), ((f 18), .inl (cL, 9, .inr (.inl trm)))] := hD
              refine W.eq (g2 := F0 m 169 ls []) rfl ?_
              refine lv_goto (tgt := 290) hx hb d_MO_goesOn_169 (by decide) ?_
              exact em_vret hx hb hr hlocks hP hD hK hS (ev - 1, tp_54, lk_55, ss_56, so, one_57, two_58, bss, wts, snd, nbr) [4, 5, 6, 0, 1, 2, 3, 7, 8] (by decide) rfl ⟨rfl, ⟨hsnd, (show MI df Gc trm one_57 two_58 spn tp_54 lk_55 rs pt from ⟨hHG_61, (by rw [hlk_63]; exact (okh_con 2 (by decide) (by decide))), hrs, (by omega), (fun k hk => hsp k (by omega))⟩), (show (ev - 1) ≤ 40 from (by first | assumption | omega | exact Or.inl rfl)), (show me bss wts (ev - 1) tp_54 0 from (hsl.mono (by omega))), (show ((ss_56 = ss + 1 ∧ so = so) ∨ (ss_56 = ss ∧ ¬ so = 0) ∨ (ss_56 = ss ∧ so = so ∧ (ev - 1) = ev ∧ fz snd (ev - 1) + 1 = fz snd ev)) from (Or.inl ⟨hss_64, rfl⟩))⟩⟩ d_MO_goesOn_290
            · skip
              exact hbad.elim
          · skip
            have hn_66 : wa = 18 := (nI_eq (a := wa) (b := 18) (by omega) (by omega)).mp hb_52
            refine lv_lload hx hb d_MO_goesOn_159 (lv_at hl 5 rfl) ?_
            refine lv_goto (tgt := 166) hx hb d_MO_goesOn_161 (by decide) ?_
            refine em_call (wr := [((f 25), .inl (cI, 41, .inl bss)), ((f 26), .inl (cI, 41, .inl wts)), ((f 27), .inl (cZ, 41, .inl snd)), ((f 28), .inl (cI, 41, .inl nbr))]) (em_runV (As := [.int (nI 1), .long (wof 2 2), .long x]) (rest := []) ⟨hx, hb, hml, hown, hG⟩ (mo_overwrite l D cI cL cZ cC f h0 tn rm ln lx at_ bd fs dp on os bn df th mb mo_ (ev - 1) ss so v rs pt ot cl one two spn trm Gc 1 (wof 2 2) x _ (by omega) (by omega) (by omega) hHG (okh_con 2 (by decide) (by decide)) hx1 hsp2 hnt) (cwV 3 hG (gd_V k_1592 k_1594 k_94 k_116 k_1595) rfl rfl rfl (by decide +kernel) ⟨Nat.le_of_ble_eq_true rfl, Nat.le_of_ble_eq_true rfl⟩) (tw_V (q0 := 0) hP hD hK hE hst hS rfl rfl [0, 1, 2, 7, 8] rfl (by decide)) rfl rfl hl.1 rfl (lv_room (Nat.le_of_ble_eq_true rfl)) d_MO_goesOn_166 ⟨Nat.le_of_ble_eq_true rfl, Nat.le_of_ble_eq_true rfl⟩) hP hD hS hA [0, 1, 2, 7, 8] [3, 4, 5, 6] rfl rfl (by decide) (by decide) (fun v u H locs hok hP hD hS => ?_) (fun x C u H locs hbad hxx hP hD hS => ?_)
            · skip
              obtain ⟨tp_67, lk_68, ss_69, one_70, two_71⟩ := u
              obtain ⟨rfl, hp_73⟩ := hok
              obtain ⟨hHG_74, htp_75, hlk_76, hss_77⟩ : (HG df Gc trm one_70 two_71) ∧ (tp_67 + 1 = mb + 1) ∧ (lk_68 = (wof 2 2)) ∧ (ss_69 = ss + 1) := hp_73
              have hP : va_P D classes [((f 25), .inl (cI, 41, .inl bss)), ((f 26), .inl (cI, 41, .inl wts)), ((f 27), .inl (cZ, 41, .inl snd)), ((f 28), .inl (cI, 41, .inl nbr)), (h0, .inr (8, mS f tn rm ln lx at_ bd fs dp on os bn df th tp_67 mo_ (ev - 1) ss_69 so lk_68 rs pt ot cl)), ((f 20), .inl (cL, 400, .inr (.inl one_70))), ((f 21), .inl (cL, 400, .inr (.inl two_71))), ((f 24), .inl (cI, 150, .inl spn)), ((f 18), .inl (cL, 9, .inr (.inl trm)))] H := hP
              have hD : va_D A [((f 25), .inl (cI, 41, .inl bss)), ((f 26), .inl (cI, 41, .inl wts)), ((f 27), .inl (cZ, 41, .inl snd)), ((f 28), .inl (cI, 41, .inl nbr)), (h0, .inr (8, mS f tn rm ln lx at_ bd fs dp on os bn df th tp_67 mo_ (ev - 1) ss_69 so lk_68 rs pt ot cl)), ((f 20), .inl (cL, 400, .inr (.inl one_70))), ((f 21), .inl (cL, 400, .inr (.inl two_71))), ((f 24), .inl (cI, 150, .inl spn)), ((f 18), .inl (cL, 9, .inr (.inl trm)))] := hD
              refine W.eq (g2 := F0 m 169 ls []) rfl ?_
              refine lv_goto (tgt := 290) hx hb d_MO_goesOn_169 (by decide) ?_
              exact em_vret hx hb hr hlocks hP hD hK hS (ev - 1, tp_67, lk_68, ss_69, so, one_70, two_71, bss, wts, snd, nbr) [4, 5, 6, 0, 1, 2, 3, 7, 8] (by decide) rfl ⟨rfl, ⟨hsnd, (show MI df Gc trm one_70 two_71 spn tp_67 lk_68 rs pt from ⟨hHG_74, (by rw [hlk_76]; exact (okh_con 2 (by decide) (by decide))), hrs, (by omega), (fun k hk => hsp k (by omega))⟩), (show (ev - 1) ≤ 40 from (by first | assumption | omega | exact Or.inl rfl)), (show me bss wts (ev - 1) tp_67 0 from (hsl.mono (by omega))), (show ((ss_69 = ss + 1 ∧ so = so) ∨ (ss_69 = ss ∧ ¬ so = 0) ∨ (ss_69 = ss ∧ so = so ∧ (ev - 1) = ev ∧ fz snd (ev - 1) + 1 = fz snd ev)) from (Or.inl ⟨hss_77, rfl⟩))⟩⟩ d_MO_goesOn_290
            · skip
              exact hbad.elim
    · skip
      have hn_79 : wa = 10 := (nI_eq (a := wa) (b := 10) (by omega) (by omega)).mp hb_2
      refine lv_lload_n hx hb d_MO_goesOn_69 rfl (lv_at hl 3 rfl) ?_
      refine em_call (wr := [(h0, .inr (8, mS f tn rm ln lx at_ bd fs dp on os bn df th mb mo_ (ev - 1) ss so v rs pt ot cl)), ((f 20), .inl (cL, 400, .inr (.inl one))), ((f 21), .inl (cL, 400, .inr (.inl two))), ((f 25), .inl (cI, 41, .inl bss)), ((f 26), .inl (cI, 41, .inl wts)), ((f 27), .inl (cZ, 41, .inl snd)), ((f 28), .inl (cI, 41, .inl nbr)), ((f 24), .inl (cI, 150, .inl spn)), ((f 18), .inl (cL, 9, .inr (.inl trm)))]) (em_runS (As := [.long v]) (rest := []) ⟨hx, hb, hml, hown, hG⟩ (mo_truth l D cI cL cZ cC v _  hnt) (cwS 1 hG (gd_S k_1589 k_1590 k_116 k_1591) rfl rfl rfl (by decide +kernel) ⟨Nat.le_of_ble_eq_true rfl, Nat.le_of_ble_eq_true rfl⟩) (tw_S hP hD hK hE hst hS [] rfl (by decide)) rfl rfl hl.1 rfl (lv_room (Nat.le_of_ble_eq_true rfl)) d_MO_goesOn_70 ⟨Nat.le_of_ble_eq_true rfl, Nat.le_of_ble_eq_true rfl⟩) hP hD hS hA [] [0, 1, 2, 3, 4, 5, 6, 7, 8] rfl rfl (by decide) (by decide) (fun v u H locs hok hP hD hS => ?_) (fun x C u H locs hbad hxx hP hD hS => ?_)
      · skip
        obtain ⟨r_80, rfl, hp_81⟩ := hok
        have hP : va_P D classes [(h0, .inr (8, mS f tn rm ln lx at_ bd fs dp on os bn df th mb mo_ (ev - 1) ss so v rs pt ot cl)), ((f 20), .inl (cL, 400, .inr (.inl one))), ((f 21), .inl (cL, 400, .inr (.inl two))), ((f 25), .inl (cI, 41, .inl bss)), ((f 26), .inl (cI, 41, .inl wts)), ((f 27), .inl (cZ, 41, .inl snd)), ((f 28), .inl (cI, 41, .inl nbr)), ((f 24), .inl (cI, 150, .inl spn)), ((f 18), .inl (cL, 9, .inr (.inl trm)))] H := hP
        have hD : va_D A [(h0, .inr (8, mS f tn rm ln lx at_ bd fs dp on os bn df th mb mo_ (ev - 1) ss so v rs pt ot cl)), ((f 20), .inl (cL, 400, .inr (.inl one))), ((f 21), .inl (cL, 400, .inr (.inl two))), ((f 25), .inl (cI, 41, .inl bss)), ((f 26), .inl (cI, 41, .inl wts)), ((f 27), .inl (cZ, 41, .inl snd)), ((f 28), .inl (cI, 41, .inl nbr)), ((f 24), .inl (cI, 150, .inl spn)), ((f 18), .inl (cL, 9, .inr (.inl trm)))] := hD
        rcases hp_81 with rfl | rfl
        · skip
          refine W.eq (g2 := F0 m 73 ls [.int 0]) rfl ?_
          refine lv_if_eq (tgt := 81) hx hb d_MO_goesOn_73 (by decide) (fun hbr => ?_) (fun hbr => absurd (by decide) hbr)
          refine lv_aload_n hx hb d_MO_goesOn_81 rfl (lv_at hl 2 rfl) ?_
          refine lv_iconst (v := 2) hx hb d_MO_goesOn_82 (by decide) ?_
          refine va_put (D := D) (ci := 8) (v := .int 2) (ty := .int) (C := rn_MO) (T := fl_MO) (N := 55) hx hb hG in_MO tt_MO tk_MO nn_MO hown hK hP hD hS 0 rfl rfl 42 (by decide) (hG _ k_1233) (fun _ h9 => h9) rfl (by decide +kernel) rfl rfl (Nat.le_of_ble_eq_true rfl) d_MO_goesOn_83 (fun H locs hP hD hS => ?_)
          have hP : va_P D classes [(h0, .inr (8, mS f tn rm ln lx at_ bd fs dp on os bn df th mb mo_ (ev - 1) ss 2 v rs pt ot cl)), ((f 20), .inl (cL, 400, .inr (.inl one))), ((f 21), .inl (cL, 400, .inr (.inl two))), ((f 25), .inl (cI, 41, .inl bss)), ((f 26), .inl (cI, 41, .inl wts)), ((f 27), .inl (cZ, 41, .inl snd)), ((f 28), .inl (cI, 41, .inl nbr)), ((f 24), .inl (cI, 150, .inl spn)), ((f 18), .inl (cL, 9, .inr (.inl trm)))] H := hP
          have hD : va_D A [(h0, .inr (8, mS f tn rm ln lx at_ bd fs dp on os bn df th mb mo_ (ev - 1) ss 2 v rs pt ot cl)), ((f 20), .inl (cL, 400, .inr (.inl one))), ((f 21), .inl (cL, 400, .inr (.inl two))), ((f 25), .inl (cI, 41, .inl bss)), ((f 26), .inl (cI, 41, .inl wts)), ((f 27), .inl (cZ, 41, .inl snd)), ((f 28), .inl (cI, 41, .inl nbr)), ((f 24), .inl (cI, 150, .inl spn)), ((f 18), .inl (cL, 9, .inr (.inl trm)))] := hD
          refine lv_goto (tgt := 290) hx hb d_MO_goesOn_86 (by decide) ?_
          exact em_vret hx hb hr hlocks hP hD hK hS (ev - 1, mb, v, ss, 2, one, two, bss, wts, snd, nbr) [0, 1, 2, 3, 4, 5, 6, 7, 8] (by decide) rfl ⟨rfl, ⟨hsnd, (show MI df Gc trm one two spn mb v rs pt from ⟨hHG, hv, hrs, (by omega), (fun k hk => hsp k (by omega))⟩), (show (ev - 1) ≤ 40 from (by first | assumption | omega | exact Or.inl rfl)), (show me bss wts (ev - 1) mb 0 from (hsl.mono (by omega))), (show ((ss = ss + 1 ∧ 2 = so) ∨ (ss = ss ∧ ¬ 2 = 0) ∨ (ss = ss ∧ 2 = so ∧ (ev - 1) = ev ∧ fz snd (ev - 1) + 1 = fz snd ev)) from (Or.inr (Or.inl ⟨rfl, by decide⟩)))⟩⟩ d_MO_goesOn_290
        · skip
          refine W.eq (g2 := F0 m 73 ls [.int 1]) rfl ?_
          refine lv_if_eq (tgt := 81) hx hb d_MO_goesOn_73 (by decide) (fun hbr => absurd hbr (by decide)) (fun hbr => ?_)
          refine lv_iload hx hb d_MO_goesOn_76 (lv_at hl 7 rfl) ?_
          refine lv_if_eq (tgt := 89) hx hb d_MO_goesOn_78 (by decide) (fun hbr => ?_) (fun hbr => absurd (by decide) hbr)
          refine lv_aload_n hx hb d_MO_goesOn_89 rfl (lv_at hl 2 rfl) ?_
          refine lv_iconst (v := 3) hx hb d_MO_goesOn_90 (by decide) ?_
          refine lv_iconst (v := 2) hx hb d_MO_goesOn_91 (by decide) ?_
          refine W.callRL (W.runS (As := [.int 2]) (rest := [.int 3, .ref h0]) ⟨hx, hb, hml, hown, hG⟩ (mo_constant l D cI cL cZ cC 2 ) (cwS 1 hG (gd_S k_1461 k_1462 k_116 k_1463) rfl rfl rfl (by decide +kernel) ⟨Nat.le_of_ble_eq_true rfl, Nat.le_of_ble_eq_true rfl⟩) (wq_S hP hK [] rfl) rfl rfl hl.1 rfl (lv_room (Nat.le_of_ble_eq_true rfl)) d_MO_goesOn_92 ⟨Nat.le_of_ble_eq_true rfl, Nat.le_of_ble_eq_true rfl⟩) ?_
          refine W.eq (g2 := F0 m 95 ls [.long (wof 2 2), .int 3, .ref h0]) rfl ?_
          refine lv_aload_n hx hb d_MO_goesOn_95 rfl (lv_at hl 2 rfl) ?_
          refine lv_lload_n hx hb d_MO_goesOn_96 rfl (lv_at hl 3 rfl) ?_
          refine lv_bipush (v := 21) hx hb d_MO_goesOn_97 (by decide) ?_
          refine W.callRL (W.runS (As := [.int 21]) (rest := [.long v, .ref h0, .long (wof 2 2), .int 3, .ref h0]) ⟨hx, hb, hml, hown, hG⟩ (mo_constant l D cI cL cZ cC 21 ) (cwS 1 hG (gd_S k_1461 k_1462 k_116 k_1463) rfl rfl rfl (by decide +kernel) ⟨Nat.le_of_ble_eq_true rfl, Nat.le_of_ble_eq_true rfl⟩) (wq_S hP hK [] rfl) rfl rfl hl.1 rfl (lv_room (Nat.le_of_ble_eq_true rfl)) d_MO_goesOn_99 ⟨Nat.le_of_ble_eq_true rfl, Nat.le_of_ble_eq_true rfl⟩) ?_
          refine W.eq (g2 := F0 m 102 ls [.long (wof 2 21), .long v, .ref h0, .long (wof 2 2), .int 3, .ref h0]) rfl ?_
          refine W.lcmp hx hb d_MO_goesOn_102 ?_
          refine lv_if_ne (tgt := 110) hx hb d_MO_goesOn_103 (by decide) (fun hb_82 => ?_) (fun hb_82 => ?_)
          · skip
            have hq_83 : ¬ _ := fun h => hb_82 ((lg_cmp_eq _ _).mpr h)
            refine lv_iconst (v := 2) hx hb d_MO_goesOn_110 (by decide) ?_
            refine em_call (wr := [((f 25), .inl (cI, 41, .inl bss)), ((f 26), .inl (cI, 41, .inl wts)), ((f 27), .inl (cZ, 41, .inl snd)), ((f 28), .inl (cI, 41, .inl nbr))]) (em_runV (As := [.int (nI 2)]) (rest := [.long (wof 2 2), .int 3, .ref h0]) ⟨hx, hb, hml, hown, hG⟩ (mo_argument l D cI cL cZ cC f h0 tn rm ln lx at_ bd fs dp on os bn df th mb mo_ (ev - 1) ss so v rs pt ot cl two spn trm one Gc 2 _ (by omega) (by omega) hHG hsp2 hnt) (cwV 1 hG (gd_V k_1581 k_1583 k_92 k_116 k_1584) rfl rfl rfl (by decide +kernel) ⟨Nat.le_of_ble_eq_true rfl, Nat.le_of_ble_eq_true rfl⟩) (tw_V (q0 := 0) hP hD hK hE hst hS rfl rfl [0, 2, 7, 8, 1] rfl (by decide)) rfl rfl hl.1 rfl (lv_room (Nat.le_of_ble_eq_true rfl)) d_MO_goesOn_111 ⟨Nat.le_of_ble_eq_true rfl, Nat.le_of_ble_eq_true rfl⟩) hP hD hS hA [0, 2, 7, 8, 1] [3, 4, 5, 6] rfl rfl (by decide) (by decide) (fun v u H locs hok hP hD hS => ?_) (fun x C u H locs hbad hxx hP hD hS => ?_)
            · skip
              obtain ⟨r_84, rfl, hp_85⟩ := hok
              have hres_86 : (okh df Gc r_84) := hp_85
              have hP : va_P D classes [((f 25), .inl (cI, 41, .inl bss)), ((f 26), .inl (cI, 41, .inl wts)), ((f 27), .inl (cZ, 41, .inl snd)), ((f 28), .inl (cI, 41, .inl nbr)), (h0, .inr (8, mS f tn rm ln lx at_ bd fs dp on os bn df th mb mo_ (ev - 1) ss so v rs pt ot cl)), ((f 21), .inl (cL, 400, .inr (.inl two))), ((f 24), .inl (cI, 150, .inl spn)), ((f 18), .inl (cL, 9, .inr (.inl trm))), ((f 20), .inl (cL, 400, .inr (.inl one)))] H := hP
              have hD : va_D A [((f 25), .inl (cI, 41, .inl bss)), ((f 26), .inl (cI, 41, .inl wts)), ((f 27), .inl (cZ, 41, .inl snd)), ((f 28), .inl (cI, 41, .inl nbr)), (h0, .inr (8, mS f tn rm ln lx at_ bd fs dp on os bn df th mb mo_ (ev - 1) ss so v rs pt ot cl)), ((f 21), .inl (cL, 400, .inr (.inl two))), ((f 24), .inl (cI, 150, .inl spn)), ((f 18), .inl (cL, 9, .inr (.inl trm))), ((f 20), .inl (cL, 400, .inr (.inl one)))] := hD
              refine W.eq (g2 := F0 m 114 ls [.long r_84, .long (wof 2 2), .int 3, .ref h0]) rfl ?_
              refine em_call (wr := [((f 25), .inl (cI, 41, .inl bss)), ((f 26), .inl (cI, 41, .inl wts)), ((f 27), .inl (cZ, 41, .inl snd)), ((f 28), .inl (cI, 41, .inl nbr))]) (em_runV (As := [.int (nI 3), .long (wof 2 2), .long r_84]) (rest := []) ⟨hx, hb, hml, hown, hG⟩ (mo_overwrite l D cI cL cZ cC f h0 tn rm ln lx at_ bd fs dp on os bn df th mb mo_ (ev - 1) ss so v rs pt ot cl one two spn trm Gc 3 (wof 2 2) r_84 _ (by omega) (by omega) (by omega) hHG (okh_con 2 (by decide) (by decide)) hres_86 hsp2 hnt) (cwV 3 hG (gd_V k_1592 k_1594 k_94 k_116 k_1595) rfl rfl rfl (by decide +kernel) ⟨Nat.le_of_ble_eq_true rfl, Nat.le_of_ble_eq_true rfl⟩) (tw_V (q0 := 4) hP hD hK hE hst hS rfl rfl [4, 8, 5, 6, 7] rfl (by decide)) rfl rfl hl.1 rfl (lv_room (Nat.le_of_ble_eq_true rfl)) d_MO_goesOn_114 ⟨Nat.le_of_ble_eq_true rfl, Nat.le_of_ble_eq_true rfl⟩) hP hD hS hA [4, 8, 5, 6, 7] [0, 1, 2, 3] rfl rfl (by decide) (by decide) (fun v u H locs hok hP hD hS => ?_) (fun x C u H locs hbad hxx hP hD hS => ?_)
              · skip
                obtain ⟨tp_87, lk_88, ss_89, one_90, two_91⟩ := u
                obtain ⟨rfl, hp_93⟩ := hok
                obtain ⟨hHG_94, htp_95, hlk_96, hss_97⟩ : (HG df Gc trm one_90 two_91) ∧ (tp_87 + 3 = mb + 1) ∧ (lk_88 = (wof 2 2)) ∧ (ss_89 = ss + 1) := hp_93
                have hP : va_P D classes [((f 25), .inl (cI, 41, .inl bss)), ((f 26), .inl (cI, 41, .inl wts)), ((f 27), .inl (cZ, 41, .inl snd)), ((f 28), .inl (cI, 41, .inl nbr)), (h0, .inr (8, mS f tn rm ln lx at_ bd fs dp on os bn df th tp_87 mo_ (ev - 1) ss_89 so lk_88 rs pt ot cl)), ((f 20), .inl (cL, 400, .inr (.inl one_90))), ((f 21), .inl (cL, 400, .inr (.inl two_91))), ((f 24), .inl (cI, 150, .inl spn)), ((f 18), .inl (cL, 9, .inr (.inl trm)))] H := hP
                have hD : va_D A [((f 25), .inl (cI, 41, .inl bss)), ((f 26), .inl (cI, 41, .inl wts)), ((f 27), .inl (cZ, 41, .inl snd)), ((f 28), .inl (cI, 41, .inl nbr)), (h0, .inr (8, mS f tn rm ln lx at_ bd fs dp on os bn df th tp_87 mo_ (ev - 1) ss_89 so lk_88 rs pt ot cl)), ((f 20), .inl (cL, 400, .inr (.inl one_90))), ((f 21), .inl (cL, 400, .inr (.inl two_91))), ((f 24), .inl (cI, 150, .inl spn)), ((f 18), .inl (cL, 9, .inr (.inl trm)))] := hD
                refine W.eq (g2 := F0 m 117 ls []) rfl ?_
                refine lv_goto (tgt := 290) hx hb d_MO_goesOn_117 (by decide) ?_
                exact em_vret hx hb hr hlocks hP hD hK hS (ev - 1, tp_87, lk_88, ss_89, so, one_90, two_91, bss, wts, snd, nbr) [4, 5, 6, 0, 1, 2, 3, 7, 8] (by decide) rfl ⟨rfl, ⟨hsnd, (show MI df Gc trm one_90 two_91 spn tp_87 lk_88 rs pt from ⟨hHG_94, (by rw [hlk_96]; exact (okh_con 2 (by decide) (by decide))), hrs, (by omega), (fun k hk => hsp k (by omega))⟩), (show (ev - 1) ≤ 40 from (by first | assumption | omega | exact Or.inl rfl)), (show me bss wts (ev - 1) tp_87 0 from (hsl.mono (by omega))), (show ((ss_89 = ss + 1 ∧ so = so) ∨ (ss_89 = ss ∧ ¬ so = 0) ∨ (ss_89 = ss ∧ so = so ∧ (ev - 1) = ev ∧ fz snd (ev - 1) + 1 = fz snd ev)) from (Or.inl ⟨hss_97, rfl⟩))⟩⟩ d_MO_goesOn_290
              · skip
                exact hbad.elim
            · skip
              exact hbad.elim
          · skip
            have hq_99 := (lg_cmp_eq _ _).mp hb_82
            refine lv_iconst (v := 1) hx hb d_MO_goesOn_106 (by decide) ?_
            refine lv_goto (tgt := 111) hx hb d_MO_goesOn_107 (by decide) ?_
            refine em_call (wr := [((f 25), .inl (cI, 41, .inl bss)), ((f 26), .inl (cI, 41, .inl wts)), ((f 27), .inl (cZ, 41, .inl snd)), ((f 28), .inl (cI, 41, .inl nbr))]) (em_runV (As := [.int (nI 1)]) (rest := [.long (wof 2 2), .int 3, .ref h0]) ⟨hx, hb, hml, hown, hG⟩ (mo_argument l D cI cL cZ cC f h0 tn rm ln lx at_ bd fs dp on os bn df th mb mo_ (ev - 1) ss so v rs pt ot cl two spn trm one Gc 1 _ (by omega) (by omega) hHG hsp2 hnt) (cwV 1 hG (gd_V k_1581 k_1583 k_92 k_116 k_1584) rfl rfl rfl (by decide +kernel) ⟨Nat.le_of_ble_eq_true rfl, Nat.le_of_ble_eq_true rfl⟩) (tw_V (q0 := 0) hP hD hK hE hst hS rfl rfl [0, 2, 7, 8, 1] rfl (by decide)) rfl rfl hl.1 rfl (lv_room (Nat.le_of_ble_eq_true rfl)) d_MO_goesOn_111 ⟨Nat.le_of_ble_eq_true rfl, Nat.le_of_ble_eq_true rfl⟩) hP hD hS hA [0, 2, 7, 8, 1] [3, 4, 5, 6] rfl rfl (by decide) (by decide) (fun v u H locs hok hP hD hS => ?_) (fun x C u H locs hbad hxx hP hD hS => ?_)
            · skip
              obtain ⟨r_100, rfl, hp_101⟩ := hok
              have hres_102 : (okh df Gc r_100) := hp_101
              have hP : va_P D classes [((f 25), .inl (cI, 41, .inl bss)), ((f 26), .inl (cI, 41, .inl wts)), ((f 27), .inl (cZ, 41, .inl snd)), ((f 28), .inl (cI, 41, .inl nbr)), (h0, .inr (8, mS f tn rm ln lx at_ bd fs dp on os bn df th mb mo_ (ev - 1) ss so v rs pt ot cl)), ((f 21), .inl (cL, 400, .inr (.inl two))), ((f 24), .inl (cI, 150, .inl spn)), ((f 18), .inl (cL, 9, .inr (.inl trm))), ((f 20), .inl (cL, 400, .inr (.inl one)))] H := hP
              have hD : va_D A [((f 25), .inl (cI, 41, .inl bss)), ((f 26), .inl (cI, 41, .inl wts)), ((f 27), .inl (cZ, 41, .inl snd)), ((f 28), .inl (cI, 41, .inl nbr)), (h0, .inr (8, mS f tn rm ln lx at_ bd fs dp on os bn df th mb mo_ (ev - 1) ss so v rs pt ot cl)), ((f 21), .inl (cL, 400, .inr (.inl two))), ((f 24), .inl (cI, 150, .inl spn)), ((f 18), .inl (cL, 9, .inr (.inl trm))), ((f 20), .inl (cL, 400, .inr (.inl one)))] := hD
              refine W.eq (g2 := F0 m 114 ls [.long r_100, .long (wof 2 2), .int 3, .ref h0]) rfl ?_
              refine em_call (wr := [((f 25), .inl (cI, 41, .inl bss)), ((f 26), .inl (cI, 41, .inl wts)), ((f 27), .inl (cZ, 41, .inl snd)), ((f 28), .inl (cI, 41, .inl nbr))]) (em_runV (As := [.int (nI 3), .long (wof 2 2), .long r_100]) (rest := []) ⟨hx, hb, hml, hown, hG⟩ (mo_overwrite l D cI cL cZ cC f h0 tn rm ln lx at_ bd fs dp on os bn df th mb mo_ (ev - 1) ss so v rs pt ot cl one two spn trm Gc 3 (wof 2 2) r_100 _ (by omega) (by omega) (by omega) hHG (okh_con 2 (by decide) (by decide)) hres_102 hsp2 hnt) (cwV 3 hG (gd_V k_1592 k_1594 k_94 k_116 k_1595) rfl rfl rfl (by decide +kernel) ⟨Nat.le_of_ble_eq_true rfl, Nat.le_of_ble_eq_true rfl⟩) (tw_V (q0 := 4) hP hD hK hE hst hS rfl rfl [4, 8, 5, 6, 7] rfl (by decide)) rfl rfl hl.1 rfl (lv_room (Nat.le_of_ble_eq_true rfl)) d_MO_goesOn_114 ⟨Nat.le_of_ble_eq_true rfl, Nat.le_of_ble_eq_true rfl⟩) hP hD hS hA [4, 8, 5, 6, 7] [0, 1, 2, 3] rfl rfl (by decide) (by decide) (fun v u H locs hok hP hD hS => ?_) (fun x C u H locs hbad hxx hP hD hS => ?_)
              · skip
                obtain ⟨tp_103, lk_104, ss_105, one_106, two_107⟩ := u
                obtain ⟨rfl, hp_109⟩ := hok
                obtain ⟨hHG_110, htp_111, hlk_112, hss_113⟩ : (HG df Gc trm one_106 two_107) ∧ (tp_103 + 3 = mb + 1) ∧ (lk_104 = (wof 2 2)) ∧ (ss_105 = ss + 1) := hp_109
                have hP : va_P D classes [((f 25), .inl (cI, 41, .inl bss)), ((f 26), .inl (cI, 41, .inl wts)), ((f 27), .inl (cZ, 41, .inl snd)), ((f 28), .inl (cI, 41, .inl nbr)), (h0, .inr (8, mS f tn rm ln lx at_ bd fs dp on os bn df th tp_103 mo_ (ev - 1) ss_105 so lk_104 rs pt ot cl)), ((f 20), .inl (cL, 400, .inr (.inl one_106))), ((f 21), .inl (cL, 400, .inr (.inl two_107))), ((f 24), .inl (cI, 150, .inl spn)), ((f 18), .inl (cL, 9, .inr (.inl trm)))] H := hP
                have hD : va_D A [((f 25), .inl (cI, 41, .inl bss)), ((f 26), .inl (cI, 41, .inl wts)), ((f 27), .inl (cZ, 41, .inl snd)), ((f 28), .inl (cI, 41, .inl nbr)), (h0, .inr (8, mS f tn rm ln lx at_ bd fs dp on os bn df th tp_103 mo_ (ev - 1) ss_105 so lk_104 rs pt ot cl)), ((f 20), .inl (cL, 400, .inr (.inl one_106))), ((f 21), .inl (cL, 400, .inr (.inl two_107))), ((f 24), .inl (cI, 150, .inl spn)), ((f 18), .inl (cL, 9, .inr (.inl trm)))] := hD
                refine W.eq (g2 := F0 m 117 ls []) rfl ?_
                refine lv_goto (tgt := 290) hx hb d_MO_goesOn_117 (by decide) ?_
                exact em_vret hx hb hr hlocks hP hD hK hS (ev - 1, tp_103, lk_104, ss_105, so, one_106, two_107, bss, wts, snd, nbr) [4, 5, 6, 0, 1, 2, 3, 7, 8] (by decide) rfl ⟨rfl, ⟨hsnd, (show MI df Gc trm one_106 two_107 spn tp_103 lk_104 rs pt from ⟨hHG_110, (by rw [hlk_112]; exact (okh_con 2 (by decide) (by decide))), hrs, (by omega), (fun k hk => hsp k (by omega))⟩), (show (ev - 1) ≤ 40 from (by first | assumption | omega | exact Or.inl rfl)), (show me bss wts (ev - 1) tp_103 0 from (hsl.mono (by omega))), (show ((ss_105 = ss + 1 ∧ so = so) ∨ (ss_105 = ss ∧ ¬ so = 0) ∨ (ss_105 = ss ∧ so = so ∧ (ev - 1) = ev ∧ fz snd (ev - 1) + 1 = fz snd ev)) from (Or.inl ⟨hss_113, rfl⟩))⟩⟩ d_MO_goesOn_290
              · skip
                exact hbad.elim
            · skip
              exact hbad.elim
      · skip
        exact hbad.elim
  · skip
    refine lv_iload_n hx hb d_MO_goesOn_46 rfl (lv_at hl 3 rfl) ?_
    refine lv_if_ne (tgt := 59) hx hb d_MO_goesOn_47 (by decide) (fun hbr => ?_) (fun hbr => absurd hbr (by decide))
    refine lv_iconst (v := 0) hx hb d_MO_goesOn_59 (by decide) ?_
    refine lv_istore (lv' := [(10, .int 0), (9, .int (nI wa)), (0, .ref h0), (1, .long v), (3, .int 1), (4, .long x), (6, .long y), (8, .int 0)]) hx hb d_MO_goesOn_60 hl (Nat.le_of_ble_eq_true rfl) rfl (fun ls hl => ?_)
    refine lv_iload hx hb d_MO_goesOn_62 (lv_at hl 1 rfl) ?_
    refine lv_bipush (v := 10) hx hb d_MO_goesOn_64 (by decide) ?_
    refine lv_icmp_ne (tgt := 120) hx hb d_MO_goesOn_66 (by decide) (fun hb_115 => ?_) (fun hb_115 => ?_)
    · skip
      have hn_116 : ¬ wa = 10 := fun h => hb_115 ((nI_eq (a := wa) (b := 10) (by omega) (by omega)).mpr h)
      refine lv_iload hx hb d_MO_goesOn_120 (lv_at hl 1 rfl) ?_
      refine lv_bipush (v := 18) hx hb d_MO_goesOn_122 (by decide) ?_
      refine lv_icmp_eq (tgt := 134) hx hb d_MO_goesOn_124 (by decide) (fun hb_117 => ?_) (fun hb_117 => ?_)
      · skip
        have hn_118 : wa = 18 := (nI_eq (a := wa) (b := 18) (by omega) (by omega)).mp hb_117
        refine lv_iload_n hx hb d_MO_goesOn_134 rfl (lv_at hl 4 rfl) ?_
        refine lv_if_ne (tgt := 146) hx hb d_MO_goesOn_135 (by decide) (fun hbr => ?_) (fun hbr => absurd hbr (by decide))
        refine lv_aload_n hx hb d_MO_goesOn_146 rfl (lv_at hl 2 rfl) ?_
        refine lv_iconst (v := 1) hx hb d_MO_goesOn_147 (by decide) ?_
        refine lv_iconst (v := 2) hx hb d_MO_goesOn_148 (by decide) ?_
        refine W.callRL (W.runS (As := [.int 2]) (rest := [.int 1, .ref h0]) ⟨hx, hb, hml, hown, hG⟩ (mo_constant l D cI cL cZ cC 2 ) (cwS 1 hG (gd_S k_1461 k_1462 k_116 k_1463) rfl rfl rfl (by decide +kernel) ⟨Nat.le_of_ble_eq_true rfl, Nat.le_of_ble_eq_true rfl⟩) (wq_S hP hK [] rfl) rfl rfl hl.1 rfl (lv_room (Nat.le_of_ble_eq_true rfl)) d_MO_goesOn_149 ⟨Nat.le_of_ble_eq_true rfl, Nat.le_of_ble_eq_true rfl⟩) ?_
        refine W.eq (g2 := F0 m 152 ls [.long (wof 2 2), .int 1, .ref h0]) rfl ?_
        refine lv_iload hx hb d_MO_goesOn_152 (lv_at hl 1 rfl) ?_
        refine lv_bipush (v := 18) hx hb d_MO_goesOn_154 (by decide) ?_
        refine lv_icmp_ne (tgt := 164) hx hb d_MO_goesOn_156 (by decide) (fun hb_119 => ?_) (fun hb_119 => ?_)
        · skip
          have hn_120 : ¬ wa = 18 := fun h => hb_119 ((nI_eq (a := wa) (b := 18) (by omega) (by omega)).mpr h)
          refine lv_lload hx hb d_MO_goesOn_164 (lv_at hl 6 rfl) ?_
          refine em_call (wr := [((f 25), .inl (cI, 41, .inl bss)), ((f 26), .inl (cI, 41, .inl wts)), ((f 27), .inl (cZ, 41, .inl snd)), ((f 28), .inl (cI, 41, .inl nbr))]) (em_runV (As := [.int (nI 1), .long (wof 2 2), .long y]) (rest := []) ⟨hx, hb, hml, hown, hG⟩ (mo_overwrite l D cI cL cZ cC f h0 tn rm ln lx at_ bd fs dp on os bn df th mb mo_ (ev - 1) ss so v rs pt ot cl one two spn trm Gc 1 (wof 2 2) y _ (by omega) (by omega) (by omega) hHG (okh_con 2 (by decide) (by decide)) hy1 hsp2 hnt) (cwV 3 hG (gd_V k_1592 k_1594 k_94 k_116 k_1595) rfl rfl rfl (by decide +kernel) ⟨Nat.le_of_ble_eq_true rfl, Nat.le_of_ble_eq_true rfl⟩) (tw_V (q0 := 0) hP hD hK hE hst hS rfl rfl [0, 1, 2, 7, 8] rfl (by decide)) rfl rfl hl.1 rfl (lv_room (Nat.le_of_ble_eq_true rfl)) d_MO_goesOn_166 ⟨Nat.le_of_ble_eq_true rfl, Nat.le_of_ble_eq_true rfl⟩) hP hD hS hA [0, 1, 2, 7, 8] [3, 4, 5, 6] rfl rfl (by decide) (by decide) (fun v u H locs hok hP hD hS => ?_) (fun x C u H locs hbad hxx hP hD hS => ?_)
          · skip
            obtain ⟨tp_121, lk_122, ss_123, one_124, two_125⟩ := u
            obtain ⟨rfl, hp_127⟩ := hok
            obtain ⟨hHG_128, htp_129, hlk_130, hss_131⟩ : (HG df Gc trm one_124 two_125) ∧ (tp_121 + 1 = mb + 1) ∧ (lk_122 = (wof 2 2)) ∧ (ss_123 = ss + 1) := hp_127
            have hP : va_P D classes [((f 25), .inl (cI, 41, .inl bss)), ((f 26), .inl (cI, 41, .inl wts)), ((f 27), .inl (cZ, 41, .inl snd)), ((f 28), .inl (cI, 41, .inl nbr)), (h0, .inr (8, mS f tn rm ln lx at_ bd fs dp on os bn df th tp_121 mo_ (ev - 1) ss_123 so lk_122 rs pt ot cl)), ((f 20), .inl (cL, 400, .inr (.inl one_124))), ((f 21), .inl (cL, 400, .inr (.inl two_125))), ((f 24), .inl (cI, 150, .inl spn)), ((f 18), .inl (cL, 9, .inr (.inl trm)))] H := hP
            have hD : va_D A [((f 25), .inl (cI, 41, .inl bss)), ((f 26), .inl (cI, 41, .inl wts)), ((f 27), .inl (cZ, 41, .inl snd)), ((f 28), .inl (cI, 41, .inl nbr)), (h0, .inr (8, mS f tn rm ln lx at_ bd fs dp on os bn df th tp_121 mo_ (ev - 1) ss_123 so lk_122 rs pt ot cl)), ((f 20), .inl (cL, 400, .inr (.inl one_124))), ((f 21), .inl (cL, 400, .inr (.inl two_125))), ((f 24), .inl (cI, 150, .inl spn)), ((f 18), .inl (cL, 9, .inr (.inl trm)))] := hD
            refine W.eq (g2 := F0 m 169 ls []) rfl ?_
            refine lv_goto (tgt := 290) hx hb d_MO_goesOn_169 (by decide) ?_
            exact em_vret hx hb hr hlocks hP hD hK hS (ev - 1, tp_121, lk_122, ss_123, so, one_124, two_125, bss, wts, snd, nbr) [4, 5, 6, 0, 1, 2, 3, 7, 8] (by decide) rfl ⟨rfl, ⟨hsnd, (show MI df Gc trm one_124 two_125 spn tp_121 lk_122 rs pt from ⟨hHG_128, (by rw [hlk_130]; exact (okh_con 2 (by decide) (by decide))), hrs, (by omega), (fun k hk => hsp k (by omega))⟩), (show (ev - 1) ≤ 40 from (by first | assumption | omega | exact Or.inl rfl)), (show me bss wts (ev - 1) tp_121 0 from (hsl.mono (by omega))), (show ((ss_123 = ss + 1 ∧ so = so) ∨ (ss_123 = ss ∧ ¬ so = 0) ∨ (ss_123 = ss ∧ so = so ∧ (ev - 1) = ev ∧ fz snd (ev - 1) + 1 = fz snd ev)) from (Or.inl ⟨hss_131, rfl⟩))⟩⟩ d_MO_goesOn_290
          · skip
            exact hbad.elim
        · skip
          have hn_133 : wa = 18 := (nI_eq (a := wa) (b := 18) (by omega) (by omega)).mp hb_119
          refine lv_lload hx hb d_MO_goesOn_159 (lv_at hl 5 rfl) ?_
          refine lv_goto (tgt := 166) hx hb d_MO_goesOn_161 (by decide) ?_
          refine em_call (wr := [((f 25), .inl (cI, 41, .inl bss)), ((f 26), .inl (cI, 41, .inl wts)), ((f 27), .inl (cZ, 41, .inl snd)), ((f 28), .inl (cI, 41, .inl nbr))]) (em_runV (As := [.int (nI 1), .long (wof 2 2), .long x]) (rest := []) ⟨hx, hb, hml, hown, hG⟩ (mo_overwrite l D cI cL cZ cC f h0 tn rm ln lx at_ bd fs dp on os bn df th mb mo_ (ev - 1) ss so v rs pt ot cl one two spn trm Gc 1 (wof 2 2) x _ (by omega) (by omega) (by omega) hHG (okh_con 2 (by decide) (by decide)) hx1 hsp2 hnt) (cwV 3 hG (gd_V k_1592 k_1594 k_94 k_116 k_1595) rfl rfl rfl (by decide +kernel) ⟨Nat.le_of_ble_eq_true rfl, Nat.le_of_ble_eq_true rfl⟩) (tw_V (q0 := 0) hP hD hK hE hst hS rfl rfl [0, 1, 2, 7, 8] rfl (by decide)) rfl rfl hl.1 rfl (lv_room (Nat.le_of_ble_eq_true rfl)) d_MO_goesOn_166 ⟨Nat.le_of_ble_eq_true rfl, Nat.le_of_ble_eq_true rfl⟩) hP hD hS hA [0, 1, 2, 7, 8] [3, 4, 5, 6] rfl rfl (by decide) (by decide) (fun v u H locs hok hP hD hS => ?_) (fun x C u H locs hbad hxx hP hD hS => ?_)
          · skip
            obtain ⟨tp_134, lk_135, ss_136, one_137, two_138⟩ := u
            obtain ⟨rfl, hp_140⟩ := hok
            obtain ⟨hHG_141, htp_142, hlk_143, hss_144⟩ : (HG df Gc trm one_137 two_138) ∧ (tp_134 + 1 = mb + 1) ∧ (lk_135 = (wof 2 2)) ∧ (ss_136 = ss + 1) := hp_140
            have hP : va_P D classes [((f 25), .inl (cI, 41, .inl bss)), ((f 26), .inl (cI, 41, .inl wts)), ((f 27), .inl (cZ, 41, .inl snd)), ((f 28), .inl (cI, 41, .inl nbr)), (h0, .inr (8, mS f tn rm ln lx at_ bd fs dp on os bn df th tp_134 mo_ (ev - 1) ss_136 so lk_135 rs pt ot cl)), ((f 20), .inl (cL, 400, .inr (.inl one_137))), ((f 21), .inl (cL, 400, .inr (.inl two_138))), ((f 24), .inl (cI, 150, .inl spn)), ((f 18), .inl (cL, 9, .inr (.inl trm)))] H := hP
            have hD : va_D A [((f 25), .inl (cI, 41, .inl bss)), ((f 26), .inl (cI, 41, .inl wts)), ((f 27), .inl (cZ, 41, .inl snd)), ((f 28), .inl (cI, 41, .inl nbr)), (h0, .inr (8, mS f tn rm ln lx at_ bd fs dp on os bn df th tp_134 mo_ (ev - 1) ss_136 so lk_135 rs pt ot cl)), ((f 20), .inl (cL, 400, .inr (.inl one_137))), ((f 21), .inl (cL, 400, .inr (.inl two_138))), ((f 24), .inl (cI, 150, .inl spn)), ((f 18), .inl (cL, 9, .inr (.inl trm)))] := hD
            refine W.eq (g2 := F0 m 169 ls []) rfl ?_
            refine lv_goto (tgt := 290) hx hb d_MO_goesOn_169 (by decide) ?_
            exact em_vret hx hb hr hlocks hP hD hK hS (ev - 1, tp_134, lk_135, ss_136, so, one_137, two_138, bss, wts, snd, nbr) [4, 5, 6, 0, 1, 2, 3, 7, 8] (by decide) rfl ⟨rfl, ⟨hsnd, (show MI df Gc trm one_137 two_138 spn tp_134 lk_135 rs pt from ⟨hHG_141, (by rw [hlk_143]; exact (okh_con 2 (by decide) (by decide))), hrs, (by omega), (fun k hk => hsp k (by omega))⟩), (show (ev - 1) ≤ 40 from (by first | assumption | omega | exact Or.inl rfl)), (show me bss wts (ev - 1) tp_134 0 from (hsl.mono (by omega))), (show ((ss_136 = ss + 1 ∧ so = so) ∨ (ss_136 = ss ∧ ¬ so = 0) ∨ (ss_136 = ss ∧ so = so ∧ (ev - 1) = ev ∧ fz snd (ev - 1) + 1 = fz snd ev)) from (Or.inl ⟨hss_144, rfl⟩))⟩⟩ d_MO_goesOn_290
          · skip
            exact hbad.elim
      · skip
        have hn_146 : ¬ wa = 18 := fun h => hb_117 ((nI_eq (a := wa) (b := 18) (by omega) (by omega)).mpr h)
        refine lv_iload hx hb d_MO_goesOn_127 (lv_at hl 1 rfl) ?_
        refine lv_bipush (v := 19) hx hb d_MO_goesOn_129 (by decide) ?_
        refine lv_icmp_ne (tgt := 172) hx hb d_MO_goesOn_131 (by decide) (fun hb_147 => ?_) (fun hb_147 => ?_)
        · skip
          have hn_148 : ¬ wa = 19 := fun h => hb_147 ((nI_eq (a := wa) (b := 19) (by omega) (by omega)).mpr h)
          refine lv_iload hx hb d_MO_goesOn_172 (lv_at hl 1 rfl) ?_
          refine lv_bipush (v := 20) hx hb d_MO_goesOn_174 (by decide) ?_
          refine lv_icmp_ne (tgt := 227) hx hb d_MO_goesOn_176 (by decide) (fun hb_149 => ?_) (fun hb_149 => ?_)
          · skip
            have hn_150 : ¬ wa = 20 := fun h => hb_149 ((nI_eq (a := wa) (b := 20) (by omega) (by omega)).mpr h)
            refine lv_iload hx hb d_MO_goesOn_227 (lv_at hl 0 rfl) ?_
            refine lv_if_ne (tgt := 240) hx hb d_MO_goesOn_229 (by decide) (fun hbr => absurd (by decide) hbr) (fun hbr => ?_)
            refine lv_aload_n hx hb d_MO_goesOn_232 rfl (lv_at hl 2 rfl) ?_
            refine lv_iconst (v := 2) hx hb d_MO_goesOn_233 (by decide) ?_
            refine va_put (D := D) (ci := 8) (v := .int 2) (ty := .int) (C := rn_MO) (T := fl_MO) (N := 55) hx hb hG in_MO tt_MO tk_MO nn_MO hown hK hP hD hS 0 rfl rfl 42 (by decide) (hG _ k_1233) (fun _ h9 => h9) rfl (by decide +kernel) rfl rfl (Nat.le_of_ble_eq_true rfl) d_MO_goesOn_234 (fun H locs hP hD hS => ?_)
            have hP : va_P D classes [(h0, .inr (8, mS f tn rm ln lx at_ bd fs dp on os bn df th mb mo_ (ev - 1) ss 2 v rs pt ot cl)), ((f 20), .inl (cL, 400, .inr (.inl one))), ((f 21), .inl (cL, 400, .inr (.inl two))), ((f 25), .inl (cI, 41, .inl bss)), ((f 26), .inl (cI, 41, .inl wts)), ((f 27), .inl (cZ, 41, .inl snd)), ((f 28), .inl (cI, 41, .inl nbr)), ((f 24), .inl (cI, 150, .inl spn)), ((f 18), .inl (cL, 9, .inr (.inl trm)))] H := hP
            have hD : va_D A [(h0, .inr (8, mS f tn rm ln lx at_ bd fs dp on os bn df th mb mo_ (ev - 1) ss 2 v rs pt ot cl)), ((f 20), .inl (cL, 400, .inr (.inl one))), ((f 21), .inl (cL, 400, .inr (.inl two))), ((f 25), .inl (cI, 41, .inl bss)), ((f 26), .inl (cI, 41, .inl wts)), ((f 27), .inl (cZ, 41, .inl snd)), ((f 28), .inl (cI, 41, .inl nbr)), ((f 24), .inl (cI, 150, .inl spn)), ((f 18), .inl (cL, 9, .inr (.inl trm)))] := hD
            refine lv_goto (tgt := 290) hx hb d_MO_goesOn_237 (by decide) ?_
            exact em_vret hx hb hr hlocks hP hD hK hS (ev - 1, mb, v, ss, 2, one, two, bss, wts, snd, nbr) [0, 1, 2, 3, 4, 5, 6, 7, 8] (by decide) rfl ⟨rfl, ⟨hsnd, (show MI df Gc trm one two spn mb v rs pt from ⟨hHG, hv, hrs, (by omega), (fun k hk => hsp k (by omega))⟩), (show (ev - 1) ≤ 40 from (by first | assumption | omega | exact Or.inl rfl)), (show me bss wts (ev - 1) mb 0 from (hsl.mono (by omega))), (show ((ss = ss + 1 ∧ 2 = so) ∨ (ss = ss ∧ ¬ 2 = 0) ∨ (ss = ss ∧ 2 = so ∧ (ev - 1) = ev ∧ fz snd (ev - 1) + 1 = fz snd ev)) from (Or.inr (Or.inl ⟨rfl, by decide⟩)))⟩⟩ d_MO_goesOn_290
          · skip
            have hn_151 : wa = 20 := (nI_eq (a := wa) (b := 20) (by omega) (by omega)).mp hb_149
            refine lv_iload_n hx hb d_MO_goesOn_179 rfl (lv_at hl 4 rfl) ?_
            refine lv_if_ne (tgt := 201) hx hb d_MO_goesOn_180 (by decide) (fun hbr => ?_) (fun hbr => absurd hbr (by decide))
            refine lv_aload_n hx hb d_MO_goesOn_201 rfl (lv_at hl 2 rfl) ?_
            refine lv_iconst (v := 1) hx hb d_MO_goesOn_202 (by decide) ?_
            refine lv_iconst (v := 2) hx hb d_MO_goesOn_203 (by decide) ?_
            refine W.callRL (W.runS (As := [.int 2]) (rest := [.int 1, .ref h0]) ⟨hx, hb, hml, hown, hG⟩ (mo_constant l D cI cL cZ cC 2 ) (cwS 1 hG (gd_S k_1461 k_1462 k_116 k_1463) rfl rfl rfl (by decide +kernel) ⟨Nat.le_of_ble_eq_true rfl, Nat.le_of_ble_eq_true rfl⟩) (wq_S hP hK [] rfl) rfl rfl hl.1 rfl (lv_room (Nat.le_of_ble_eq_true rfl)) d_MO_goesOn_204 ⟨Nat.le_of_ble_eq_true rfl, Nat.le_of_ble_eq_true rfl⟩) ?_
            refine W.eq (g2 := F0 m 207 ls [.long (wof 2 2), .int 1, .ref h0]) rfl ?_
            refine lv_iload_n hx hb d_MO_goesOn_207 rfl (lv_at hl 4 rfl) ?_
            refine lv_if_eq (tgt := 216) hx hb d_MO_goesOn_208 (by decide) (fun hbr => absurd hbr (by decide)) (fun hbr => ?_)
            refine lv_bipush (v := 22) hx hb d_MO_goesOn_211 (by decide) ?_
            refine lv_goto (tgt := 218) hx hb d_MO_goesOn_213 (by decide) ?_
            refine W.callRL (W.runS (As := [.int 22]) (rest := [.long (wof 2 2), .int 1, .ref h0]) ⟨hx, hb, hml, hown, hG⟩ (mo_constant l D cI cL cZ cC 22 ) (cwS 1 hG (gd_S k_1461 k_1462 k_116 k_1463) rfl rfl rfl (by decide +kernel) ⟨Nat.le_of_ble_eq_true rfl, Nat.le_of_ble_eq_true rfl⟩) (wq_S hP hK [] rfl) rfl rfl hl.1 rfl (lv_room (Nat.le_of_ble_eq_true rfl)) d_MO_goesOn_218 ⟨Nat.le_of_ble_eq_true rfl, Nat.le_of_ble_eq_true rfl⟩) ?_
            refine W.eq (g2 := F0 m 221 ls [.long (wof 2 22), .long (wof 2 2), .int 1, .ref h0]) rfl ?_
            refine em_call (wr := [((f 25), .inl (cI, 41, .inl bss)), ((f 26), .inl (cI, 41, .inl wts)), ((f 27), .inl (cZ, 41, .inl snd)), ((f 28), .inl (cI, 41, .inl nbr))]) (em_runV (As := [.int (nI 1), .long (wof 2 2), .long (wof 2 22)]) (rest := []) ⟨hx, hb, hml, hown, hG⟩ (mo_overwrite l D cI cL cZ cC f h0 tn rm ln lx at_ bd fs dp on os bn df th mb mo_ (ev - 1) ss so v rs pt ot cl one two spn trm Gc 1 (wof 2 2) (wof 2 22) _ (by omega) (by omega) (by omega) hHG (okh_con 2 (by decide) (by decide)) (okh_con 22 (by decide) (by decide)) hsp2 hnt) (cwV 3 hG (gd_V k_1592 k_1594 k_94 k_116 k_1595) rfl rfl rfl (by decide +kernel) ⟨Nat.le_of_ble_eq_true rfl, Nat.le_of_ble_eq_true rfl⟩) (tw_V (q0 := 0) hP hD hK hE hst hS rfl rfl [0, 1, 2, 7, 8] rfl (by decide)) rfl rfl hl.1 rfl (lv_room (Nat.le_of_ble_eq_true rfl)) d_MO_goesOn_221 ⟨Nat.le_of_ble_eq_true rfl, Nat.le_of_ble_eq_true rfl⟩) hP hD hS hA [0, 1, 2, 7, 8] [3, 4, 5, 6] rfl rfl (by decide) (by decide) (fun v u H locs hok hP hD hS => ?_) (fun x C u H locs hbad hxx hP hD hS => ?_)
            · skip
              obtain ⟨tp_152, lk_153, ss_154, one_155, two_156⟩ := u
              obtain ⟨rfl, hp_158⟩ := hok
              obtain ⟨hHG_159, htp_160, hlk_161, hss_162⟩ : (HG df Gc trm one_155 two_156) ∧ (tp_152 + 1 = mb + 1) ∧ (lk_153 = (wof 2 2)) ∧ (ss_154 = ss + 1) := hp_158
              have hP : va_P D classes [((f 25), .inl (cI, 41, .inl bss)), ((f 26), .inl (cI, 41, .inl wts)), ((f 27), .inl (cZ, 41, .inl snd)), ((f 28), .inl (cI, 41, .inl nbr)), (h0, .inr (8, mS f tn rm ln lx at_ bd fs dp on os bn df th tp_152 mo_ (ev - 1) ss_154 so lk_153 rs pt ot cl)), ((f 20), .inl (cL, 400, .inr (.inl one_155))), ((f 21), .inl (cL, 400, .inr (.inl two_156))), ((f 24), .inl (cI, 150, .inl spn)), ((f 18), .inl (cL, 9, .inr (.inl trm)))] H := hP
              have hD : va_D A [((f 25), .inl (cI, 41, .inl bss)), ((f 26), .inl (cI, 41, .inl wts)), ((f 27), .inl (cZ, 41, .inl snd)), ((f 28), .inl (cI, 41, .inl nbr)), (h0, .inr (8, mS f tn rm ln lx at_ bd fs dp on os bn df th tp_152 mo_ (ev - 1) ss_154 so lk_153 rs pt ot cl)), ((f 20), .inl (cL, 400, .inr (.inl one_155))), ((f 21), .inl (cL, 400, .inr (.inl two_156))), ((f 24), .inl (cI, 150, .inl spn)), ((f 18), .inl (cL, 9, .inr (.inl trm)))] := hD
              refine W.eq (g2 := F0 m 224 ls []) rfl ?_
              refine lv_goto (tgt := 290) hx hb d_MO_goesOn_224 (by decide) ?_
              exact em_vret hx hb hr hlocks hP hD hK hS (ev - 1, tp_152, lk_153, ss_154, so, one_155, two_156, bss, wts, snd, nbr) [4, 5, 6, 0, 1, 2, 3, 7, 8] (by decide) rfl ⟨rfl, ⟨hsnd, (show MI df Gc trm one_155 two_156 spn tp_152 lk_153 rs pt from ⟨hHG_159, (by rw [hlk_161]; exact (okh_con 2 (by decide) (by decide))), hrs, (by omega), (fun k hk => hsp k (by omega))⟩), (show (ev - 1) ≤ 40 from (by first | assumption | omega | exact Or.inl rfl)), (show me bss wts (ev - 1) tp_152 0 from (hsl.mono (by omega))), (show ((ss_154 = ss + 1 ∧ so = so) ∨ (ss_154 = ss ∧ ¬ so = 0) ∨ (ss_154 = ss ∧ so = so ∧ (ev - 1) = ev ∧ fz snd (ev - 1) + 1 = fz snd ev)) from (Or.inl ⟨hss_162, rfl⟩))⟩⟩ d_MO_goesOn_290
            · skip
              exact hbad.elim
        · skip
          have hn_164 : wa = 19 := (nI_eq (a := wa) (b := 19) (by omega) (by omega)).mp hb_147
          refine lv_iload_n hx hb d_MO_goesOn_134 rfl (lv_at hl 4 rfl) ?_
          refine lv_if_ne (tgt := 146) hx hb d_MO_goesOn_135 (by decide) (fun hbr => ?_) (fun hbr => absurd hbr (by decide))
          refine lv_aload_n hx hb d_MO_goesOn_146 rfl (lv_at hl 2 rfl) ?_
          refine lv_iconst (v := 1) hx hb d_MO_goesOn_147 (by decide) ?_
          refine lv_iconst (v := 2) hx hb d_MO_goesOn_148 (by decide) ?_
          refine W.callRL (W.runS (As := [.int 2]) (rest := [.int 1, .ref h0]) ⟨hx, hb, hml, hown, hG⟩ (mo_constant l D cI cL cZ cC 2 ) (cwS 1 hG (gd_S k_1461 k_1462 k_116 k_1463) rfl rfl rfl (by decide +kernel) ⟨Nat.le_of_ble_eq_true rfl, Nat.le_of_ble_eq_true rfl⟩) (wq_S hP hK [] rfl) rfl rfl hl.1 rfl (lv_room (Nat.le_of_ble_eq_true rfl)) d_MO_goesOn_149 ⟨Nat.le_of_ble_eq_true rfl, Nat.le_of_ble_eq_true rfl⟩) ?_
          refine W.eq (g2 := F0 m 152 ls [.long (wof 2 2), .int 1, .ref h0]) rfl ?_
          refine lv_iload hx hb d_MO_goesOn_152 (lv_at hl 1 rfl) ?_
          refine lv_bipush (v := 18) hx hb d_MO_goesOn_154 (by decide) ?_
          refine lv_icmp_ne (tgt := 164) hx hb d_MO_goesOn_156 (by decide) (fun hb_165 => ?_) (fun hb_165 => ?_)
          · skip
            have hn_166 : ¬ wa = 18 := fun h => hb_165 ((nI_eq (a := wa) (b := 18) (by omega) (by omega)).mpr h)
            refine lv_lload hx hb d_MO_goesOn_164 (lv_at hl 6 rfl) ?_
            refine em_call (wr := [((f 25), .inl (cI, 41, .inl bss)), ((f 26), .inl (cI, 41, .inl wts)), ((f 27), .inl (cZ, 41, .inl snd)), ((f 28), .inl (cI, 41, .inl nbr))]) (em_runV (As := [.int (nI 1), .long (wof 2 2), .long y]) (rest := []) ⟨hx, hb, hml, hown, hG⟩ (mo_overwrite l D cI cL cZ cC f h0 tn rm ln lx at_ bd fs dp on os bn df th mb mo_ (ev - 1) ss so v rs pt ot cl one two spn trm Gc 1 (wof 2 2) y _ (by omega) (by omega) (by omega) hHG (okh_con 2 (by decide) (by decide)) hy1 hsp2 hnt) (cwV 3 hG (gd_V k_1592 k_1594 k_94 k_116 k_1595) rfl rfl rfl (by decide +kernel) ⟨Nat.le_of_ble_eq_true rfl, Nat.le_of_ble_eq_true rfl⟩) (tw_V (q0 := 0) hP hD hK hE hst hS rfl rfl [0, 1, 2, 7, 8] rfl (by decide)) rfl rfl hl.1 rfl (lv_room (Nat.le_of_ble_eq_true rfl)) d_MO_goesOn_166 ⟨Nat.le_of_ble_eq_true rfl, Nat.le_of_ble_eq_true rfl⟩) hP hD hS hA [0, 1, 2, 7, 8] [3, 4, 5, 6] rfl rfl (by decide) (by decide) (fun v u H locs hok hP hD hS => ?_) (fun x C u H locs hbad hxx hP hD hS => ?_)
            · skip
              obtain ⟨tp_167, lk_168, ss_169, one_170, two_171⟩ := u
              obtain ⟨rfl, hp_173⟩ := hok
              obtain ⟨hHG_174, htp_175, hlk_176, hss_177⟩ : (HG df Gc trm one_170 two_171) ∧ (tp_167 + 1 = mb + 1) ∧ (lk_168 = (wof 2 2)) ∧ (ss_169 = ss + 1) := hp_173
              have hP : va_P D classes [((f 25), .inl (cI, 41, .inl bss)), ((f 26), .inl (cI, 41, .inl wts)), ((f 27), .inl (cZ, 41, .inl snd)), ((f 28), .inl (cI, 41, .inl nbr)), (h0, .inr (8, mS f tn rm ln lx at_ bd fs dp on os bn df th tp_167 mo_ (ev - 1) ss_169 so lk_168 rs pt ot cl)), ((f 20), .inl (cL, 400, .inr (.inl one_170))), ((f 21), .inl (cL, 400, .inr (.inl two_171))), ((f 24), .inl (cI, 150, .inl spn)), ((f 18), .inl (cL, 9, .inr (.inl trm)))] H := hP
              have hD : va_D A [((f 25), .inl (cI, 41, .inl bss)), ((f 26), .inl (cI, 41, .inl wts)), ((f 27), .inl (cZ, 41, .inl snd)), ((f 28), .inl (cI, 41, .inl nbr)), (h0, .inr (8, mS f tn rm ln lx at_ bd fs dp on os bn df th tp_167 mo_ (ev - 1) ss_169 so lk_168 rs pt ot cl)), ((f 20), .inl (cL, 400, .inr (.inl one_170))), ((f 21), .inl (cL, 400, .inr (.inl two_171))), ((f 24), .inl (cI, 150, .inl spn)), ((f 18), .inl (cL, 9, .inr (.inl trm)))] := hD
              refine W.eq (g2 := F0 m 169 ls []) rfl ?_
              refine lv_goto (tgt := 290) hx hb d_MO_goesOn_169 (by decide) ?_
              exact em_vret hx hb hr hlocks hP hD hK hS (ev - 1, tp_167, lk_168, ss_169, so, one_170, two_171, bss, wts, snd, nbr) [4, 5, 6, 0, 1, 2, 3, 7, 8] (by decide) rfl ⟨rfl, ⟨hsnd, (show MI df Gc trm one_170 two_171 spn tp_167 lk_168 rs pt from ⟨hHG_174, (by rw [hlk_176]; exact (okh_con 2 (by decide) (by decide))), hrs, (by omega), (fun k hk => hsp k (by omega))⟩), (show (ev - 1) ≤ 40 from (by first | assumption | omega | exact Or.inl rfl)), (show me bss wts (ev - 1) tp_167 0 from (hsl.mono (by omega))), (show ((ss_169 = ss + 1 ∧ so = so) ∨ (ss_169 = ss ∧ ¬ so = 0) ∨ (ss_169 = ss ∧ so = so ∧ (ev - 1) = ev ∧ fz snd (ev - 1) + 1 = fz snd ev)) from (Or.inl ⟨hss_177, rfl⟩))⟩⟩ d_MO_goesOn_290
            · skip
              exact hbad.elim
          · skip
            have hn_179 : wa = 18 := (nI_eq (a := wa) (b := 18) (by omega) (by omega)).mp hb_165
            refine lv_lload hx hb d_MO_goesOn_159 (lv_at hl 5 rfl) ?_
            refine lv_goto (tgt := 166) hx hb d_MO_goesOn_161 (by decide) ?_
            refine em_call (wr := [((f 25), .inl (cI, 41, .inl bss)), ((f 26), .inl (cI, 41, .inl wts)), ((f 27), .inl (cZ, 41, .inl snd)), ((f 28), .inl (cI, 41, .inl nbr))]) (em_runV (As := [.int (nI 1), .long (wof 2 2), .long x]) (rest := []) ⟨hx, hb, hml, hown, hG⟩ (mo_overwrite l D cI cL cZ cC f h0 tn rm ln lx at_ bd fs dp on os bn df th mb mo_ (ev - 1) ss so v rs pt ot cl one two spn trm Gc 1 (wof 2 2) x _ (by omega) (by omega) (by omega) hHG (okh_con 2 (by decide) (by decide)) hx1 hsp2 hnt) (cwV 3 hG (gd_V k_1592 k_1594 k_94 k_116 k_1595) rfl rfl rfl (by decide +kernel) ⟨Nat.le_of_ble_eq_true rfl, Nat.le_of_ble_eq_true rfl⟩) (tw_V (q0 := 0) hP hD hK hE hst hS rfl rfl [0, 1, 2, 7, 8] rfl (by decide)) rfl rfl hl.1 rfl (lv_room (Nat.le_of_ble_eq_true rfl)) d_MO_goesOn_166 ⟨Nat.le_of_ble_eq_true rfl, Nat.le_of_ble_eq_true rfl⟩) hP hD hS hA [0, 1, 2, 7, 8] [3, 4, 5, 6] rfl rfl (by decide) (by decide) (fun v u H locs hok hP hD hS => ?_) (fun x C u H locs hbad hxx hP hD hS => ?_)
            · skip
              obtain ⟨tp_180, lk_181, ss_182, one_183, two_184⟩ := u
              obtain ⟨rfl, hp_186⟩ := hok
              obtain ⟨hHG_187, htp_188, hlk_189, hss_190⟩ : (HG df Gc trm one_183 two_184) ∧ (tp_180 + 1 = mb + 1) ∧ (lk_181 = (wof 2 2)) ∧ (ss_182 = ss + 1) := hp_186
              have hP : va_P D classes [((f 25), .inl (cI, 41, .inl bss)), ((f 26), .inl (cI, 41, .inl wts)), ((f 27), .inl (cZ, 41, .inl snd)), ((f 28), .inl (cI, 41, .inl nbr)), (h0, .inr (8, mS f tn rm ln lx at_ bd fs dp on os bn df th tp_180 mo_ (ev - 1) ss_182 so lk_181 rs pt ot cl)), ((f 20), .inl (cL, 400, .inr (.inl one_183))), ((f 21), .inl (cL, 400, .inr (.inl two_184))), ((f 24), .inl (cI, 150, .inl spn)), ((f 18), .inl (cL, 9, .inr (.inl trm)))] H := hP
              have hD : va_D A [((f 25), .inl (cI, 41, .inl bss)), ((f 26), .inl (cI, 41, .inl wts)), ((f 27), .inl (cZ, 41, .inl snd)), ((f 28), .inl (cI, 41, .inl nbr)), (h0, .inr (8, mS f tn rm ln lx at_ bd fs dp on os bn df th tp_180 mo_ (ev - 1) ss_182 so lk_181 rs pt ot cl)), ((f 20), .inl (cL, 400, .inr (.inl one_183))), ((f 21), .inl (cL, 400, .inr (.inl two_184))), ((f 24), .inl (cI, 150, .inl spn)), ((f 18), .inl (cL, 9, .inr (.inl trm)))] := hD
              refine W.eq (g2 := F0 m 169 ls []) rfl ?_
              refine lv_goto (tgt := 290) hx hb d_MO_goesOn_169 (by decide) ?_
              exact em_vret hx hb hr hlocks hP hD hK hS (ev - 1, tp_180, lk_181, ss_182, so, one_183, two_184, bss, wts, snd, nbr) [4, 5, 6, 0, 1, 2, 3, 7, 8] (by decide) rfl ⟨rfl, ⟨hsnd, (show MI df Gc trm one_183 two_184 spn tp_180 lk_181 rs pt from ⟨hHG_187, (by rw [hlk_189]; exact (okh_con 2 (by decide) (by decide))), hrs, (by omega), (fun k hk => hsp k (by omega))⟩), (show (ev - 1) ≤ 40 from (by first | assumption | omega | exact Or.inl rfl)), (show me bss wts (ev - 1) tp_180 0 from (hsl.mono (by omega))), (show ((ss_182 = ss + 1 ∧ so = so) ∨ (ss_182 = ss ∧ ¬ so = 0) ∨ (ss_182 = ss ∧ so = so ∧ (ev - 1) = ev ∧ fz snd (ev - 1) + 1 = fz snd ev)) from (Or.inl ⟨hss_190, rfl⟩))⟩⟩ d_MO_goesOn_290
            · skip
              exact hbad.elim
    · skip
      have hn_192 : wa = 10 := (nI_eq (a := wa) (b := 10) (by omega) (by omega)).mp hb_115
      refine lv_lload_n hx hb d_MO_goesOn_69 rfl (lv_at hl 3 rfl) ?_
      refine em_call (wr := [(h0, .inr (8, mS f tn rm ln lx at_ bd fs dp on os bn df th mb mo_ (ev - 1) ss so v rs pt ot cl)), ((f 20), .inl (cL, 400, .inr (.inl one))), ((f 21), .inl (cL, 400, .inr (.inl two))), ((f 25), .inl (cI, 41, .inl bss)), ((f 26), .inl (cI, 41, .inl wts)), ((f 27), .inl (cZ, 41, .inl snd)), ((f 28), .inl (cI, 41, .inl nbr)), ((f 24), .inl (cI, 150, .inl spn)), ((f 18), .inl (cL, 9, .inr (.inl trm)))]) (em_runS (As := [.long v]) (rest := []) ⟨hx, hb, hml, hown, hG⟩ (mo_truth l D cI cL cZ cC v _  hnt) (cwS 1 hG (gd_S k_1589 k_1590 k_116 k_1591) rfl rfl rfl (by decide +kernel) ⟨Nat.le_of_ble_eq_true rfl, Nat.le_of_ble_eq_true rfl⟩) (tw_S hP hD hK hE hst hS [] rfl (by decide)) rfl rfl hl.1 rfl (lv_room (Nat.le_of_ble_eq_true rfl)) d_MO_goesOn_70 ⟨Nat.le_of_ble_eq_true rfl, Nat.le_of_ble_eq_true rfl⟩) hP hD hS hA [] [0, 1, 2, 3, 4, 5, 6, 7, 8] rfl rfl (by decide) (by decide) (fun v u H locs hok hP hD hS => ?_) (fun x C u H locs hbad hxx hP hD hS => ?_)
      · skip
        obtain ⟨r_193, rfl, hp_194⟩ := hok
        have hP : va_P D classes [(h0, .inr (8, mS f tn rm ln lx at_ bd fs dp on os bn df th mb mo_ (ev - 1) ss so v rs pt ot cl)), ((f 20), .inl (cL, 400, .inr (.inl one))), ((f 21), .inl (cL, 400, .inr (.inl two))), ((f 25), .inl (cI, 41, .inl bss)), ((f 26), .inl (cI, 41, .inl wts)), ((f 27), .inl (cZ, 41, .inl snd)), ((f 28), .inl (cI, 41, .inl nbr)), ((f 24), .inl (cI, 150, .inl spn)), ((f 18), .inl (cL, 9, .inr (.inl trm)))] H := hP
        have hD : va_D A [(h0, .inr (8, mS f tn rm ln lx at_ bd fs dp on os bn df th mb mo_ (ev - 1) ss so v rs pt ot cl)), ((f 20), .inl (cL, 400, .inr (.inl one))), ((f 21), .inl (cL, 400, .inr (.inl two))), ((f 25), .inl (cI, 41, .inl bss)), ((f 26), .inl (cI, 41, .inl wts)), ((f 27), .inl (cZ, 41, .inl snd)), ((f 28), .inl (cI, 41, .inl nbr)), ((f 24), .inl (cI, 150, .inl spn)), ((f 18), .inl (cL, 9, .inr (.inl trm)))] := hD
        rcases hp_194 with rfl | rfl
        · skip
          refine W.eq (g2 := F0 m 73 ls [.int 0]) rfl ?_
          refine lv_if_eq (tgt := 81) hx hb d_MO_goesOn_73 (by decide) (fun hbr => ?_) (fun hbr => absurd (by decide) hbr)
          refine lv_aload_n hx hb d_MO_goesOn_81 rfl (lv_at hl 2 rfl) ?_
          refine lv_iconst (v := 2) hx hb d_MO_goesOn_82 (by decide) ?_
          refine va_put (D := D) (ci := 8) (v := .int 2) (ty := .int) (C := rn_MO) (T := fl_MO) (N := 55) hx hb hG in_MO tt_MO tk_MO nn_MO hown hK hP hD hS 0 rfl rfl 42 (by decide) (hG _ k_1233) (fun _ h9 => h9) rfl (by decide +kernel) rfl rfl (Nat.le_of_ble_eq_true rfl) d_MO_goesOn_83 (fun H locs hP hD hS => ?_)
          have hP : va_P D classes [(h0, .inr (8, mS f tn rm ln lx at_ bd fs dp on os bn df th mb mo_ (ev - 1) ss 2 v rs pt ot cl)), ((f 20), .inl (cL, 400, .inr (.inl one))), ((f 21), .inl (cL, 400, .inr (.inl two))), ((f 25), .inl (cI, 41, .inl bss)), ((f 26), .inl (cI, 41, .inl wts)), ((f 27), .inl (cZ, 41, .inl snd)), ((f 28), .inl (cI, 41, .inl nbr)), ((f 24), .inl (cI, 150, .inl spn)), ((f 18), .inl (cL, 9, .inr (.inl trm)))] H := hP
          have hD : va_D A [(h0, .inr (8, mS f tn rm ln lx at_ bd fs dp on os bn df th mb mo_ (ev - 1) ss 2 v rs pt ot cl)), ((f 20), .inl (cL, 400, .inr (.inl one))), ((f 21), .inl (cL, 400, .inr (.inl two))), ((f 25), .inl (cI, 41, .inl bss)), ((f 26), .inl (cI, 41, .inl wts)), ((f 27), .inl (cZ, 41, .inl snd)), ((f 28), .inl (cI, 41, .inl nbr)), ((f 24), .inl (cI, 150, .inl spn)), ((f 18), .inl (cL, 9, .inr (.inl trm)))] := hD
          refine lv_goto (tgt := 290) hx hb d_MO_goesOn_86 (by decide) ?_
          exact em_vret hx hb hr hlocks hP hD hK hS (ev - 1, mb, v, ss, 2, one, two, bss, wts, snd, nbr) [0, 1, 2, 3, 4, 5, 6, 7, 8] (by decide) rfl ⟨rfl, ⟨hsnd, (show MI df Gc trm one two spn mb v rs pt from ⟨hHG, hv, hrs, (by omega), (fun k hk => hsp k (by omega))⟩), (show (ev - 1) ≤ 40 from (by first | assumption | omega | exact Or.inl rfl)), (show me bss wts (ev - 1) mb 0 from (hsl.mono (by omega))), (show ((ss = ss + 1 ∧ 2 = so) ∨ (ss = ss ∧ ¬ 2 = 0) ∨ (ss = ss ∧ 2 = so ∧ (ev - 1) = ev ∧ fz snd (ev - 1) + 1 = fz snd ev)) from (Or.inr (Or.inl ⟨rfl, by decide⟩)))⟩⟩ d_MO_goesOn_290
        · skip
          refine W.eq (g2 := F0 m 73 ls [.int 1]) rfl ?_
          refine lv_if_eq (tgt := 81) hx hb d_MO_goesOn_73 (by decide) (fun hbr => absurd hbr (by decide)) (fun hbr => ?_)
          refine lv_iload hx hb d_MO_goesOn_76 (lv_at hl 7 rfl) ?_
          refine lv_if_eq (tgt := 89) hx hb d_MO_goesOn_78 (by decide) (fun hbr => ?_) (fun hbr => absurd (by decide) hbr)
          refine lv_aload_n hx hb d_MO_goesOn_89 rfl (lv_at hl 2 rfl) ?_
          refine lv_iconst (v := 3) hx hb d_MO_goesOn_90 (by decide) ?_
          refine lv_iconst (v := 2) hx hb d_MO_goesOn_91 (by decide) ?_
          refine W.callRL (W.runS (As := [.int 2]) (rest := [.int 3, .ref h0]) ⟨hx, hb, hml, hown, hG⟩ (mo_constant l D cI cL cZ cC 2 ) (cwS 1 hG (gd_S k_1461 k_1462 k_116 k_1463) rfl rfl rfl (by decide +kernel) ⟨Nat.le_of_ble_eq_true rfl, Nat.le_of_ble_eq_true rfl⟩) (wq_S hP hK [] rfl) rfl rfl hl.1 rfl (lv_room (Nat.le_of_ble_eq_true rfl)) d_MO_goesOn_92 ⟨Nat.le_of_ble_eq_true rfl, Nat.le_of_ble_eq_true rfl⟩) ?_
          refine W.eq (g2 := F0 m 95 ls [.long (wof 2 2), .int 3, .ref h0]) rfl ?_
          refine lv_aload_n hx hb d_MO_goesOn_95 rfl (lv_at hl 2 rfl) ?_
          refine lv_lload_n hx hb d_MO_goesOn_96 rfl (lv_at hl 3 rfl) ?_
          refine lv_bipush (v := 21) hx hb d_MO_goesOn_97 (by decide) ?_
          refine W.callRL (W.runS (As := [.int 21]) (rest := [.long v, .ref h0, .long (wof 2 2), .int 3, .ref h0]) ⟨hx, hb, hml, hown, hG⟩ (mo_constant l D cI cL cZ cC 21 ) (cwS 1 hG (gd_S k_1461 k_1462 k_116 k_1463) rfl rfl rfl (by decide +kernel) ⟨Nat.le_of_ble_eq_true rfl, Nat.le_of_ble_eq_true rfl⟩) (wq_S hP hK [] rfl) rfl rfl hl.1 rfl (lv_room (Nat.le_of_ble_eq_true rfl)) d_MO_goesOn_99 ⟨Nat.le_of_ble_eq_true rfl, Nat.le_of_ble_eq_true rfl⟩) ?_
          refine W.eq (g2 := F0 m 102 ls [.long (wof 2 21), .long v, .ref h0, .long (wof 2 2), .int 3, .ref h0]) rfl ?_
          refine W.lcmp hx hb d_MO_goesOn_102 ?_
          refine lv_if_ne (tgt := 110) hx hb d_MO_goesOn_103 (by decide) (fun hb_195 => ?_) (fun hb_195 => ?_)
          · skip
            have hq_196 : ¬ _ := fun h => hb_195 ((lg_cmp_eq _ _).mpr h)
            refine lv_iconst (v := 2) hx hb d_MO_goesOn_110 (by decide) ?_
            refine em_call (wr := [((f 25), .inl (cI, 41, .inl bss)), ((f 26), .inl (cI, 41, .inl wts)), ((f 27), .inl (cZ, 41, .inl snd)), ((f 28), .inl (cI, 41, .inl nbr))]) (em_runV (As := [.int (nI 2)]) (rest := [.long (wof 2 2), .int 3, .ref h0]) ⟨hx, hb, hml, hown, hG⟩ (mo_argument l D cI cL cZ cC f h0 tn rm ln lx at_ bd fs dp on os bn df th mb mo_ (ev - 1) ss so v rs pt ot cl two spn trm one Gc 2 _ (by omega) (by omega) hHG hsp2 hnt) (cwV 1 hG (gd_V k_1581 k_1583 k_92 k_116 k_1584) rfl rfl rfl (by decide +kernel) ⟨Nat.le_of_ble_eq_true rfl, Nat.le_of_ble_eq_true rfl⟩) (tw_V (q0 := 0) hP hD hK hE hst hS rfl rfl [0, 2, 7, 8, 1] rfl (by decide)) rfl rfl hl.1 rfl (lv_room (Nat.le_of_ble_eq_true rfl)) d_MO_goesOn_111 ⟨Nat.le_of_ble_eq_true rfl, Nat.le_of_ble_eq_true rfl⟩) hP hD hS hA [0, 2, 7, 8, 1] [3, 4, 5, 6] rfl rfl (by decide) (by decide) (fun v u H locs hok hP hD hS => ?_) (fun x C u H locs hbad hxx hP hD hS => ?_)
            · skip
              obtain ⟨r_197, rfl, hp_198⟩ := hok
              have hres_199 : (okh df Gc r_197) := hp_198
              have hP : va_P D classes [((f 25), .inl (cI, 41, .inl bss)), ((f 26), .inl (cI, 41, .inl wts)), ((f 27), .inl (cZ, 41, .inl snd)), ((f 28), .inl (cI, 41, .inl nbr)), (h0, .inr (8, mS f tn rm ln lx at_ bd fs dp on os bn df th mb mo_ (ev - 1) ss so v rs pt ot cl)), ((f 21), .inl (cL, 400, .inr (.inl two))), ((f 24), .inl (cI, 150, .inl spn)), ((f 18), .inl (cL, 9, .inr (.inl trm))), ((f 20), .inl (cL, 400, .inr (.inl one)))] H := hP
              have hD : va_D A [((f 25), .inl (cI, 41, .inl bss)), ((f 26), .inl (cI, 41, .inl wts)), ((f 27), .inl (cZ, 41, .inl snd)), ((f 28), .inl (cI, 41, .inl nbr)), (h0, .inr (8, mS f tn rm ln lx at_ bd fs dp on os bn df th mb mo_ (ev - 1) ss so v rs pt ot cl)), ((f 21), .inl (cL, 400, .inr (.inl two))), ((f 24), .inl (cI, 150, .inl spn)), ((f 18), .inl (cL, 9, .inr (.inl trm))), ((f 20), .inl (cL, 400, .inr (.inl one)))] := hD
              refine W.eq (g2 := F0 m 114 ls [.long r_197, .long (wof 2 2), .int 3, .ref h0]) rfl ?_
              refine em_call (wr := [((f 25), .inl (cI, 41, .inl bss)), ((f 26), .inl (cI, 41, .inl wts)), ((f 27), .inl (cZ, 41, .inl snd)), ((f 28), .inl (cI, 41, .inl nbr))]) (em_runV (As := [.int (nI 3), .long (wof 2 2), .long r_197]) (rest := []) ⟨hx, hb, hml, hown, hG⟩ (mo_overwrite l D cI cL cZ cC f h0 tn rm ln lx at_ bd fs dp on os bn df th mb mo_ (ev - 1) ss so v rs pt ot cl one two spn trm Gc 3 (wof 2 2) r_197 _ (by omega) (by omega) (by omega) hHG (okh_con 2 (by decide) (by decide)) hres_199 hsp2 hnt) (cwV 3 hG (gd_V k_1592 k_1594 k_94 k_116 k_1595) rfl rfl rfl (by decide +kernel) ⟨Nat.le_of_ble_eq_true rfl, Nat.le_of_ble_eq_true rfl⟩) (tw_V (q0 := 4) hP hD hK hE hst hS rfl rfl [4, 8, 5, 6, 7] rfl (by decide)) rfl rfl hl.1 rfl (lv_room (Nat.le_of_ble_eq_true rfl)) d_MO_goesOn_114 ⟨Nat.le_of_ble_eq_true rfl, Nat.le_of_ble_eq_true rfl⟩) hP hD hS hA [4, 8, 5, 6, 7] [0, 1, 2, 3] rfl rfl (by decide) (by decide) (fun v u H locs hok hP hD hS => ?_) (fun x C u H locs hbad hxx hP hD hS => ?_)
              · skip
                obtain ⟨tp_200, lk_201, ss_202, one_203, two_204⟩ := u
                obtain ⟨rfl, hp_206⟩ := hok
                obtain ⟨hHG_207, htp_208, hlk_209, hss_210⟩ : (HG df Gc trm one_203 two_204) ∧ (tp_200 + 3 = mb + 1) ∧ (lk_201 = (wof 2 2)) ∧ (ss_202 = ss + 1) := hp_206
                have hP : va_P D classes [((f 25), .inl (cI, 41, .inl bss)), ((f 26), .inl (cI, 41, .inl wts)), ((f 27), .inl (cZ, 41, .inl snd)), ((f 28), .inl (cI, 41, .inl nbr)), (h0, .inr (8, mS f tn rm ln lx at_ bd fs dp on os bn df th tp_200 mo_ (ev - 1) ss_202 so lk_201 rs pt ot cl)), ((f 20), .inl (cL, 400, .inr (.inl one_203))), ((f 21), .inl (cL, 400, .inr (.inl two_204))), ((f 24), .inl (cI, 150, .inl spn)), ((f 18), .inl (cL, 9, .inr (.inl trm)))] H := hP
                have hD : va_D A [((f 25), .inl (cI, 41, .inl bss)), ((f 26), .inl (cI, 41, .inl wts)), ((f 27), .inl (cZ, 41, .inl snd)), ((f 28), .inl (cI, 41, .inl nbr)), (h0, .inr (8, mS f tn rm ln lx at_ bd fs dp on os bn df th tp_200 mo_ (ev - 1) ss_202 so lk_201 rs pt ot cl)), ((f 20), .inl (cL, 400, .inr (.inl one_203))), ((f 21), .inl (cL, 400, .inr (.inl two_204))), ((f 24), .inl (cI, 150, .inl spn)), ((f 18), .inl (cL, 9, .inr (.inl trm)))] := hD
                refine W.eq (g2 := F0 m 117 ls []) rfl ?_
                refine lv_goto (tgt := 290) hx hb d_MO_goesOn_117 (by decide) ?_
                exact em_vret hx hb hr hlocks hP hD hK hS (ev - 1, tp_200, lk_201, ss_202, so, one_203, two_204, bss, wts, snd, nbr) [4, 5, 6, 0, 1, 2, 3, 7, 8] (by decide) rfl ⟨rfl, ⟨hsnd, (show MI df Gc trm one_203 two_204 spn tp_200 lk_201 rs pt from ⟨hHG_207, (by rw [hlk_209]; exact (okh_con 2 (by decide) (by decide))), hrs, (by omega), (fun k hk => hsp k (by omega))⟩), (show (ev - 1) ≤ 40 from (by first | assumption | omega | exact Or.inl rfl)), (show me bss wts (ev - 1) tp_200 0 from (hsl.mono (by omega))), (show ((ss_202 = ss + 1 ∧ so = so) ∨ (ss_202 = ss ∧ ¬ so = 0) ∨ (ss_202 = ss ∧ so = so ∧ (ev - 1) = ev ∧ fz snd (ev - 1) + 1 = fz snd ev)) from (Or.inl ⟨hss_210, rfl⟩))⟩⟩ d_MO_goesOn_290
              · skip
                exact hbad.elim
            · skip
              exact hbad.elim
          · skip
            have hq_212 := (lg_cmp_eq _ _).mp hb_195
            refine lv_iconst (v := 1) hx hb d_MO_goesOn_106 (by decide) ?_
            refine lv_goto (tgt := 111) hx hb d_MO_goesOn_107 (by decide) ?_
            refine em_call (wr := [((f 25), .inl (cI, 41, .inl bss)), ((f 26), .inl (cI, 41, .inl wts)), ((f 27), .inl (cZ, 41, .inl snd)), ((f 28), .inl (cI, 41, .inl nbr))]) (em_runV (As := [.int (nI 1)]) (rest := [.long (wof 2 2), .int 3, .ref h0]) ⟨hx, hb, hml, hown, hG⟩ (mo_argument l D cI cL cZ cC f h0 tn rm ln lx at_ bd fs dp on os bn df th mb mo_ (ev - 1) ss so v rs pt ot cl two spn trm one Gc 1 _ (by omega) (by omega) hHG hsp2 hnt) (cwV 1 hG (gd_V k_1581 k_1583 k_92 k_116 k_1584) rfl rfl rfl (by decide +kernel) ⟨Nat.le_of_ble_eq_true rfl, Nat.le_of_ble_eq_true rfl⟩) (tw_V (q0 := 0) hP hD hK hE hst hS rfl rfl [0, 2, 7, 8, 1] rfl (by decide)) rfl rfl hl.1 rfl (lv_room (Nat.le_of_ble_eq_true rfl)) d_MO_goesOn_111 ⟨Nat.le_of_ble_eq_true rfl, Nat.le_of_ble_eq_true rfl⟩) hP hD hS hA [0, 2, 7, 8, 1] [3, 4, 5, 6] rfl rfl (by decide) (by decide) (fun v u H locs hok hP hD hS => ?_) (fun x C u H locs hbad hxx hP hD hS => ?_)
            · skip
              obtain ⟨r_213, rfl, hp_214⟩ := hok
              have hres_215 : (okh df Gc r_213) := hp_214
              have hP : va_P D classes [((f 25), .inl (cI, 41, .inl bss)), ((f 26), .inl (cI, 41, .inl wts)), ((f 27), .inl (cZ, 41, .inl snd)), ((f 28), .inl (cI, 41, .inl nbr)), (h0, .inr (8, mS f tn rm ln lx at_ bd fs dp on os bn df th mb mo_ (ev - 1) ss so v rs pt ot cl)), ((f 21), .inl (cL, 400, .inr (.inl two))), ((f 24), .inl (cI, 150, .inl spn)), ((f 18), .inl (cL, 9, .inr (.inl trm))), ((f 20), .inl (cL, 400, .inr (.inl one)))] H := hP
              have hD : va_D A [((f 25), .inl (cI, 41, .inl bss)), ((f 26), .inl (cI, 41, .inl wts)), ((f 27), .inl (cZ, 41, .inl snd)), ((f 28), .inl (cI, 41, .inl nbr)), (h0, .inr (8, mS f tn rm ln lx at_ bd fs dp on os bn df th mb mo_ (ev - 1) ss so v rs pt ot cl)), ((f 21), .inl (cL, 400, .inr (.inl two))), ((f 24), .inl (cI, 150, .inl spn)), ((f 18), .inl (cL, 9, .inr (.inl trm))), ((f 20), .inl (cL, 400, .inr (.inl one)))] := hD
              refine W.eq (g2 := F0 m 114 ls [.long r_213, .long (wof 2 2), .int 3, .ref h0]) rfl ?_
              refine em_call (wr := [((f 25), .inl (cI, 41, .inl bss)), ((f 26), .inl (cI, 41, .inl wts)), ((f 27), .inl (cZ, 41, .inl snd)), ((f 28), .inl (cI, 41, .inl nbr))]) (em_runV (As := [.int (nI 3), .long (wof 2 2), .long r_213]) (rest := []) ⟨hx, hb, hml, hown, hG⟩ (mo_overwrite l D cI cL cZ cC f h0 tn rm ln lx at_ bd fs dp on os bn df th mb mo_ (ev - 1) ss so v rs pt ot cl one two spn trm Gc 3 (wof 2 2) r_213 _ (by omega) (by omega) (by omega) hHG (okh_con 2 (by decide) (by decide)) hres_215 hsp2 hnt) (cwV 3 hG (gd_V k_1592 k_1594 k_94 k_116 k_1595) rfl rfl rfl (by decide +kernel) ⟨Nat.le_of_ble_eq_true rfl, Nat.le_of_ble_eq_true rfl⟩) (tw_V (q0 := 4) hP hD hK hE hst hS rfl rfl [4, 8, 5, 6, 7] rfl (by decide)) rfl rfl hl.1 rfl (lv_room (Nat.le_of_ble_eq_true rfl)) d_MO_goesOn_114 ⟨Nat.le_of_ble_eq_true rfl, Nat.le_of_ble_eq_true rfl⟩) hP hD hS hA [4, 8, 5, 6, 7] [0, 1, 2, 3] rfl rfl (by decide) (by decide) (fun v u H locs hok hP hD hS => ?_) (fun x C u H locs hbad hxx hP hD hS => ?_)
              · skip
                obtain ⟨tp_216, lk_217, ss_218, one_219, two_220⟩ := u
                obtain ⟨rfl, hp_222⟩ := hok
                obtain ⟨hHG_223, htp_224, hlk_225, hss_226⟩ : (HG df Gc trm one_219 two_220) ∧ (tp_216 + 3 = mb + 1) ∧ (lk_217 = (wof 2 2)) ∧ (ss_218 = ss + 1) := hp_222
                have hP : va_P D classes [((f 25), .inl (cI, 41, .inl bss)), ((f 26), .inl (cI, 41, .inl wts)), ((f 27), .inl (cZ, 41, .inl snd)), ((f 28), .inl (cI, 41, .inl nbr)), (h0, .inr (8, mS f tn rm ln lx at_ bd fs dp on os bn df th tp_216 mo_ (ev - 1) ss_218 so lk_217 rs pt ot cl)), ((f 20), .inl (cL, 400, .inr (.inl one_219))), ((f 21), .inl (cL, 400, .inr (.inl two_220))), ((f 24), .inl (cI, 150, .inl spn)), ((f 18), .inl (cL, 9, .inr (.inl trm)))] H := hP
                have hD : va_D A [((f 25), .inl (cI, 41, .inl bss)), ((f 26), .inl (cI, 41, .inl wts)), ((f 27), .inl (cZ, 41, .inl snd)), ((f 28), .inl (cI, 41, .inl nbr)), (h0, .inr (8, mS f tn rm ln lx at_ bd fs dp on os bn df th tp_216 mo_ (ev - 1) ss_218 so lk_217 rs pt ot cl)), ((f 20), .inl (cL, 400, .inr (.inl one_219))), ((f 21), .inl (cL, 400, .inr (.inl two_220))), ((f 24), .inl (cI, 150, .inl spn)), ((f 18), .inl (cL, 9, .inr (.inl trm)))] := hD
                refine W.eq (g2 := F0 m 117 ls []) rfl ?_
                refine lv_goto (tgt := 290) hx hb d_MO_goesOn_117 (by decide) ?_
                exact em_vret hx hb hr hlocks hP hD hK hS (ev - 1, tp_216, lk_217, ss_218, so, one_219, two_220, bss, wts, snd, nbr) [4, 5, 6, 0, 1, 2, 3, 7, 8] (by decide) rfl ⟨rfl, ⟨hsnd, (show MI df Gc trm one_219 two_220 spn tp_216 lk_217 rs pt from ⟨hHG_223, (by rw [hlk_225]; exact (okh_con 2 (by decide) (by decide))), hrs, (by omega), (fun k hk => hsp k (by omega))⟩), (show (ev - 1) ≤ 40 from (by first | assumption | omega | exact Or.inl rfl)), (show me bss wts (ev - 1) tp_216 0 from (hsl.mono (by omega))), (show ((ss_218 = ss + 1 ∧ so = so) ∨ (ss_218 = ss ∧ ¬ so = 0) ∨ (ss_218 = ss ∧ so = so ∧ (ev - 1) = ev ∧ fz snd (ev - 1) + 1 = fz snd ev)) from (Or.inl ⟨hss_226, rfl⟩))⟩⟩ d_MO_goesOn_290
              · skip
                exact hbad.elim
            · skip
              exact hbad.elim
      · skip
        exact hbad.elim
set_option maxHeartbeats 8000000 in
set_option maxRecDepth 100000 in
theorem mo_goes01 (l : Launch) (D : va_G) (cI cL cZ cC : ClassId) (f : Nat → Nat) (h0 : Nat) (tn : Int32) (rm : Nat) (ln : Nat) (lx : Nat) (at_ : Nat) (bd : Int32) (fs : Nat) (dp : Nat) (on : Nat) (os : Nat) (bn : Nat) (df : Nat) (th : Int32) (tp : Nat) (mo_ : Int32) (ev : Nat) (ss : Int32) (so : Int32) (lk : Int64) (rs : Int64) (pt : Int32) (ot : Nat) (cl : Int32) (one : Nat → Int64) (two : Nat → Int64) (bss : Nat → Int32) (wts : Nat → Int32) (snd : Nat → Int32) (nbr : Nat → Int32) (spn : Nat → Int32) (trm : Nat → Int64) (Gc : Nat → Prop) (mb : Nat) (v : Int64) (x : Int64) (y : Int64) (sz : Nat) (hsnd : bln snd) (hMI : MI df Gc trm one two spn tp lk rs pt) (hv : okh df Gc v) (hev1 : 1 ≤ ev) (hev2 : ev ≤ 40) (hm1 : mb ≤ tp) (hm3 : bss (ev - 1) = nI mb) (hm4 : me bss wts ev mb 0) (hnt : l.stackTraces = false) : em_Met l y_MO_goesOn (wz y_MO_goesOn b_MO_goesOn 11 none) ({ frames := 3, cells := 0, slots := 0, locals := 62 }) (va_Pc [.ref h0, .long v, .int 0, .long x, .long y, .int 1] (tw_pre D (tys4 cI cL cZ cC) [(h0, .inr (8, mS f tn rm ln lx at_ bd fs dp on os bn df th tp mo_ ev ss so lk rs pt ot cl)), ((f 20), .inl (cL, 400, .inr (.inl one))), ((f 21), .inl (cL, 400, .inr (.inl two))), ((f 25), .inl (cI, 41, .inl bss)), ((f 26), .inl (cI, 41, .inl wts)), ((f 27), .inl (cZ, 41, .inl snd)), ((f 28), .inl (cI, 41, .inl nbr)), ((f 24), .inl (cI, 150, .inl spn)), ((f 18), .inl (cL, 9, .inr (.inl trm)))] sz)) D (tys4 cI cL cZ cC) (va_A [(h0, .inr (8, mS f tn rm ln lx at_ bd fs dp on os bn df th tp mo_ ev ss so lk rs pt ot cl)), ((f 20), .inl (cL, 400, .inr (.inl one))), ((f 21), .inl (cL, 400, .inr (.inl two))), ((f 25), .inl (cI, 41, .inl bss)), ((f 26), .inl (cI, 41, .inl wts)), ((f 27), .inl (cZ, 41, .inl snd)), ((f 28), .inl (cI, 41, .inl nbr)), ((f 24), .inl (cI, 150, .inl spn)), ((f 18), .inl (cL, 9, .inr (.inl trm)))] sz) (fun (u : Nat × Nat × Int64 × Int32 × Int32 × (Nat → Int64) × (Nat → Int64) × (Nat → Int32) × (Nat → Int32) × (Nat → Int32) × (Nat → Int32)) => [(h0, .inr (8, mS f tn rm ln lx at_ bd fs dp on os bn df th u.2.1 mo_ u.1 u.2.2.2.1 u.2.2.2.2.1 u.2.2.1 rs pt ot cl)), ((f 20), .inl (cL, 400, .inr (.inl u.2.2.2.2.2.1))), ((f 21), .inl (cL, 400, .inr (.inl u.2.2.2.2.2.2.1))), ((f 25), .inl (cI, 41, .inl u.2.2.2.2.2.2.2.1)), ((f 26), .inl (cI, 41, .inl u.2.2.2.2.2.2.2.2.1)), ((f 27), .inl (cZ, 41, .inl u.2.2.2.2.2.2.2.2.2.1)), ((f 28), .inl (cI, 41, .inl u.2.2.2.2.2.2.2.2.2.2)), ((f 24), .inl (cI, 150, .inl spn)), ((f 18), .inl (cL, 9, .inr (.inl trm)))]) (fun v (u : Nat × Nat × Int64 × Int32 × Int32 × (Nat → Int64) × (Nat → Int64) × (Nat → Int32) × (Nat → Int32) × (Nat → Int32) × (Nat → Int32)) => v = none ∧ ((bln u.2.2.2.2.2.2.2.2.2.1) ∧ (MI df Gc trm u.2.2.2.2.2.1 u.2.2.2.2.2.2.1 spn u.2.1 u.2.2.1 rs pt) ∧ (u.1 ≤ 40) ∧ (me u.2.2.2.2.2.2.2.1 u.2.2.2.2.2.2.2.2.1 u.1 u.2.1 0) ∧ (((u.2.2.2.1 = ss + 1 ∧ u.2.2.2.2.1 = so) ∨ (u.2.2.2.1 = ss ∧ ¬ u.2.2.2.2.1 = 0) ∨ (u.2.2.2.1 = ss ∧ u.2.2.2.2.1 = so ∧ u.1 = ev ∧ fz u.2.2.2.2.2.2.2.2.2.1 u.1 + 1 = fz snd ev))))) (fun C (u : Nat × Nat × Int64 × Int32 × Int32 × (Nat → Int64) × (Nat → Int64) × (Nat → Int32) × (Nat → Int32) × (Nat → Int32) × (Nat → Int32)) => False) 0 0 := by
  refine em_Met.ofW (cc := b_MO_goesOn) (maxL := 11) (ret := none) (by decide) rfl ?_
  intro p e s m args below meth c s₁ B hml hv hno
  obtain ⟨rfl, ⟨hsz, hP, hK, hD0⟩, hE⟩ := hv
  have hx := B.exec
  have hb := B.bytes
  have hr := B.returns
  have hts := atoms_spec (ws := wz y_MO_goesOn b_MO_goesOn 11 none) B.pre
  have hG := wz_G hts
  have hown : s.vm.findClass rn_MO = some m.cls := findClass_of_methodNamed B.named
  have hlocks := B.notSynchronized
  subst hsz
  have hD := hD0.self (sz := s.heap.size)
  have hst := tw_st hP
  generalize hAe : va_A [(h0, .inr (8, mS f tn rm ln lx at_ bd fs dp on os bn df th tp mo_ ev ss so lk rs pt ot cl)), ((f 20), .inl (cL, 400, .inr (.inl one))), ((f 21), .inl (cL, 400, .inr (.inl two))), ((f 25), .inl (cI, 41, .inl bss)), ((f 26), .inl (cI, 41, .inl wts)), ((f 27), .inl (cZ, 41, .inl snd)), ((f 28), .inl (cI, 41, .inl nbr)), ((f 24), .inl (cI, 150, .inl spn)), ((f 18), .inl (cL, 9, .inr (.inl trm)))] s.heap.size = A at hD hst ⊢
  have hA : ∀ q : Nat, s.heap.size ≤ q → A q := fun q h => by rw [← hAe]; exact Or.inr h
  have hS : va_S A s.heap s.heap [] := va_S.rf
  have hl := lv_entry ([.ref h0, .long v, .int 0, .long x, .long y, .int 1]) (n := 11) (Nat.le_of_ble_eq_true rfl)
  rw [lg_entry_eq]
  generalize (lg_sl ([.ref h0, .long v, .int 0, .long x, .long y, .int 1]) ++ List.replicate (11 - (lg_sl ([.ref h0, .long v, .int 0, .long x, .long y, .int 1])).length) Slot.unset).toArray = ls at hl ⊢
  have hl : lv_has ls 11 [(0, .ref h0), (1, .long v), (3, .int 0), (4, .long x), (6, .long y), (8, .int 1)] := hl
  obtain ⟨hHG, hlk, hrs, htp, hsp⟩ := id hMI
  obtain ⟨wa, ewa, hw1, hw2, hw3, hw4, hsl⟩ := hm4.pop hm3 (by omega) hev1
  have hnd := nd_or wa
  have hle := hsl.le
  have hsp2 : ∀ k, k < mb → ∃ c : Nat, Gc c ∧ spn k = nI c := fun k hk => hsp k (by omega)
  refine lv_aload_n hx hb d_MO_goesOn_0 rfl (lv_at hl 0 rfl) ?_
  refine lv_dup hx hb d_MO_goesOn_1 rfl ?_
  refine va_get (D := D) (ci := 8) (v := .int (nI ev)) (C := rn_MO) (T := fl_MO) (N := 55) hx hb hG in_MO hown hK hP 0 rfl rfl 40 (by decide) (hG _ k_1231) (fun _ h9 => h9) rfl d_MO_goesOn_2 ?_
  refine lv_iconst (v := 1) hx hb d_MO_goesOn_5 (by decide) ?_
  refine lw_isub (a := ev) (b := 1) hx hb d_MO_goesOn_6 (by omega) ?_
  refine va_put (D := D) (ci := 8) (v := .int (nI (ev - 1))) (ty := .int) (C := rn_MO) (T := fl_MO) (N := 55) hx hb hG in_MO tt_MO tk_MO nn_MO hown hK hP hD hS 0 rfl rfl 40 (by decide) (hG _ k_1231) (fun _ h9 => h9) rfl (by decide +kernel) rfl rfl (Nat.le_of_ble_eq_true rfl) d_MO_goesOn_7 (fun H locs hP hD hS => ?_)
  have hP : va_P D classes [(h0, .inr (8, mS f tn rm ln lx at_ bd fs dp on os bn df th tp mo_ (ev - 1) ss so lk rs pt ot cl)), ((f 20), .inl (cL, 400, .inr (.inl one))), ((f 21), .inl (cL, 400, .inr (.inl two))), ((f 25), .inl (cI, 41, .inl bss)), ((f 26), .inl (cI, 41, .inl wts)), ((f 27), .inl (cZ, 41, .inl snd)), ((f 28), .inl (cI, 41, .inl nbr)), ((f 24), .inl (cI, 150, .inl spn)), ((f 18), .inl (cL, 9, .inr (.inl trm)))] H := hP
  have hD : va_D A [(h0, .inr (8, mS f tn rm ln lx at_ bd fs dp on os bn df th tp mo_ (ev - 1) ss so lk rs pt ot cl)), ((f 20), .inl (cL, 400, .inr (.inl one))), ((f 21), .inl (cL, 400, .inr (.inl two))), ((f 25), .inl (cI, 41, .inl bss)), ((f 26), .inl (cI, 41, .inl wts)), ((f 27), .inl (cZ, 41, .inl snd)), ((f 28), .inl (cI, 41, .inl nbr)), ((f 24), .inl (cI, 150, .inl spn)), ((f 18), .inl (cL, 9, .inr (.inl trm)))] := hD
  refine lv_aload_n hx hb d_MO_goesOn_10 rfl (lv_at hl 0 rfl) ?_
  refine lv_aload_n hx hb d_MO_goesOn_11 rfl (lv_at hl 0 rfl) ?_
  refine va_get (D := D) (ci := 8) (v := .ref (f 25)) (C := rn_MO) (T := fl_MO) (N := 55) hx hb hG in_MO hown hK hP 0 rfl rfl 43 (by decide) (hG _ k_1234) (fun _ h9 => h9) rfl d_MO_goesOn_12 ?_
  refine lv_aload_n hx hb d_MO_goesOn_15 rfl (lv_at hl 0 rfl) ?_
  refine va_get (D := D) (ci := 8) (v := .int (nI (ev - 1))) (C := rn_MO) (T := fl_MO) (N := 55) hx hb hG in_MO hown hK hP 0 rfl rfl 40 (by decide) (hG _ k_1231) (fun _ h9 => h9) rfl d_MO_goesOn_16 ?_
  refine va_iald hx hb hK hP 3 0 rfl rfl (vp_in_nI (n := ev - 1) (N := 41) (by omega) (by omega)) d_MO_goesOn_19 ?_
  refine W.eq (g2 := F0 m 20 ls [.int (nI mb), .ref h0]) (by rw [nI_clamp (n := ev - 1) (by omega)]; rw [hm3]) ?_
  refine va_put (D := D) (ci := 8) (v := .int (nI mb)) (ty := .int) (C := rn_MO) (T := fl_MO) (N := 55) hx hb hG in_MO tt_MO tk_MO nn_MO hown hK hP hD hS 0 rfl rfl 38 (by decide) (hG _ k_1229) (fun _ h9 => h9) rfl (by decide +kernel) rfl rfl (Nat.le_of_ble_eq_true rfl) d_MO_goesOn_20 (fun H locs hP hD hS => ?_)
  have hP : va_P D classes [(h0, .inr (8, mS f tn rm ln lx at_ bd fs dp on os bn df th mb mo_ (ev - 1) ss so lk rs pt ot cl)), ((f 20), .inl (cL, 400, .inr (.inl one))), ((f 21), .inl (cL, 400, .inr (.inl two))), ((f 25), .inl (cI, 41, .inl bss)), ((f 26), .inl (cI, 41, .inl wts)), ((f 27), .inl (cZ, 41, .inl snd)), ((f 28), .inl (cI, 41, .inl nbr)), ((f 24), .inl (cI, 150, .inl spn)), ((f 18), .inl (cL, 9, .inr (.inl trm)))] H := hP
  have hD : va_D A [(h0, .inr (8, mS f tn rm ln lx at_ bd fs dp on os bn df th mb mo_ (ev - 1) ss so lk rs pt ot cl)), ((f 20), .inl (cL, 400, .inr (.inl one))), ((f 21), .inl (cL, 400, .inr (.inl two))), ((f 25), .inl (cI, 41, .inl bss)), ((f 26), .inl (cI, 41, .inl wts)), ((f 27), .inl (cZ, 41, .inl snd)), ((f 28), .inl (cI, 41, .inl nbr)), ((f 24), .inl (cI, 150, .inl spn)), ((f 18), .inl (cL, 9, .inr (.inl trm)))] := hD
  refine lv_aload_n hx hb d_MO_goesOn_23 rfl (lv_at hl 0 rfl) ?_
  refine va_get (D := D) (ci := 8) (v := .ref (f 26)) (C := rn_MO) (T := fl_MO) (N := 55) hx hb hG in_MO hown hK hP 0 rfl rfl 44 (by decide) (hG _ k_1235) (fun _ h9 => h9) rfl d_MO_goesOn_24 ?_
  refine lv_aload_n hx hb d_MO_goesOn_27 rfl (lv_at hl 0 rfl) ?_
  refine va_get (D := D) (ci := 8) (v := .int (nI (ev - 1))) (C := rn_MO) (T := fl_MO) (N := 55) hx hb hG in_MO hown hK hP 0 rfl rfl 40 (by decide) (hG _ k_1231) (fun _ h9 => h9) rfl d_MO_goesOn_28 ?_
  refine va_iald hx hb hK hP 4 0 rfl rfl (vp_in_nI (n := ev - 1) (N := 41) (by omega) (by omega)) d_MO_goesOn_31 ?_
  refine W.eq (g2 := F0 m 32 ls [.int (nI wa)]) (by rw [nI_clamp (n := ev - 1) (by omega)]; rw [ewa]) ?_
  refine lv_istore (lv' := [(9, .int (nI wa)), (0, .ref h0), (1, .long v), (3, .int 0), (4, .long x), (6, .long y), (8, .int 1)]) hx hb d_MO_goesOn_32 hl (Nat.le_of_ble_eq_true rfl) rfl (fun ls hl => ?_)
  refine lv_aload_n hx hb d_MO_goesOn_34 rfl (lv_at hl 1 rfl) ?_
  refine lv_lload_n hx hb d_MO_goesOn_35 rfl (lv_at hl 2 rfl) ?_
  refine va_put (D := D) (ci := 8) (v := .long v) (ty := .long) (C := rn_MO) (T := fl_MO) (N := 55) hx hb hG in_MO tt_MO tk_MO nn_MO hown hK hP hD hS 0 rfl rfl 47 (by decide) (hG _ k_1238) (fun _ h9 => h9) rfl (by decide +kernel) rfl rfl (Nat.le_of_ble_eq_true rfl) d_MO_goesOn_36 (fun H locs hP hD hS => ?_)
  have hP : va_P D classes [(h0, .inr (8, mS f tn rm ln lx at_ bd fs dp on os bn df th mb mo_ (ev - 1) ss so v rs pt ot cl)), ((f 20), .inl (cL, 400, .inr (.inl one))), ((f 21), .inl (cL, 400, .inr (.inl two))), ((f 25), .inl (cI, 41, .inl bss)), ((f 26), .inl (cI, 41, .inl wts)), ((f 27), .inl (cZ, 41, .inl snd)), ((f 28), .inl (cI, 41, .inl nbr)), ((f 24), .inl (cI, 150, .inl spn)), ((f 18), .inl (cL, 9, .inr (.inl trm)))] H := hP
  have hD : va_D A [(h0, .inr (8, mS f tn rm ln lx at_ bd fs dp on os bn df th mb mo_ (ev - 1) ss so v rs pt ot cl)), ((f 20), .inl (cL, 400, .inr (.inl one))), ((f 21), .inl (cL, 400, .inr (.inl two))), ((f 25), .inl (cI, 41, .inl bss)), ((f 26), .inl (cI, 41, .inl wts)), ((f 27), .inl (cZ, 41, .inl snd)), ((f 28), .inl (cI, 41, .inl nbr)), ((f 24), .inl (cI, 150, .inl spn)), ((f 18), .inl (cL, 9, .inr (.inl trm)))] := hD
  refine lv_lload_n hx hb d_MO_goesOn_39 rfl (lv_at hl 2 rfl) ?_
  refine W.callR (W.runS (As := [.long v]) (rest := []) ⟨hx, hb, hml, hown, hG⟩ (mo_kindOf l D cI cL cZ cC v ) (cwS 1 hG (gd_S k_1519 k_1520 k_116 k_1521) rfl rfl rfl (by decide +kernel) ⟨Nat.le_of_ble_eq_true rfl, Nat.le_of_ble_eq_true rfl⟩) (wq_S hP hK [] rfl) rfl rfl hl.1 rfl (lv_room (Nat.le_of_ble_eq_true rfl)) d_MO_goesOn_40 ⟨Nat.le_of_ble_eq_true rfl, Nat.le_of_ble_eq_true rfl⟩) ?_
  refine W.eq (g2 := F0 m 43 ls [.int (wkind v)]) rfl ?_
  refine lv_if_ne (tgt := 59) hx hb d_MO_goesOn_43 (by decide) (fun hb_1 => ?_) (fun hb_1 => ?_)
  · skip
    refine lv_iconst (v := 0) hx hb d_MO_goesOn_59 (by decide) ?_
    refine lv_istore (lv' := [(10, .int 0), (9, .int (nI wa)), (0, .ref h0), (1, .long v), (3, .int 0), (4, .long x), (6, .long y), (8, .int 1)]) hx hb d_MO_goesOn_60 hl (Nat.le_of_ble_eq_true rfl) rfl (fun ls hl => ?_)
    refine lv_iload hx hb d_MO_goesOn_62 (lv_at hl 1 rfl) ?_
    refine lv_bipush (v := 10) hx hb d_MO_goesOn_64 (by decide) ?_
    refine lv_icmp_ne (tgt := 120) hx hb d_MO_goesOn_66 (by decide) (fun hb_2 => ?_) (fun hb_2 => ?_)
    · skip
      have hn_3 : ¬ wa = 10 := fun h => hb_2 ((nI_eq (a := wa) (b := 10) (by omega) (by omega)).mpr h)
      refine lv_iload hx hb d_MO_goesOn_120 (lv_at hl 1 rfl) ?_
      refine lv_bipush (v := 18) hx hb d_MO_goesOn_122 (by decide) ?_
      refine lv_icmp_eq (tgt := 134) hx hb d_MO_goesOn_124 (by decide) (fun hb_4 => ?_) (fun hb_4 => ?_)
      · skip
        have hn_5 : wa = 18 := (nI_eq (a := wa) (b := 18) (by omega) (by omega)).mp hb_4
        refine lv_iload_n hx hb d_MO_goesOn_134 rfl (lv_at hl 4 rfl) ?_
        refine lv_if_ne (tgt := 146) hx hb d_MO_goesOn_135 (by decide) (fun hbr => absurd (by decide) hbr) (fun hbr => ?_)
        refine lv_aload_n hx hb d_MO_goesOn_138 rfl (lv_at hl 2 rfl) ?_
        refine lv_iconst (v := 2) hx hb d_MO_goesOn_139 (by decide) ?_
        refine va_put (D := D) (ci := 8) (v := .int 2) (ty := .int) (C := rn_MO) (T := fl_MO) (N := 55) hx hb hG in_MO tt_MO tk_MO nn_MO hown hK hP hD hS 0 rfl rfl 42 (by decide) (hG _ k_1233) (fun _ h9 => h9) rfl (by decide +kernel) rfl rfl (Nat.le_of_ble_eq_true rfl) d_MO_goesOn_140 (fun H locs hP hD hS => ?_)
        have hP : va_P D classes [(h0, .inr (8, mS f tn rm ln lx at_ bd fs dp on os bn df th mb mo_ (ev - 1) ss 2 v rs pt ot cl)), ((f 20), .inl (cL, 400, .inr (.inl one))), ((f 21), .inl (cL, 400, .inr (.inl two))), ((f 25), .inl (cI, 41, .inl bss)), ((f 26), .inl (cI, 41, .inl wts)), ((f 27), .inl (cZ, 41, .inl snd)), ((f 28), .inl (cI, 41, .inl nbr)), ((f 24), .inl (cI, 150, .inl spn)), ((f 18), .inl (cL, 9, .inr (.inl trm)))] H := hP
        have hD : va_D A [(h0, .inr (8, mS f tn rm ln lx at_ bd fs dp on os bn df th mb mo_ (ev - 1) ss 2 v rs pt ot cl)), ((f 20), .inl (cL, 400, .inr (.inl one))), ((f 21), .inl (cL, 400, .inr (.inl two))), ((f 25), .inl (cI, 41, .inl bss)), ((f 26), .inl (cI, 41, .inl wts)), ((f 27), .inl (cZ, 41, .inl snd)), ((f 28), .inl (cI, 41, .inl nbr)), ((f 24), .inl (cI, 150, .inl spn)), ((f 18), .inl (cL, 9, .inr (.inl trm)))] := hD
        refine lv_goto (tgt := 290) hx hb d_MO_goesOn_143 (by decide) ?_
        exact em_vret hx hb hr hlocks hP hD hK hS (ev - 1, mb, v, ss, 2, one, two, bss, wts, snd, nbr) [0, 1, 2, 3, 4, 5, 6, 7, 8] (by decide) rfl ⟨rfl, ⟨hsnd, (show MI df Gc trm one two spn mb v rs pt from ⟨hHG, hv, hrs, (by omega), (fun k hk => hsp k (by omega))⟩), (show (ev - 1) ≤ 40 from (by first | assumption | omega | exact Or.inl rfl)), (show me bss wts (ev - 1) mb 0 from (hsl.mono (by omega))), (show ((ss = ss + 1 ∧ 2 = so) ∨ (ss = ss ∧ ¬ 2 = 0) ∨ (ss = ss ∧ 2 = so ∧ (ev - 1) = ev ∧ fz snd (ev - 1) + 1 = fz snd ev)) from (Or.inr (Or.inl ⟨rfl, by decide⟩)))⟩⟩ d_MO_goesOn_290
      · skip
        have hn_6 : ¬ wa = 18 := fun h => hb_4 ((nI_eq (a := wa) (b := 18) (by omega) (by omega)).mpr h)
        refine lv_iload hx hb d_MO_goesOn_127 (lv_at hl 1 rfl) ?_
        refine lv_bipush (v := 19) hx hb d_MO_goesOn_129 (by decide) ?_
        refine lv_icmp_ne (tgt := 172) hx hb d_MO_goesOn_131 (by decide) (fun hb_7 => ?_) (fun hb_7 => ?_)
        · skip
          have hn_8 : ¬ wa = 19 := fun h => hb_7 ((nI_eq (a := wa) (b := 19) (by omega) (by omega)).mpr h)
          refine lv_iload hx hb d_MO_goesOn_172 (lv_at hl 1 rfl) ?_
          refine lv_bipush (v := 20) hx hb d_MO_goesOn_174 (by decide) ?_
          refine lv_icmp_ne (tgt := 227) hx hb d_MO_goesOn_176 (by decide) (fun hb_9 => ?_) (fun hb_9 => ?_)
          · skip
            have hn_10 : ¬ wa = 20 := fun h => hb_9 ((nI_eq (a := wa) (b := 20) (by omega) (by omega)).mpr h)
            refine lv_iload hx hb d_MO_goesOn_227 (lv_at hl 0 rfl) ?_
            refine lv_if_ne (tgt := 240) hx hb d_MO_goesOn_229 (by decide) (fun hbr => absurd (by decide) hbr) (fun hbr => ?_)
            refine lv_aload_n hx hb d_MO_goesOn_232 rfl (lv_at hl 2 rfl) ?_
            refine lv_iconst (v := 2) hx hb d_MO_goesOn_233 (by decide) ?_
            refine va_put (D := D) (ci := 8) (v := .int 2) (ty := .int) (C := rn_MO) (T := fl_MO) (N := 55) hx hb hG in_MO tt_MO tk_MO nn_MO hown hK hP hD hS 0 rfl rfl 42 (by decide) (hG _ k_1233) (fun _ h9 => h9) rfl (by decide +kernel) rfl rfl (Nat.le_of_ble_eq_true rfl) d_MO_goesOn_234 (fun H locs hP hD hS => ?_)
            have hP : va_P D classes [(h0, .inr (8, mS f tn rm ln lx at_ bd fs dp on os bn df th mb mo_ (ev - 1) ss 2 v rs pt ot cl)), ((f 20), .inl (cL, 400, .inr (.inl one))), ((f 21), .inl (cL, 400, .inr (.inl two))), ((f 25), .inl (cI, 41, .inl bss)), ((f 26), .inl (cI, 41, .inl wts)), ((f 27), .inl (cZ, 41, .inl snd)), ((f 28), .inl (cI, 41, .inl nbr)), ((f 24), .inl (cI, 150, .inl spn)), ((f 18), .inl (cL, 9, .inr (.inl trm)))] H := hP
            have hD : va_D A [(h0, .inr (8, mS f tn rm ln lx at_ bd fs dp on os bn df th mb mo_ (ev - 1) ss 2 v rs pt ot cl)), ((f 20), .inl (cL, 400, .inr (.inl one))), ((f 21), .inl (cL, 400, .inr (.inl two))), ((f 25), .inl (cI, 41, .inl bss)), ((f 26), .inl (cI, 41, .inl wts)), ((f 27), .inl (cZ, 41, .inl snd)), ((f 28), .inl (cI, 41, .inl nbr)), ((f 24), .inl (cI, 150, .inl spn)), ((f 18), .inl (cL, 9, .inr (.inl trm)))] := hD
            refine lv_goto (tgt := 290) hx hb d_MO_goesOn_237 (by decide) ?_
            exact em_vret hx hb hr hlocks hP hD hK hS (ev - 1, mb, v, ss, 2, one, two, bss, wts, snd, nbr) [0, 1, 2, 3, 4, 5, 6, 7, 8] (by decide) rfl ⟨rfl, ⟨hsnd, (show MI df Gc trm one two spn mb v rs pt from ⟨hHG, hv, hrs, (by omega), (fun k hk => hsp k (by omega))⟩), (show (ev - 1) ≤ 40 from (by first | assumption | omega | exact Or.inl rfl)), (show me bss wts (ev - 1) mb 0 from (hsl.mono (by omega))), (show ((ss = ss + 1 ∧ 2 = so) ∨ (ss = ss ∧ ¬ 2 = 0) ∨ (ss = ss ∧ 2 = so ∧ (ev - 1) = ev ∧ fz snd (ev - 1) + 1 = fz snd ev)) from (Or.inr (Or.inl ⟨rfl, by decide⟩)))⟩⟩ d_MO_goesOn_290
          · skip
            have hn_11 : wa = 20 := (nI_eq (a := wa) (b := 20) (by omega) (by omega)).mp hb_9
            refine lv_iload_n hx hb d_MO_goesOn_179 rfl (lv_at hl 4 rfl) ?_
            refine lv_if_ne (tgt := 201) hx hb d_MO_goesOn_180 (by decide) (fun hbr => absurd (by decide) hbr) (fun hbr => ?_)
            refine lv_lload_n hx hb d_MO_goesOn_183 rfl (lv_at hl 3 rfl) ?_
            refine lv_bipush (v := 17) hx hb d_MO_goesOn_184 (by decide) ?_
            refine W.callRL (W.runS (As := [.int 17]) (rest := [.long v]) ⟨hx, hb, hml, hown, hG⟩ (mo_constant l D cI cL cZ cC 17 ) (cwS 1 hG (gd_S k_1461 k_1462 k_116 k_1463) rfl rfl rfl (by decide +kernel) ⟨Nat.le_of_ble_eq_true rfl, Nat.le_of_ble_eq_true rfl⟩) (wq_S hP hK [] rfl) rfl rfl hl.1 rfl (lv_room (Nat.le_of_ble_eq_true rfl)) d_MO_goesOn_186 ⟨Nat.le_of_ble_eq_true rfl, Nat.le_of_ble_eq_true rfl⟩) ?_
            refine W.eq (g2 := F0 m 189 ls [.long (wof 2 17), .long v]) rfl ?_
            refine W.lcmp hx hb d_MO_goesOn_189 ?_
            refine lv_if_eq (tgt := 201) hx hb d_MO_goesOn_190 (by decide) (fun hb_12 => ?_) (fun hb_12 => ?_)
            · skip
              have hq_13 := (lg_cmp_eq _ _).mp hb_12
              refine lv_aload_n hx hb d_MO_goesOn_201 rfl (lv_at hl 2 rfl) ?_
              refine lv_iconst (v := 1) hx hb d_MO_goesOn_202 (by decide) ?_
              refine lv_iconst (v := 2) hx hb d_MO_goesOn_203 (by decide) ?_
              refine W.callRL (W.runS (As := [.int 2]) (rest := [.int 1, .ref h0]) ⟨hx, hb, hml, hown, hG⟩ (mo_constant l D cI cL cZ cC 2 ) (cwS 1 hG (gd_S k_1461 k_1462 k_116 k_1463) rfl rfl rfl (by decide +kernel) ⟨Nat.le_of_ble_eq_true rfl, Nat.le_of_ble_eq_true rfl⟩) (wq_S hP hK [] rfl) rfl rfl hl.1 rfl (lv_room (Nat.le_of_ble_eq_true rfl)) d_MO_goesOn_204 ⟨Nat.le_of_ble_eq_true rfl, Nat.le_of_ble_eq_true rfl⟩) ?_
              refine W.eq (g2 := F0 m 207 ls [.long (wof 2 2), .int 1, .ref h0]) rfl ?_
              refine lv_iload_n hx hb d_MO_goesOn_207 rfl (lv_at hl 4 rfl) ?_
              refine lv_if_eq (tgt := 216) hx hb d_MO_goesOn_208 (by decide) (fun hbr => ?_) (fun hbr => absurd (by decide) hbr)
              refine lv_bipush (v := 21) hx hb d_MO_goesOn_216 (by decide) ?_
              refine W.callRL (W.runS (As := [.int 21]) (rest := [.long (wof 2 2), .int 1, .ref h0]) ⟨hx, hb, hml, hown, hG⟩ (mo_constant l D cI cL cZ cC 21 ) (cwS 1 hG (gd_S k_1461 k_1462 k_116 k_1463) rfl rfl rfl (by decide +kernel) ⟨Nat.le_of_ble_eq_true rfl, Nat.le_of_ble_eq_true rfl⟩) (wq_S hP hK [] rfl) rfl rfl hl.1 rfl (lv_room (Nat.le_of_ble_eq_true rfl)) d_MO_goesOn_218 ⟨Nat.le_of_ble_eq_true rfl, Nat.le_of_ble_eq_true rfl⟩) ?_
              refine W.eq (g2 := F0 m 221 ls [.long (wof 2 21), .long (wof 2 2), .int 1, .ref h0]) rfl ?_
              refine em_call (wr := [((f 25), .inl (cI, 41, .inl bss)), ((f 26), .inl (cI, 41, .inl wts)), ((f 27), .inl (cZ, 41, .inl snd)), ((f 28), .inl (cI, 41, .inl nbr))]) (em_runV (As := [.int (nI 1), .long (wof 2 2), .long (wof 2 21)]) (rest := []) ⟨hx, hb, hml, hown, hG⟩ (mo_overwrite l D cI cL cZ cC f h0 tn rm ln lx at_ bd fs dp on os bn df th mb mo_ (ev - 1) ss so v rs pt ot cl one two spn trm Gc 1 (wof 2 2) (wof 2 21) _ (by omega) (by omega) (by omega) hHG (okh_con 2 (by decide) (by decide)) (okh_con 21 (by decide) (by decide)) hsp2 hnt) (cwV 3 hG (gd_V k_1592 k_1594 k_94 k_116 k_1595) rfl rfl rfl (by decide +kernel) ⟨Nat.le_of_ble_eq_true rfl, Nat.le_of_ble_eq_true rfl⟩) (tw_V (q0 := 0) hP hD hK hE hst hS rfl rfl [0, 1, 2, 7, 8] rfl (by decide)) rfl rfl hl.1 rfl (lv_room (Nat.le_of_ble_eq_true rfl)) d_MO_goesOn_221 ⟨Nat.le_of_ble_eq_true rfl, Nat.le_of_ble_eq_true rfl⟩) hP hD hS hA [0, 1, 2, 7, 8] [3, 4, 5, 6] rfl rfl (by decide) (by decide) (fun v u H locs hok hP hD hS => ?_) (fun x C u H locs hbad hxx hP hD hS => ?_)
              · skip
                obtain ⟨tp_14, lk_15, ss_16, one_17, two_18⟩ := u
                obtain ⟨rfl, hp_20⟩ := hok
                obtain ⟨hHG_21, htp_22, hlk_23, hss_24⟩ : (HG df Gc trm one_17 two_18) ∧ (tp_14 + 1 = mb + 1) ∧ (lk_15 = (wof 2 2)) ∧ (ss_16 = ss + 1) := hp_20
                have hP : va_P D classes [((f 25), .inl (cI, 41, .inl bss)), ((f 26), .inl (cI, 41, .inl wts)), ((f 27), .inl (cZ, 41, .inl snd)), ((f 28), .inl (cI, 41, .inl nbr)), (h0, .inr (8, mS f tn rm ln lx at_ bd fs dp on os bn df th tp_14 mo_ (ev - 1) ss_16 so lk_15 rs pt ot cl)), ((f 20), .inl (cL, 400, .inr (.inl one_17))), ((f 21), .inl (cL, 400, .inr (.inl two_18))), ((f 24), .inl (cI, 150, .inl spn)), ((f 18), .inl (cL, 9, .inr (.inl trm)))] H := hP
                have hD : va_D A [((f 25), .inl (cI, 41, .inl bss)), ((f 26), .inl (cI, 41, .inl wts)), ((f 27), .inl (cZ, 41, .inl snd)), ((f 28), .inl (cI, 41, .inl nbr)), (h0, .inr (8, mS f tn rm ln lx at_ bd fs dp on os bn df th tp_14 mo_ (ev - 1) ss_16 so lk_15 rs pt ot cl)), ((f 20), .inl (cL, 400, .inr (.inl one_17))), ((f 21), .inl (cL, 400, .inr (.inl two_18))), ((f 24), .inl (cI, 150, .inl spn)), ((f 18), .inl (cL, 9, .inr (.inl trm)))] := hD
                refine W.eq (g2 := F0 m 224 ls []) rfl ?_
                refine lv_goto (tgt := 290) hx hb d_MO_goesOn_224 (by decide) ?_
                exact em_vret hx hb hr hlocks hP hD hK hS (ev - 1, tp_14, lk_15, ss_16, so, one_17, two_18, bss, wts, snd, nbr) [4, 5, 6, 0, 1, 2, 3, 7, 8] (by decide) rfl ⟨rfl, ⟨hsnd, (show MI df Gc trm one_17 two_18 spn tp_14 lk_15 rs pt from ⟨hHG_21, (by rw [hlk_23]; exact (okh_con 2 (by decide) (by decide))), hrs, (by omega), (fun k hk => hsp k (by omega))⟩), (show (ev - 1) ≤ 40 from (by first | assumption | omega | exact Or.inl rfl)), (show me bss wts (ev - 1) tp_14 0 from (hsl.mono (by omega))), (show ((ss_16 = ss + 1 ∧ so = so) ∨ (ss_16 = ss ∧ ¬ so = 0) ∨ (ss_16 = ss ∧ so = so ∧ (ev - 1) = ev ∧ fz snd (ev - 1) + 1 = fz snd ev)) from (Or.inl ⟨hss_24, rfl⟩))⟩⟩ d_MO_goesOn_290
              · skip
                exact hbad.elim
            · skip
              have hq_26 : ¬ _ := fun h => hb_12 ((lg_cmp_eq _ _).mpr h)
              refine lv_aload_n hx hb d_MO_goesOn_193 rfl (lv_at hl 2 rfl) ?_
              refine lv_iconst (v := 2) hx hb d_MO_goesOn_194 (by decide) ?_
              refine va_put (D := D) (ci := 8) (v := .int 2) (ty := .int) (C := rn_MO) (T := fl_MO) (N := 55) hx hb hG in_MO tt_MO tk_MO nn_MO hown hK hP hD hS 0 rfl rfl 42 (by decide) (hG _ k_1233) (fun _ h9 => h9) rfl (by decide +kernel) rfl rfl (Nat.le_of_ble_eq_true rfl) d_MO_goesOn_195 (fun H locs hP hD hS => ?_)
              have hP : va_P D classes [(h0, .inr (8, mS f tn rm ln lx at_ bd fs dp on os bn df th mb mo_ (ev - 1) ss 2 v rs pt ot cl)), ((f 20), .inl (cL, 400, .inr (.inl one))), ((f 21), .inl (cL, 400, .inr (.inl two))), ((f 25), .inl (cI, 41, .inl bss)), ((f 26), .inl (cI, 41, .inl wts)), ((f 27), .inl (cZ, 41, .inl snd)), ((f 28), .inl (cI, 41, .inl nbr)), ((f 24), .inl (cI, 150, .inl spn)), ((f 18), .inl (cL, 9, .inr (.inl trm)))] H := hP
              have hD : va_D A [(h0, .inr (8, mS f tn rm ln lx at_ bd fs dp on os bn df th mb mo_ (ev - 1) ss 2 v rs pt ot cl)), ((f 20), .inl (cL, 400, .inr (.inl one))), ((f 21), .inl (cL, 400, .inr (.inl two))), ((f 25), .inl (cI, 41, .inl bss)), ((f 26), .inl (cI, 41, .inl wts)), ((f 27), .inl (cZ, 41, .inl snd)), ((f 28), .inl (cI, 41, .inl nbr)), ((f 24), .inl (cI, 150, .inl spn)), ((f 18), .inl (cL, 9, .inr (.inl trm)))] := hD
              refine lv_goto (tgt := 290) hx hb d_MO_goesOn_198 (by decide) ?_
              exact em_vret hx hb hr hlocks hP hD hK hS (ev - 1, mb, v, ss, 2, one, two, bss, wts, snd, nbr) [0, 1, 2, 3, 4, 5, 6, 7, 8] (by decide) rfl ⟨rfl, ⟨hsnd, (show MI df Gc trm one two spn mb v rs pt from ⟨hHG, hv, hrs, (by omega), (fun k hk => hsp k (by omega))⟩), (show (ev - 1) ≤ 40 from (by first | assumption | omega | exact Or.inl rfl)), (show me bss wts (ev - 1) mb 0 from (hsl.mono (by omega))), (show ((ss = ss + 1 ∧ 2 = so) ∨ (ss = ss ∧ ¬ 2 = 0) ∨ (ss = ss ∧ 2 = so ∧ (ev - 1) = ev ∧ fz snd (ev - 1) + 1 = fz snd ev)) from (Or.inr (Or.inl ⟨rfl, by decide⟩)))⟩⟩ d_MO_goesOn_290
        · skip
          have hn_27 : wa = 19 := (nI_eq (a := wa) (b := 19) (by omega) (by omega)).mp hb_7
          refine lv_iload_n hx hb d_MO_goesOn_134 rfl (lv_at hl 4 rfl) ?_
          refine lv_if_ne (tgt := 146) hx hb d_MO_goesOn_135 (by decide) (fun hbr => absurd (by decide) hbr) (fun hbr => ?_)
          refine lv_aload_n hx hb d_MO_goesOn_138 rfl (lv_at hl 2 rfl) ?_
          refine lv_iconst (v := 2) hx hb d_MO_goesOn_139 (by decide) ?_
          refine va_put (D := D) (ci := 8) (v := .int 2) (ty := .int) (C := rn_MO) (T := fl_MO) (N := 55) hx hb hG in_MO tt_MO tk_MO nn_MO hown hK hP hD hS 0 rfl rfl 42 (by decide) (hG _ k_1233) (fun _ h9 => h9) rfl (by decide +kernel) rfl rfl (Nat.le_of_ble_eq_true rfl) d_MO_goesOn_140 (fun H locs hP hD hS => ?_)
          have hP : va_P D classes [(h0, .inr (8, mS f tn rm ln lx at_ bd fs dp on os bn df th mb mo_ (ev - 1) ss 2 v rs pt ot cl)), ((f 20), .inl (cL, 400, .inr (.inl one))), ((f 21), .inl (cL, 400, .inr (.inl two))), ((f 25), .inl (cI, 41, .inl bss)), ((f 26), .inl (cI, 41, .inl wts)), ((f 27), .inl (cZ, 41, .inl snd)), ((f 28), .inl (cI, 41, .inl nbr)), ((f 24), .inl (cI, 150, .inl spn)), ((f 18), .inl (cL, 9, .inr (.inl trm)))] H := hP
          have hD : va_D A [(h0, .inr (8, mS f tn rm ln lx at_ bd fs dp on os bn df th mb mo_ (ev - 1) ss 2 v rs pt ot cl)), ((f 20), .inl (cL, 400, .inr (.inl one))), ((f 21), .inl (cL, 400, .inr (.inl two))), ((f 25), .inl (cI, 41, .inl bss)), ((f 26), .inl (cI, 41, .inl wts)), ((f 27), .inl (cZ, 41, .inl snd)), ((f 28), .inl (cI, 41, .inl nbr)), ((f 24), .inl (cI, 150, .inl spn)), ((f 18), .inl (cL, 9, .inr (.inl trm)))] := hD
          refine lv_goto (tgt := 290) hx hb d_MO_goesOn_143 (by decide) ?_
          exact em_vret hx hb hr hlocks hP hD hK hS (ev - 1, mb, v, ss, 2, one, two, bss, wts, snd, nbr) [0, 1, 2, 3, 4, 5, 6, 7, 8] (by decide) rfl ⟨rfl, ⟨hsnd, (show MI df Gc trm one two spn mb v rs pt from ⟨hHG, hv, hrs, (by omega), (fun k hk => hsp k (by omega))⟩), (show (ev - 1) ≤ 40 from (by first | assumption | omega | exact Or.inl rfl)), (show me bss wts (ev - 1) mb 0 from (hsl.mono (by omega))), (show ((ss = ss + 1 ∧ 2 = so) ∨ (ss = ss ∧ ¬ 2 = 0) ∨ (ss = ss ∧ 2 = so ∧ (ev - 1) = ev ∧ fz snd (ev - 1) + 1 = fz snd ev)) from (Or.inr (Or.inl ⟨rfl, by decide⟩)))⟩⟩ d_MO_goesOn_290
    · skip
      have hn_28 : wa = 10 := (nI_eq (a := wa) (b := 10) (by omega) (by omega)).mp hb_2
      refine lv_lload_n hx hb d_MO_goesOn_69 rfl (lv_at hl 3 rfl) ?_
      refine em_call (wr := [(h0, .inr (8, mS f tn rm ln lx at_ bd fs dp on os bn df th mb mo_ (ev - 1) ss so v rs pt ot cl)), ((f 20), .inl (cL, 400, .inr (.inl one))), ((f 21), .inl (cL, 400, .inr (.inl two))), ((f 25), .inl (cI, 41, .inl bss)), ((f 26), .inl (cI, 41, .inl wts)), ((f 27), .inl (cZ, 41, .inl snd)), ((f 28), .inl (cI, 41, .inl nbr)), ((f 24), .inl (cI, 150, .inl spn)), ((f 18), .inl (cL, 9, .inr (.inl trm)))]) (em_runS (As := [.long v]) (rest := []) ⟨hx, hb, hml, hown, hG⟩ (mo_truth l D cI cL cZ cC v _  hnt) (cwS 1 hG (gd_S k_1589 k_1590 k_116 k_1591) rfl rfl rfl (by decide +kernel) ⟨Nat.le_of_ble_eq_true rfl, Nat.le_of_ble_eq_true rfl⟩) (tw_S hP hD hK hE hst hS [] rfl (by decide)) rfl rfl hl.1 rfl (lv_room (Nat.le_of_ble_eq_true rfl)) d_MO_goesOn_70 ⟨Nat.le_of_ble_eq_true rfl, Nat.le_of_ble_eq_true rfl⟩) hP hD hS hA [] [0, 1, 2, 3, 4, 5, 6, 7, 8] rfl rfl (by decide) (by decide) (fun v u H locs hok hP hD hS => ?_) (fun x C u H locs hbad hxx hP hD hS => ?_)
      · skip
        obtain ⟨r_29, rfl, hp_30⟩ := hok
        have hP : va_P D classes [(h0, .inr (8, mS f tn rm ln lx at_ bd fs dp on os bn df th mb mo_ (ev - 1) ss so v rs pt ot cl)), ((f 20), .inl (cL, 400, .inr (.inl one))), ((f 21), .inl (cL, 400, .inr (.inl two))), ((f 25), .inl (cI, 41, .inl bss)), ((f 26), .inl (cI, 41, .inl wts)), ((f 27), .inl (cZ, 41, .inl snd)), ((f 28), .inl (cI, 41, .inl nbr)), ((f 24), .inl (cI, 150, .inl spn)), ((f 18), .inl (cL, 9, .inr (.inl trm)))] H := hP
        have hD : va_D A [(h0, .inr (8, mS f tn rm ln lx at_ bd fs dp on os bn df th mb mo_ (ev - 1) ss so v rs pt ot cl)), ((f 20), .inl (cL, 400, .inr (.inl one))), ((f 21), .inl (cL, 400, .inr (.inl two))), ((f 25), .inl (cI, 41, .inl bss)), ((f 26), .inl (cI, 41, .inl wts)), ((f 27), .inl (cZ, 41, .inl snd)), ((f 28), .inl (cI, 41, .inl nbr)), ((f 24), .inl (cI, 150, .inl spn)), ((f 18), .inl (cL, 9, .inr (.inl trm)))] := hD
        rcases hp_30 with rfl | rfl
        · skip
          refine W.eq (g2 := F0 m 73 ls [.int 0]) rfl ?_
          refine lv_if_eq (tgt := 81) hx hb d_MO_goesOn_73 (by decide) (fun hbr => ?_) (fun hbr => absurd (by decide) hbr)
          refine lv_aload_n hx hb d_MO_goesOn_81 rfl (lv_at hl 2 rfl) ?_
          refine lv_iconst (v := 2) hx hb d_MO_goesOn_82 (by decide) ?_
          refine va_put (D := D) (ci := 8) (v := .int 2) (ty := .int) (C := rn_MO) (T := fl_MO) (N := 55) hx hb hG in_MO tt_MO tk_MO nn_MO hown hK hP hD hS 0 rfl rfl 42 (by decide) (hG _ k_1233) (fun _ h9 => h9) rfl (by decide +kernel) rfl rfl (Nat.le_of_ble_eq_true rfl) d_MO_goesOn_83 (fun H locs hP hD hS => ?_)
          have hP : va_P D classes [(h0, .inr (8, mS f tn rm ln lx at_ bd fs dp on os bn df th mb mo_ (ev - 1) ss 2 v rs pt ot cl)), ((f 20), .inl (cL, 400, .inr (.inl one))), ((f 21), .inl (cL, 400, .inr (.inl two))), ((f 25), .inl (cI, 41, .inl bss)), ((f 26), .inl (cI, 41, .inl wts)), ((f 27), .inl (cZ, 41, .inl snd)), ((f 28), .inl (cI, 41, .inl nbr)), ((f 24), .inl (cI, 150, .inl spn)), ((f 18), .inl (cL, 9, .inr (.inl trm)))] H := hP
          have hD : va_D A [(h0, .inr (8, mS f tn rm ln lx at_ bd fs dp on os bn df th mb mo_ (ev - 1) ss 2 v rs pt ot cl)), ((f 20), .inl (cL, 400, .inr (.inl one))), ((f 21), .inl (cL, 400, .inr (.inl two))), ((f 25), .inl (cI, 41, .inl bss)), ((f 26), .inl (cI, 41, .inl wts)), ((f 27), .inl (cZ, 41, .inl snd)), ((f 28), .inl (cI, 41, .inl nbr)), ((f 24), .inl (cI, 150, .inl spn)), ((f 18), .inl (cL, 9, .inr (.inl trm)))] := hD
          refine lv_goto (tgt := 290) hx hb d_MO_goesOn_86 (by decide) ?_
          exact em_vret hx hb hr hlocks hP hD hK hS (ev - 1, mb, v, ss, 2, one, two, bss, wts, snd, nbr) [0, 1, 2, 3, 4, 5, 6, 7, 8] (by decide) rfl ⟨rfl, ⟨hsnd, (show MI df Gc trm one two spn mb v rs pt from ⟨hHG, hv, hrs, (by omega), (fun k hk => hsp k (by omega))⟩), (show (ev - 1) ≤ 40 from (by first | assumption | omega | exact Or.inl rfl)), (show me bss wts (ev - 1) mb 0 from (hsl.mono (by omega))), (show ((ss = ss + 1 ∧ 2 = so) ∨ (ss = ss ∧ ¬ 2 = 0) ∨ (ss = ss ∧ 2 = so ∧ (ev - 1) = ev ∧ fz snd (ev - 1) + 1 = fz snd ev)) from (Or.inr (Or.inl ⟨rfl, by decide⟩)))⟩⟩ d_MO_goesOn_290
        · skip
          refine W.eq (g2 := F0 m 73 ls [.int 1]) rfl ?_
          refine lv_if_eq (tgt := 81) hx hb d_MO_goesOn_73 (by decide) (fun hbr => absurd hbr (by decide)) (fun hbr => ?_)
          refine lv_iload hx hb d_MO_goesOn_76 (lv_at hl 7 rfl) ?_
          refine lv_if_eq (tgt := 89) hx hb d_MO_goesOn_78 (by decide) (fun hbr => absurd hbr (by decide)) (fun hbr => ?_)
          refine lv_aload_n hx hb d_MO_goesOn_81 rfl (lv_at hl 2 rfl) ?_
          refine lv_iconst (v := 2) hx hb d_MO_goesOn_82 (by decide) ?_
          refine va_put (D := D) (ci := 8) (v := .int 2) (ty := .int) (C := rn_MO) (T := fl_MO) (N := 55) hx hb hG in_MO tt_MO tk_MO nn_MO hown hK hP hD hS 0 rfl rfl 42 (by decide) (hG _ k_1233) (fun _ h9 => h9) rfl (by decide +kernel) rfl rfl (Nat.le_of_ble_eq_true rfl) d_MO_goesOn_83 (fun H locs hP hD hS => ?_)
          have hP : va_P D classes [(h0, .inr (8, mS f tn rm ln lx at_ bd fs dp on os bn df th mb mo_ (ev - 1) ss 2 v rs pt ot cl)), ((f 20), .inl (cL, 400, .inr (.inl one))), ((f 21), .inl (cL, 400, .inr (.inl two))), ((f 25), .inl (cI, 41, .inl bss)), ((f 26), .inl (cI, 41, .inl wts)), ((f 27), .inl (cZ, 41, .inl snd)), ((f 28), .inl (cI, 41, .inl nbr)), ((f 24), .inl (cI, 150, .inl spn)), ((f 18), .inl (cL, 9, .inr (.inl trm)))] H := hP
          have hD : va_D A [(h0, .inr (8, mS f tn rm ln lx at_ bd fs dp on os bn df th mb mo_ (ev - 1) ss 2 v rs pt ot cl)), ((f 20), .inl (cL, 400, .inr (.inl one))), ((f 21), .inl (cL, 400, .inr (.inl two))), ((f 25), .inl (cI, 41, .inl bss)), ((f 26), .inl (cI, 41, .inl wts)), ((f 27), .inl (cZ, 41, .inl snd)), ((f 28), .inl (cI, 41, .inl nbr)), ((f 24), .inl (cI, 150, .inl spn)), ((f 18), .inl (cL, 9, .inr (.inl trm)))] := hD
          refine lv_goto (tgt := 290) hx hb d_MO_goesOn_86 (by decide) ?_
          exact em_vret hx hb hr hlocks hP hD hK hS (ev - 1, mb, v, ss, 2, one, two, bss, wts, snd, nbr) [0, 1, 2, 3, 4, 5, 6, 7, 8] (by decide) rfl ⟨rfl, ⟨hsnd, (show MI df Gc trm one two spn mb v rs pt from ⟨hHG, hv, hrs, (by omega), (fun k hk => hsp k (by omega))⟩), (show (ev - 1) ≤ 40 from (by first | assumption | omega | exact Or.inl rfl)), (show me bss wts (ev - 1) mb 0 from (hsl.mono (by omega))), (show ((ss = ss + 1 ∧ 2 = so) ∨ (ss = ss ∧ ¬ 2 = 0) ∨ (ss = ss ∧ 2 = so ∧ (ev - 1) = ev ∧ fz snd (ev - 1) + 1 = fz snd ev)) from (Or.inr (Or.inl ⟨rfl, by decide⟩)))⟩⟩ d_MO_goesOn_290
      · skip
        exact hbad.elim
  · skip
    refine lv_iload_n hx hb d_MO_goesOn_46 rfl (lv_at hl 3 rfl) ?_
    refine lv_if_ne (tgt := 59) hx hb d_MO_goesOn_47 (by decide) (fun hbr => absurd (by decide) hbr) (fun hbr => ?_)
    refine lv_iload hx hb d_MO_goesOn_50 (lv_at hl 6 rfl) ?_
    refine lv_if_ne (tgt := 59) hx hb d_MO_goesOn_52 (by decide) (fun hbr => ?_) (fun hbr => absurd hbr (by decide))
    refine lv_iconst (v := 0) hx hb d_MO_goesOn_59 (by decide) ?_
    refine lv_istore (lv' := [(10, .int 0), (9, .int (nI wa)), (0, .ref h0), (1, .long v), (3, .int 0), (4, .long x), (6, .long y), (8, .int 1)]) hx hb d_MO_goesOn_60 hl (Nat.le_of_ble_eq_true rfl) rfl (fun ls hl => ?_)
    refine lv_iload hx hb d_MO_goesOn_62 (lv_at hl 1 rfl) ?_
    refine lv_bipush (v := 10) hx hb d_MO_goesOn_64 (by decide) ?_
    refine lv_icmp_ne (tgt := 120) hx hb d_MO_goesOn_66 (by decide) (fun hb_31 => ?_) (fun hb_31 => ?_)
    · skip
      have hn_32 : ¬ wa = 10 := fun h => hb_31 ((nI_eq (a := wa) (b := 10) (by omega) (by omega)).mpr h)
      refine lv_iload hx hb d_MO_goesOn_120 (lv_at hl 1 rfl) ?_
      refine lv_bipush (v := 18) hx hb d_MO_goesOn_122 (by decide) ?_
      refine lv_icmp_eq (tgt := 134) hx hb d_MO_goesOn_124 (by decide) (fun hb_33 => ?_) (fun hb_33 => ?_)
      · skip
        have hn_34 : wa = 18 := (nI_eq (a := wa) (b := 18) (by omega) (by omega)).mp hb_33
        refine lv_iload_n hx hb d_MO_goesOn_134 rfl (lv_at hl 4 rfl) ?_
        refine lv_if_ne (tgt := 146) hx hb d_MO_goesOn_135 (by decide) (fun hbr => absurd (by decide) hbr) (fun hbr => ?_)
        refine lv_aload_n hx hb d_MO_goesOn_138 rfl (lv_at hl 2 rfl) ?_
        refine lv_iconst (v := 2) hx hb d_MO_goesOn_139 (by decide) ?_
        refine va_put (D := D) (ci := 8) (v := .int 2) (ty := .int) (C := rn_MO) (T := fl_MO) (N := 55) hx hb hG in_MO tt_MO tk_MO nn_MO hown hK hP hD hS 0 rfl rfl 42 (by decide) (hG _ k_1233) (fun _ h9 => h9) rfl (by decide +kernel) rfl rfl (Nat.le_of_ble_eq_true rfl) d_MO_goesOn_140 (fun H locs hP hD hS => ?_)
        have hP : va_P D classes [(h0, .inr (8, mS f tn rm ln lx at_ bd fs dp on os bn df th mb mo_ (ev - 1) ss 2 v rs pt ot cl)), ((f 20), .inl (cL, 400, .inr (.inl one))), ((f 21), .inl (cL, 400, .inr (.inl two))), ((f 25), .inl (cI, 41, .inl bss)), ((f 26), .inl (cI, 41, .inl wts)), ((f 27), .inl (cZ, 41, .inl snd)), ((f 28), .inl (cI, 41, .inl nbr)), ((f 24), .inl (cI, 150, .inl spn)), ((f 18), .inl (cL, 9, .inr (.inl trm)))] H := hP
        have hD : va_D A [(h0, .inr (8, mS f tn rm ln lx at_ bd fs dp on os bn df th mb mo_ (ev - 1) ss 2 v rs pt ot cl)), ((f 20), .inl (cL, 400, .inr (.inl one))), ((f 21), .inl (cL, 400, .inr (.inl two))), ((f 25), .inl (cI, 41, .inl bss)), ((f 26), .inl (cI, 41, .inl wts)), ((f 27), .inl (cZ, 41, .inl snd)), ((f 28), .inl (cI, 41, .inl nbr)), ((f 24), .inl (cI, 150, .inl spn)), ((f 18), .inl (cL, 9, .inr (.inl trm)))] := hD
        refine lv_goto (tgt := 290) hx hb d_MO_goesOn_143 (by decide) ?_
        exact em_vret hx hb hr hlocks hP hD hK hS (ev - 1, mb, v, ss, 2, one, two, bss, wts, snd, nbr) [0, 1, 2, 3, 4, 5, 6, 7, 8] (by decide) rfl ⟨rfl, ⟨hsnd, (show MI df Gc trm one two spn mb v rs pt from ⟨hHG, hv, hrs, (by omega), (fun k hk => hsp k (by omega))⟩), (show (ev - 1) ≤ 40 from (by first | assumption | omega | exact Or.inl rfl)), (show me bss wts (ev - 1) mb 0 from (hsl.mono (by omega))), (show ((ss = ss + 1 ∧ 2 = so) ∨ (ss = ss ∧ ¬ 2 = 0) ∨ (ss = ss ∧ 2 = so ∧ (ev - 1) = ev ∧ fz snd (ev - 1) + 1 = fz snd ev)) from (Or.inr (Or.inl ⟨rfl, by decide⟩)))⟩⟩ d_MO_goesOn_290
      · skip
        have hn_35 : ¬ wa = 18 := fun h => hb_33 ((nI_eq (a := wa) (b := 18) (by omega) (by omega)).mpr h)
        refine lv_iload hx hb d_MO_goesOn_127 (lv_at hl 1 rfl) ?_
        refine lv_bipush (v := 19) hx hb d_MO_goesOn_129 (by decide) ?_
        refine lv_icmp_ne (tgt := 172) hx hb d_MO_goesOn_131 (by decide) (fun hb_36 => ?_) (fun hb_36 => ?_)
        · skip
          have hn_37 : ¬ wa = 19 := fun h => hb_36 ((nI_eq (a := wa) (b := 19) (by omega) (by omega)).mpr h)
          refine lv_iload hx hb d_MO_goesOn_172 (lv_at hl 1 rfl) ?_
          refine lv_bipush (v := 20) hx hb d_MO_goesOn_174 (by decide) ?_
          refine lv_icmp_ne (tgt := 227) hx hb d_MO_goesOn_176 (by decide) (fun hb_38 => ?_) (fun hb_38 => ?_)
          · skip
            have hn_39 : ¬ wa = 20 := fun h => hb_38 ((nI_eq (a := wa) (b := 20) (by omega) (by omega)).mpr h)
            refine lv_iload hx hb d_MO_goesOn_227 (lv_at hl 0 rfl) ?_
            refine lv_if_ne (tgt := 240) hx hb d_MO_goesOn_229 (by decide) (fun hbr => absurd (by decide) hbr) (fun hbr => ?_)
            refine lv_aload_n hx hb d_MO_goesOn_232 rfl (lv_at hl 2 rfl) ?_
            refine lv_iconst (v := 2) hx hb d_MO_goesOn_233 (by decide) ?_
            refine va_put (D := D) (ci := 8) (v := .int 2) (ty := .int) (C := rn_MO) (T := fl_MO) (N := 55) hx hb hG in_MO tt_MO tk_MO nn_MO hown hK hP hD hS 0 rfl rfl 42 (by decide) (hG _ k_1233) (fun _ h9 => h9) rfl (by decide +kernel) rfl rfl (Nat.le_of_ble_eq_true rfl) d_MO_goesOn_234 (fun H locs hP hD hS => ?_)
            have hP : va_P D classes [(h0, .inr (8, mS f tn rm ln lx at_ bd fs dp on os bn df th mb mo_ (ev - 1) ss 2 v rs pt ot cl)), ((f 20), .inl (cL, 400, .inr (.inl one))), ((f 21), .inl (cL, 400, .inr (.inl two))), ((f 25), .inl (cI, 41, .inl bss)), ((f 26), .inl (cI, 41, .inl wts)), ((f 27), .inl (cZ, 41, .inl snd)), ((f 28), .inl (cI, 41, .inl nbr)), ((f 24), .inl (cI, 150, .inl spn)), ((f 18), .inl (cL, 9, .inr (.inl trm)))] H := hP
            have hD : va_D A [(h0, .inr (8, mS f tn rm ln lx at_ bd fs dp on os bn df th mb mo_ (ev - 1) ss 2 v rs pt ot cl)), ((f 20), .inl (cL, 400, .inr (.inl one))), ((f 21), .inl (cL, 400, .inr (.inl two))), ((f 25), .inl (cI, 41, .inl bss)), ((f 26), .inl (cI, 41, .inl wts)), ((f 27), .inl (cZ, 41, .inl snd)), ((f 28), .inl (cI, 41, .inl nbr)), ((f 24), .inl (cI, 150, .inl spn)), ((f 18), .inl (cL, 9, .inr (.inl trm)))] := hD
            refine lv_goto (tgt := 290) hx hb d_MO_goesOn_237 (by decide) ?_
            exact em_vret hx hb hr hlocks hP hD hK hS (ev - 1, mb, v, ss, 2, one, two, bss, wts, snd, nbr) [0, 1, 2, 3, 4, 5, 6, 7, 8] (by decide) rfl ⟨rfl, ⟨hsnd, (show MI df Gc trm one two spn mb v rs pt from ⟨hHG, hv, hrs, (by omega), (fun k hk => hsp k (by omega))⟩), (show (ev - 1) ≤ 40 from (by first | assumption | omega | exact Or.inl rfl)), (show me bss wts (ev - 1) mb 0 from (hsl.mono (by omega))), (show ((ss = ss + 1 ∧ 2 = so) ∨ (ss = ss ∧ ¬ 2 = 0) ∨ (ss = ss ∧ 2 = so ∧ (ev - 1) = ev ∧ fz snd (ev - 1) + 1 = fz snd ev)) from (Or.inr (Or.inl ⟨rfl, by decide⟩)))⟩⟩ d_MO_goesOn_290
          · skip
            have hn_40 : wa = 20 := (nI_eq (a := wa) (b := 20) (by omega) (by omega)).mp hb_38
            refine lv_iload_n hx hb d_MO_goesOn_179 rfl (lv_at hl 4 rfl) ?_
            refine lv_if_ne (tgt := 201) hx hb d_MO_goesOn_180 (by decide) (fun hbr => absurd (by decide) hbr) (fun hbr => ?_)
            refine lv_lload_n hx hb d_MO_goesOn_183 rfl (lv_at hl 3 rfl) ?_
            refine lv_bipush (v := 17) hx hb d_MO_goesOn_184 (by decide) ?_
            refine W.callRL (W.runS (As := [.int 17]) (rest := [.long v]) ⟨hx, hb, hml, hown, hG⟩ (mo_constant l D cI cL cZ cC 17 ) (cwS 1 hG (gd_S k_1461 k_1462 k_116 k_1463) rfl rfl rfl (by decide +kernel) ⟨Nat.le_of_ble_eq_true rfl, Nat.le_of_ble_eq_true rfl⟩) (wq_S hP hK [] rfl) rfl rfl hl.1 rfl (lv_room (Nat.le_of_ble_eq_true rfl)) d_MO_goesOn_186 ⟨Nat.le_of_ble_eq_true rfl, Nat.le_of_ble_eq_true rfl⟩) ?_
            refine W.eq (g2 := F0 m 189 ls [.long (wof 2 17), .long v]) rfl ?_
            refine W.lcmp hx hb d_MO_goesOn_189 ?_
            refine lv_if_eq (tgt := 201) hx hb d_MO_goesOn_190 (by decide) (fun hb_41 => ?_) (fun hb_41 => ?_)
            · skip
              have hq_42 := (lg_cmp_eq _ _).mp hb_41
              refine lv_aload_n hx hb d_MO_goesOn_201 rfl (lv_at hl 2 rfl) ?_
              refine lv_iconst (v := 1) hx hb d_MO_goesOn_202 (by decide) ?_
              refine lv_iconst (v := 2) hx hb d_MO_goesOn_203 (by decide) ?_
              refine W.callRL (W.runS (As := [.int 2]) (rest := [.int 1, .ref h0]) ⟨hx, hb, hml, hown, hG⟩ (mo_constant l D cI cL cZ cC 2 ) (cwS 1 hG (gd_S k_1461 k_1462 k_116 k_1463) rfl rfl rfl (by decide +kernel) ⟨Nat.le_of_ble_eq_true rfl, Nat.le_of_ble_eq_true rfl⟩) (wq_S hP hK [] rfl) rfl rfl hl.1 rfl (lv_room (Nat.le_of_ble_eq_true rfl)) d_MO_goesOn_204 ⟨Nat.le_of_ble_eq_true rfl, Nat.le_of_ble_eq_true rfl⟩) ?_
              refine W.eq (g2 := F0 m 207 ls [.long (wof 2 2), .int 1, .ref h0]) rfl ?_
              refine lv_iload_n hx hb d_MO_goesOn_207 rfl (lv_at hl 4 rfl) ?_
              refine lv_if_eq (tgt := 216) hx hb d_MO_goesOn_208 (by decide) (fun hbr => ?_) (fun hbr => absurd (by decide) hbr)
              refine lv_bipush (v := 21) hx hb d_MO_goesOn_216 (by decide) ?_
              refine W.callRL (W.runS (As := [.int 21]) (rest := [.long (wof 2 2), .int 1, .ref h0]) ⟨hx, hb, hml, hown, hG⟩ (mo_constant l D cI cL cZ cC 21 ) (cwS 1 hG (gd_S k_1461 k_1462 k_116 k_1463) rfl rfl rfl (by decide +kernel) ⟨Nat.le_of_ble_eq_true rfl, Nat.le_of_ble_eq_true rfl⟩) (wq_S hP hK [] rfl) rfl rfl hl.1 rfl (lv_room (Nat.le_of_ble_eq_true rfl)) d_MO_goesOn_218 ⟨Nat.le_of_ble_eq_true rfl, Nat.le_of_ble_eq_true rfl⟩) ?_
              refine W.eq (g2 := F0 m 221 ls [.long (wof 2 21), .long (wof 2 2), .int 1, .ref h0]) rfl ?_
              refine em_call (wr := [((f 25), .inl (cI, 41, .inl bss)), ((f 26), .inl (cI, 41, .inl wts)), ((f 27), .inl (cZ, 41, .inl snd)), ((f 28), .inl (cI, 41, .inl nbr))]) (em_runV (As := [.int (nI 1), .long (wof 2 2), .long (wof 2 21)]) (rest := []) ⟨hx, hb, hml, hown, hG⟩ (mo_overwrite l D cI cL cZ cC f h0 tn rm ln lx at_ bd fs dp on os bn df th mb mo_ (ev - 1) ss so v rs pt ot cl one two spn trm Gc 1 (wof 2 2) (wof 2 21) _ (by omega) (by omega) (by omega) hHG (okh_con 2 (by decide) (by decide)) (okh_con 21 (by decide) (by decide)) hsp2 hnt) (cwV 3 hG (gd_V k_1592 k_1594 k_94 k_116 k_1595) rfl rfl rfl (by decide +kernel) ⟨Nat.le_of_ble_eq_true rfl, Nat.le_of_ble_eq_true rfl⟩) (tw_V (q0 := 0) hP hD hK hE hst hS rfl rfl [0, 1, 2, 7, 8] rfl (by decide)) rfl rfl hl.1 rfl (lv_room (Nat.le_of_ble_eq_true rfl)) d_MO_goesOn_221 ⟨Nat.le_of_ble_eq_true rfl, Nat.le_of_ble_eq_true rfl⟩) hP hD hS hA [0, 1, 2, 7, 8] [3, 4, 5, 6] rfl rfl (by decide) (by decide) (fun v u H locs hok hP hD hS => ?_) (fun x C u H locs hbad hxx hP hD hS => ?_)
              · skip
                obtain ⟨tp_43, lk_44, ss_45, one_46, two_47⟩ := u
                obtain ⟨rfl, hp_49⟩ := hok
                obtain ⟨hHG_50, htp_51, hlk_52, hss_53⟩ : (HG df Gc trm one_46 two_47) ∧ (tp_43 + 1 = mb + 1) ∧ (lk_44 = (wof 2 2)) ∧ (ss_45 = ss + 1) := hp_49
                have hP : va_P D classes [((f 25), .inl (cI, 41, .inl bss)), ((f 26), .inl (cI, 41, .inl wts)), ((f 27), .inl (cZ, 41, .inl snd)), ((f 28), .inl (cI, 41, .inl nbr)), (h0, .inr (8, mS f tn rm ln lx at_ bd fs dp on os bn df th tp_43 mo_ (ev - 1) ss_45 so lk_44 rs pt ot cl)), ((f 20), .inl (cL, 400, .inr (.inl one_46))), ((f 21), .inl (cL, 400, .inr (.inl two_47))), ((f 24), .inl (cI, 150, .inl spn)), ((f 18), .inl (cL, 9, .inr (.inl trm)))] H := hP
                have hD : va_D A [((f 25), .inl (cI, 41, .inl bss)), ((f 26), .inl (cI, 41, .inl wts)), ((f 27), .inl (cZ, 41, .inl snd)), ((f 28), .inl (cI, 41, .inl nbr)), (h0, .inr (8, mS f tn rm ln lx at_ bd fs dp on os bn df th tp_43 mo_ (ev - 1) ss_45 so lk_44 rs pt ot cl)), ((f 20), .inl (cL, 400, .inr (.inl one_46))), ((f 21), .inl (cL, 400, .inr (.inl two_47))), ((f 24), .inl (cI, 150, .inl spn)), ((f 18), .inl (cL, 9, .inr (.inl trm)))] := hD
                refine W.eq (g2 := F0 m 224 ls []) rfl ?_
                refine lv_goto (tgt := 290) hx hb d_MO_goesOn_224 (by decide) ?_
                exact em_vret hx hb hr hlocks hP hD hK hS (ev - 1, tp_43, lk_44, ss_45, so, one_46, two_47, bss, wts, snd, nbr) [4, 5, 6, 0, 1, 2, 3, 7, 8] (by decide) rfl ⟨rfl, ⟨hsnd, (show MI df Gc trm one_46 two_47 spn tp_43 lk_44 rs pt from ⟨hHG_50, (by rw [hlk_52]; exact (okh_con 2 (by decide) (by decide))), hrs, (by omega), (fun k hk => hsp k (by omega))⟩), (show (ev - 1) ≤ 40 from (by first | assumption | omega | exact Or.inl rfl)), (show me bss wts (ev - 1) tp_43 0 from (hsl.mono (by omega))), (show ((ss_45 = ss + 1 ∧ so = so) ∨ (ss_45 = ss ∧ ¬ so = 0) ∨ (ss_45 = ss ∧ so = so ∧ (ev - 1) = ev ∧ fz snd (ev - 1) + 1 = fz snd ev)) from (Or.inl ⟨hss_53, rfl⟩))⟩⟩ d_MO_goesOn_290
              · skip
                exact hbad.elim
            · skip
              have hq_55 : ¬ _ := fun h => hb_41 ((lg_cmp_eq _ _).mpr h)
              refine lv_aload_n hx hb d_MO_goesOn_193 rfl (lv_at hl 2 rfl) ?_
              refine lv_iconst (v := 2) hx hb d_MO_goesOn_194 (by decide) ?_
              refine va_put (D := D) (ci := 8) (v := .int 2) (ty := .int) (C := rn_MO) (T := fl_MO) (N := 55) hx hb hG in_MO tt_MO tk_MO nn_MO hown hK hP hD hS 0 rfl rfl 42 (by decide) (hG _ k_1233) (fun _ h9 => h9) rfl (by decide +kernel) rfl rfl (Nat.le_of_ble_eq_true rfl) d_MO_goesOn_195 (fun H locs hP hD hS => ?_)
              have hP : va_P D classes [(h0, .inr (8, mS f tn rm ln lx at_ bd fs dp on os bn df th mb mo_ (ev - 1) ss 2 v rs pt ot cl)), ((f 20), .inl (cL, 400, .inr (.inl one))), ((f 21), .inl (cL, 400, .inr (.inl two))), ((f 25), .inl (cI, 41, .inl bss)), ((f 26), .inl (cI, 41, .inl wts)), ((f 27), .inl (cZ, 41, .inl snd)), ((f 28), .inl (cI, 41, .inl nbr)), ((f 24), .inl (cI, 150, .inl spn)), ((f 18), .inl (cL, 9, .inr (.inl trm)))] H := hP
              have hD : va_D A [(h0, .inr (8, mS f tn rm ln lx at_ bd fs dp on os bn df th mb mo_ (ev - 1) ss 2 v rs pt ot cl)), ((f 20), .inl (cL, 400, .inr (.inl one))), ((f 21), .inl (cL, 400, .inr (.inl two))), ((f 25), .inl (cI, 41, .inl bss)), ((f 26), .inl (cI, 41, .inl wts)), ((f 27), .inl (cZ, 41, .inl snd)), ((f 28), .inl (cI, 41, .inl nbr)), ((f 24), .inl (cI, 150, .inl spn)), ((f 18), .inl (cL, 9, .inr (.inl trm)))] := hD
              refine lv_goto (tgt := 290) hx hb d_MO_goesOn_198 (by decide) ?_
              exact em_vret hx hb hr hlocks hP hD hK hS (ev - 1, mb, v, ss, 2, one, two, bss, wts, snd, nbr) [0, 1, 2, 3, 4, 5, 6, 7, 8] (by decide) rfl ⟨rfl, ⟨hsnd, (show MI df Gc trm one two spn mb v rs pt from ⟨hHG, hv, hrs, (by omega), (fun k hk => hsp k (by omega))⟩), (show (ev - 1) ≤ 40 from (by first | assumption | omega | exact Or.inl rfl)), (show me bss wts (ev - 1) mb 0 from (hsl.mono (by omega))), (show ((ss = ss + 1 ∧ 2 = so) ∨ (ss = ss ∧ ¬ 2 = 0) ∨ (ss = ss ∧ 2 = so ∧ (ev - 1) = ev ∧ fz snd (ev - 1) + 1 = fz snd ev)) from (Or.inr (Or.inl ⟨rfl, by decide⟩)))⟩⟩ d_MO_goesOn_290
        · skip
          have hn_56 : wa = 19 := (nI_eq (a := wa) (b := 19) (by omega) (by omega)).mp hb_36
          refine lv_iload_n hx hb d_MO_goesOn_134 rfl (lv_at hl 4 rfl) ?_
          refine lv_if_ne (tgt := 146) hx hb d_MO_goesOn_135 (by decide) (fun hbr => absurd (by decide) hbr) (fun hbr => ?_)
          refine lv_aload_n hx hb d_MO_goesOn_138 rfl (lv_at hl 2 rfl) ?_
          refine lv_iconst (v := 2) hx hb d_MO_goesOn_139 (by decide) ?_
          refine va_put (D := D) (ci := 8) (v := .int 2) (ty := .int) (C := rn_MO) (T := fl_MO) (N := 55) hx hb hG in_MO tt_MO tk_MO nn_MO hown hK hP hD hS 0 rfl rfl 42 (by decide) (hG _ k_1233) (fun _ h9 => h9) rfl (by decide +kernel) rfl rfl (Nat.le_of_ble_eq_true rfl) d_MO_goesOn_140 (fun H locs hP hD hS => ?_)
          have hP : va_P D classes [(h0, .inr (8, mS f tn rm ln lx at_ bd fs dp on os bn df th mb mo_ (ev - 1) ss 2 v rs pt ot cl)), ((f 20), .inl (cL, 400, .inr (.inl one))), ((f 21), .inl (cL, 400, .inr (.inl two))), ((f 25), .inl (cI, 41, .inl bss)), ((f 26), .inl (cI, 41, .inl wts)), ((f 27), .inl (cZ, 41, .inl snd)), ((f 28), .inl (cI, 41, .inl nbr)), ((f 24), .inl (cI, 150, .inl spn)), ((f 18), .inl (cL, 9, .inr (.inl trm)))] H := hP
          have hD : va_D A [(h0, .inr (8, mS f tn rm ln lx at_ bd fs dp on os bn df th mb mo_ (ev - 1) ss 2 v rs pt ot cl)), ((f 20), .inl (cL, 400, .inr (.inl one))), ((f 21), .inl (cL, 400, .inr (.inl two))), ((f 25), .inl (cI, 41, .inl bss)), ((f 26), .inl (cI, 41, .inl wts)), ((f 27), .inl (cZ, 41, .inl snd)), ((f 28), .inl (cI, 41, .inl nbr)), ((f 24), .inl (cI, 150, .inl spn)), ((f 18), .inl (cL, 9, .inr (.inl trm)))] := hD
          refine lv_goto (tgt := 290) hx hb d_MO_goesOn_143 (by decide) ?_
          exact em_vret hx hb hr hlocks hP hD hK hS (ev - 1, mb, v, ss, 2, one, two, bss, wts, snd, nbr) [0, 1, 2, 3, 4, 5, 6, 7, 8] (by decide) rfl ⟨rfl, ⟨hsnd, (show MI df Gc trm one two spn mb v rs pt from ⟨hHG, hv, hrs, (by omega), (fun k hk => hsp k (by omega))⟩), (show (ev - 1) ≤ 40 from (by first | assumption | omega | exact Or.inl rfl)), (show me bss wts (ev - 1) mb 0 from (hsl.mono (by omega))), (show ((ss = ss + 1 ∧ 2 = so) ∨ (ss = ss ∧ ¬ 2 = 0) ∨ (ss = ss ∧ 2 = so ∧ (ev - 1) = ev ∧ fz snd (ev - 1) + 1 = fz snd ev)) from (Or.inr (Or.inl ⟨rfl, by decide⟩)))⟩⟩ d_MO_goesOn_290
    · skip
      have hn_57 : wa = 10 := (nI_eq (a := wa) (b := 10) (by omega) (by omega)).mp hb_31
      refine lv_lload_n hx hb d_MO_goesOn_69 rfl (lv_at hl 3 rfl) ?_
      refine em_call (wr := [(h0, .inr (8, mS f tn rm ln lx at_ bd fs dp on os bn df th mb mo_ (ev - 1) ss so v rs pt ot cl)), ((f 20), .inl (cL, 400, .inr (.inl one))), ((f 21), .inl (cL, 400, .inr (.inl two))), ((f 25), .inl (cI, 41, .inl bss)), ((f 26), .inl (cI, 41, .inl wts)), ((f 27), .inl (cZ, 41, .inl snd)), ((f 28), .inl (cI, 41, .inl nbr)), ((f 24), .inl (cI, 150, .inl spn)), ((f 18), .inl (cL, 9, .inr (.inl trm)))]) (em_runS (As := [.long v]) (rest := []) ⟨hx, hb, hml, hown, hG⟩ (mo_truth l D cI cL cZ cC v _  hnt) (cwS 1 hG (gd_S k_1589 k_1590 k_116 k_1591) rfl rfl rfl (by decide +kernel) ⟨Nat.le_of_ble_eq_true rfl, Nat.le_of_ble_eq_true rfl⟩) (tw_S hP hD hK hE hst hS [] rfl (by decide)) rfl rfl hl.1 rfl (lv_room (Nat.le_of_ble_eq_true rfl)) d_MO_goesOn_70 ⟨Nat.le_of_ble_eq_true rfl, Nat.le_of_ble_eq_true rfl⟩) hP hD hS hA [] [0, 1, 2, 3, 4, 5, 6, 7, 8] rfl rfl (by decide) (by decide) (fun v u H locs hok hP hD hS => ?_) (fun x C u H locs hbad hxx hP hD hS => ?_)
      · skip
        obtain ⟨r_58, rfl, hp_59⟩ := hok
        have hP : va_P D classes [(h0, .inr (8, mS f tn rm ln lx at_ bd fs dp on os bn df th mb mo_ (ev - 1) ss so v rs pt ot cl)), ((f 20), .inl (cL, 400, .inr (.inl one))), ((f 21), .inl (cL, 400, .inr (.inl two))), ((f 25), .inl (cI, 41, .inl bss)), ((f 26), .inl (cI, 41, .inl wts)), ((f 27), .inl (cZ, 41, .inl snd)), ((f 28), .inl (cI, 41, .inl nbr)), ((f 24), .inl (cI, 150, .inl spn)), ((f 18), .inl (cL, 9, .inr (.inl trm)))] H := hP
        have hD : va_D A [(h0, .inr (8, mS f tn rm ln lx at_ bd fs dp on os bn df th mb mo_ (ev - 1) ss so v rs pt ot cl)), ((f 20), .inl (cL, 400, .inr (.inl one))), ((f 21), .inl (cL, 400, .inr (.inl two))), ((f 25), .inl (cI, 41, .inl bss)), ((f 26), .inl (cI, 41, .inl wts)), ((f 27), .inl (cZ, 41, .inl snd)), ((f 28), .inl (cI, 41, .inl nbr)), ((f 24), .inl (cI, 150, .inl spn)), ((f 18), .inl (cL, 9, .inr (.inl trm)))] := hD
        rcases hp_59 with rfl | rfl
        · skip
          refine W.eq (g2 := F0 m 73 ls [.int 0]) rfl ?_
          refine lv_if_eq (tgt := 81) hx hb d_MO_goesOn_73 (by decide) (fun hbr => ?_) (fun hbr => absurd (by decide) hbr)
          refine lv_aload_n hx hb d_MO_goesOn_81 rfl (lv_at hl 2 rfl) ?_
          refine lv_iconst (v := 2) hx hb d_MO_goesOn_82 (by decide) ?_
          refine va_put (D := D) (ci := 8) (v := .int 2) (ty := .int) (C := rn_MO) (T := fl_MO) (N := 55) hx hb hG in_MO tt_MO tk_MO nn_MO hown hK hP hD hS 0 rfl rfl 42 (by decide) (hG _ k_1233) (fun _ h9 => h9) rfl (by decide +kernel) rfl rfl (Nat.le_of_ble_eq_true rfl) d_MO_goesOn_83 (fun H locs hP hD hS => ?_)
          have hP : va_P D classes [(h0, .inr (8, mS f tn rm ln lx at_ bd fs dp on os bn df th mb mo_ (ev - 1) ss 2 v rs pt ot cl)), ((f 20), .inl (cL, 400, .inr (.inl one))), ((f 21), .inl (cL, 400, .inr (.inl two))), ((f 25), .inl (cI, 41, .inl bss)), ((f 26), .inl (cI, 41, .inl wts)), ((f 27), .inl (cZ, 41, .inl snd)), ((f 28), .inl (cI, 41, .inl nbr)), ((f 24), .inl (cI, 150, .inl spn)), ((f 18), .inl (cL, 9, .inr (.inl trm)))] H := hP
          have hD : va_D A [(h0, .inr (8, mS f tn rm ln lx at_ bd fs dp on os bn df th mb mo_ (ev - 1) ss 2 v rs pt ot cl)), ((f 20), .inl (cL, 400, .inr (.inl one))), ((f 21), .inl (cL, 400, .inr (.inl two))), ((f 25), .inl (cI, 41, .inl bss)), ((f 26), .inl (cI, 41, .inl wts)), ((f 27), .inl (cZ, 41, .inl snd)), ((f 28), .inl (cI, 41, .inl nbr)), ((f 24), .inl (cI, 150, .inl spn)), ((f 18), .inl (cL, 9, .inr (.inl trm)))] := hD
          refine lv_goto (tgt := 290) hx hb d_MO_goesOn_86 (by decide) ?_
          exact em_vret hx hb hr hlocks hP hD hK hS (ev - 1, mb, v, ss, 2, one, two, bss, wts, snd, nbr) [0, 1, 2, 3, 4, 5, 6, 7, 8] (by decide) rfl ⟨rfl, ⟨hsnd, (show MI df Gc trm one two spn mb v rs pt from ⟨hHG, hv, hrs, (by omega), (fun k hk => hsp k (by omega))⟩), (show (ev - 1) ≤ 40 from (by first | assumption | omega | exact Or.inl rfl)), (show me bss wts (ev - 1) mb 0 from (hsl.mono (by omega))), (show ((ss = ss + 1 ∧ 2 = so) ∨ (ss = ss ∧ ¬ 2 = 0) ∨ (ss = ss ∧ 2 = so ∧ (ev - 1) = ev ∧ fz snd (ev - 1) + 1 = fz snd ev)) from (Or.inr (Or.inl ⟨rfl, by decide⟩)))⟩⟩ d_MO_goesOn_290
        · skip
          refine W.eq (g2 := F0 m 73 ls [.int 1]) rfl ?_
          refine lv_if_eq (tgt := 81) hx hb d_MO_goesOn_73 (by decide) (fun hbr => absurd hbr (by decide)) (fun hbr => ?_)
          refine lv_iload hx hb d_MO_goesOn_76 (lv_at hl 7 rfl) ?_
          refine lv_if_eq (tgt := 89) hx hb d_MO_goesOn_78 (by decide) (fun hbr => absurd hbr (by decide)) (fun hbr => ?_)
          refine lv_aload_n hx hb d_MO_goesOn_81 rfl (lv_at hl 2 rfl) ?_
          refine lv_iconst (v := 2) hx hb d_MO_goesOn_82 (by decide) ?_
          refine va_put (D := D) (ci := 8) (v := .int 2) (ty := .int) (C := rn_MO) (T := fl_MO) (N := 55) hx hb hG in_MO tt_MO tk_MO nn_MO hown hK hP hD hS 0 rfl rfl 42 (by decide) (hG _ k_1233) (fun _ h9 => h9) rfl (by decide +kernel) rfl rfl (Nat.le_of_ble_eq_true rfl) d_MO_goesOn_83 (fun H locs hP hD hS => ?_)
          have hP : va_P D classes [(h0, .inr (8, mS f tn rm ln lx at_ bd fs dp on os bn df th mb mo_ (ev - 1) ss 2 v rs pt ot cl)), ((f 20), .inl (cL, 400, .inr (.inl one))), ((f 21), .inl (cL, 400, .inr (.inl two))), ((f 25), .inl (cI, 41, .inl bss)), ((f 26), .inl (cI, 41, .inl wts)), ((f 27), .inl (cZ, 41, .inl snd)), ((f 28), .inl (cI, 41, .inl nbr)), ((f 24), .inl (cI, 150, .inl spn)), ((f 18), .inl (cL, 9, .inr (.inl trm)))] H := hP
          have hD : va_D A [(h0, .inr (8, mS f tn rm ln lx at_ bd fs dp on os bn df th mb mo_ (ev - 1) ss 2 v rs pt ot cl)), ((f 20), .inl (cL, 400, .inr (.inl one))), ((f 21), .inl (cL, 400, .inr (.inl two))), ((f 25), .inl (cI, 41, .inl bss)), ((f 26), .inl (cI, 41, .inl wts)), ((f 27), .inl (cZ, 41, .inl snd)), ((f 28), .inl (cI, 41, .inl nbr)), ((f 24), .inl (cI, 150, .inl spn)), ((f 18), .inl (cL, 9, .inr (.inl trm)))] := hD
          refine lv_goto (tgt := 290) hx hb d_MO_goesOn_86 (by decide) ?_
          exact em_vret hx hb hr hlocks hP hD hK hS (ev - 1, mb, v, ss, 2, one, two, bss, wts, snd, nbr) [0, 1, 2, 3, 4, 5, 6, 7, 8] (by decide) rfl ⟨rfl, ⟨hsnd, (show MI df Gc trm one two spn mb v rs pt from ⟨hHG, hv, hrs, (by omega), (fun k hk => hsp k (by omega))⟩), (show (ev - 1) ≤ 40 from (by first | assumption | omega | exact Or.inl rfl)), (show me bss wts (ev - 1) mb 0 from (hsl.mono (by omega))), (show ((ss = ss + 1 ∧ 2 = so) ∨ (ss = ss ∧ ¬ 2 = 0) ∨ (ss = ss ∧ 2 = so ∧ (ev - 1) = ev ∧ fz snd (ev - 1) + 1 = fz snd ev)) from (Or.inr (Or.inl ⟨rfl, by decide⟩)))⟩⟩ d_MO_goesOn_290
      · skip
        exact hbad.elim
