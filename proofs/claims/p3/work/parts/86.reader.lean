set_option maxHeartbeats 8000000 in
set_option maxRecDepth 100000 in
theorem mo_isSign (l : Launch) (D : va_G) (cI cL cZ cC : ClassId) (f : Nat → Nat) (h0 : Nat) (tn : Int32) (rm : Nat) (ln : Nat) (lx : Nat) (at_ : Nat) (bd : Int32) (fs : Nat) (dp : Nat) (on : Nat) (os : Nat) (bn : Nat) (df : Nat) (th : Int32) (tp : Nat) (mo_ : Int32) (ev : Nat) (ss : Int32) (so : Int32) (lk : Int64) (rs : Int64) (pt : Int32) (ot : Nat) (cl : Int32) (ki : Nat → Int32) (wh : Nat → Int64) (c_ : Int32) (sz : Nat) (hat1 : at_ ≤ 100) (hnt : l.stackTraces = false) : em_Met l y_MO_isSign (wz y_MO_isSign b_MO_isSign 2 (some .boolean)) ({ frames := 0, cells := 0, slots := 0, locals := 0 }) (va_Pc [.ref h0, .int c_] (tw_pre D (tys4 cI cL cZ cC) [(h0, .inr (8, mS f tn rm ln lx at_ bd fs dp on os bn df th tp mo_ ev ss so lk rs pt ot cl)), ((f 1), .inl (cI, 101, .inl ki)), ((f 2), .inl (cL, 101, .inr (.inl wh)))] sz)) D (tys4 cI cL cZ cC) (va_A [(h0, .inr (8, mS f tn rm ln lx at_ bd fs dp on os bn df th tp mo_ ev ss so lk rs pt ot cl)), ((f 1), .inl (cI, 101, .inl ki)), ((f 2), .inl (cL, 101, .inr (.inl wh)))] sz) (fun (_ : Unit) => [(h0, .inr (8, mS f tn rm ln lx at_ bd fs dp on os bn df th tp mo_ ev ss so lk rs pt ot cl)), ((f 1), .inl (cI, 101, .inl ki)), ((f 2), .inl (cL, 101, .inr (.inl wh)))]) (fun v (_ : Unit) => ∃ r : Int32, v = some (.int r) ∧ ((((r = 1 ∧ sgn ki wh at_ c_) ∨ (r = 0 ∧ ¬ sgn ki wh at_ c_))))) (fun C (_ : Unit) => False) 0 0 := by
  refine em_Met.ofW (cc := b_MO_isSign) (maxL := 2) (ret := (some .boolean)) (by decide) rfl ?_
  intro p e s m args below meth c s₁ B hml hv hno
  obtain ⟨rfl, ⟨hsz, hP, hK, hD0⟩, hE⟩ := hv
  have hx := B.exec
  have hb := B.bytes
  have hr := B.returns
  have hts := atoms_spec (ws := wz y_MO_isSign b_MO_isSign 2 (some .boolean)) B.pre
  have hG := wz_G hts
  have hown : s.vm.findClass rn_MO = some m.cls := findClass_of_methodNamed B.named
  have hlocks := B.notSynchronized
  subst hsz
  have hD := hD0.self (sz := s.heap.size)
  have hst := tw_st hP
  generalize hAe : va_A [(h0, .inr (8, mS f tn rm ln lx at_ bd fs dp on os bn df th tp mo_ ev ss so lk rs pt ot cl)), ((f 1), .inl (cI, 101, .inl ki)), ((f 2), .inl (cL, 101, .inr (.inl wh)))] s.heap.size = A at hD hst ⊢
  have hA : ∀ q : Nat, s.heap.size ≤ q → A q := fun q h => by rw [← hAe]; exact Or.inr h
  have hS : va_S A s.heap s.heap [] := va_S.rf
  have hl := lv_entry ([.ref h0, .int c_]) (n := 2) (Nat.le_of_ble_eq_true rfl)
  rw [lg_entry_eq]
  generalize (lg_sl ([.ref h0, .int c_]) ++ List.replicate (2 - (lg_sl ([.ref h0, .int c_])).length) Slot.unset).toArray = ls at hl ⊢
  have hl : lv_has ls 2 [(0, .ref h0), (1, .int c_)] := hl
  refine lv_aload_n hx hb d_MO_isSign_0 rfl (lv_at hl 0 rfl) ?_
  refine va_get (D := D) (ci := 8) (v := .ref (f 1)) (C := rn_MO) (T := fl_MO) (N := 55) hx hb hG in_MO hown hK hP 0 rfl rfl 7 (by decide) (hG _ k_1198) (fun _ h9 => h9) rfl d_MO_isSign_1 ?_
  refine lv_aload_n hx hb d_MO_isSign_4 rfl (lv_at hl 0 rfl) ?_
  refine va_get (D := D) (ci := 8) (v := .int (nI at_)) (C := rn_MO) (T := fl_MO) (N := 55) hx hb hG in_MO hown hK hP 0 rfl rfl 5 (by decide) (hG _ k_1196) (fun _ h9 => h9) rfl d_MO_isSign_5 ?_
  refine va_iald hx hb hK hP 1 0 rfl rfl (vp_in_nI (n := at_) (N := 101) (by omega) (by omega)) d_MO_isSign_8 ?_
  refine W.eq (g2 := F0 m 9 ls [.int (ki at_)]) (by rw [nI_clamp (n := at_) (by omega)]) ?_
  refine lv_iconst (v := 2) hx hb d_MO_isSign_9 (by decide) ?_
  refine lv_icmp_ne (tgt := 32) hx hb d_MO_isSign_10 (by decide) (fun hb_1 => ?_) (fun hb_1 => ?_)
  · skip
    refine lv_iconst (v := 0) hx hb d_MO_isSign_32 (by decide) ?_
    exact em_zret hx hb hr hlocks rfl hP hD hK hS () [0, 1, 2] (by decide) rfl ⟨_, rfl, (show (((0 : Int32) = 1 ∧ sgn ki wh at_ c_) ∨ ((0 : Int32) = 0 ∧ ¬ sgn ki wh at_ c_)) from (Or.inr ⟨rfl, (fun q => absurd q.1 hb_1)⟩))⟩ d_MO_isSign_33
  · skip
    refine lv_aload_n hx hb d_MO_isSign_13 rfl (lv_at hl 0 rfl) ?_
    refine va_get (D := D) (ci := 8) (v := .ref (f 2)) (C := rn_MO) (T := fl_MO) (N := 55) hx hb hG in_MO hown hK hP 0 rfl rfl 8 (by decide) (hG _ k_1199) (fun _ h9 => h9) rfl d_MO_isSign_14 ?_
    refine lv_aload_n hx hb d_MO_isSign_17 rfl (lv_at hl 0 rfl) ?_
    refine va_get (D := D) (ci := 8) (v := .int (nI at_)) (C := rn_MO) (T := fl_MO) (N := 55) hx hb hG in_MO hown hK hP 0 rfl rfl 5 (by decide) (hG _ k_1196) (fun _ h9 => h9) rfl d_MO_isSign_18 ?_
    refine va_lald hx hb hK hP 2 1 rfl rfl (vp_in_nI (n := at_) (N := 101) (by omega) (by omega)) d_MO_isSign_21 ?_
    refine W.eq (g2 := F0 m 22 ls [.long (wh at_)]) (by rw [nI_clamp (n := at_) (by omega)]) ?_
    refine lv_iload_n hx hb d_MO_isSign_22 rfl (lv_at hl 1 rfl) ?_
    refine lv_i2l hx hb d_MO_isSign_23 rfl ?_
    refine W.lcmp hx hb d_MO_isSign_24 ?_
    refine lv_if_ne (tgt := 32) hx hb d_MO_isSign_25 (by decide) (fun hb_2 => ?_) (fun hb_2 => ?_)
    · skip
      have hq_3 : ¬ _ := fun h => hb_2 ((lg_cmp_eq _ _).mpr h)
      refine lv_iconst (v := 0) hx hb d_MO_isSign_32 (by decide) ?_
      exact em_zret hx hb hr hlocks rfl hP hD hK hS () [0, 1, 2] (by decide) rfl ⟨_, rfl, (show (((0 : Int32) = 1 ∧ sgn ki wh at_ c_) ∨ ((0 : Int32) = 0 ∧ ¬ sgn ki wh at_ c_)) from (Or.inr ⟨rfl, (fun q => absurd q.2 hq_3)⟩))⟩ d_MO_isSign_33
    · skip
      have hq_4 := (lg_cmp_eq _ _).mp hb_2
      refine lv_iconst (v := 1) hx hb d_MO_isSign_28 (by decide) ?_
      refine lv_goto (tgt := 33) hx hb d_MO_isSign_29 (by decide) ?_
      exact em_zret hx hb hr hlocks rfl hP hD hK hS () [0, 1, 2] (by decide) rfl ⟨_, rfl, (show (((1 : Int32) = 1 ∧ sgn ki wh at_ c_) ∨ ((1 : Int32) = 0 ∧ ¬ sgn ki wh at_ c_)) from (Or.inl ⟨rfl, ⟨hb_1, hq_4⟩⟩))⟩ d_MO_isSign_33
set_option maxHeartbeats 8000000 in
set_option maxRecDepth 100000 in
theorem mo_isWord (l : Launch) (D : va_G) (cI cL cZ cC : ClassId) (f : Nat → Nat) (h0 : Nat) (tn : Int32) (rm : Nat) (ln : Nat) (lx : Nat) (at_ : Nat) (bd : Int32) (fs : Nat) (dp : Nat) (on : Nat) (os : Nat) (bn : Nat) (df : Nat) (th : Int32) (tp : Nat) (mo_ : Int32) (ev : Nat) (ss : Int32) (so : Int32) (lk : Int64) (rs : Int64) (pt : Int32) (ot : Nat) (cl : Int32) (ki : Nat → Int32) (wh : Nat → Int64) (w_ : Int64) (sz : Nat) (hat1 : at_ ≤ 100) (hnt : l.stackTraces = false) : em_Met l y_MO_isWord (wz y_MO_isWord b_MO_isWord 3 (some .boolean)) ({ frames := 0, cells := 0, slots := 0, locals := 0 }) (va_Pc [.ref h0, .long w_] (tw_pre D (tys4 cI cL cZ cC) [(h0, .inr (8, mS f tn rm ln lx at_ bd fs dp on os bn df th tp mo_ ev ss so lk rs pt ot cl)), ((f 1), .inl (cI, 101, .inl ki)), ((f 2), .inl (cL, 101, .inr (.inl wh)))] sz)) D (tys4 cI cL cZ cC) (va_A [(h0, .inr (8, mS f tn rm ln lx at_ bd fs dp on os bn df th tp mo_ ev ss so lk rs pt ot cl)), ((f 1), .inl (cI, 101, .inl ki)), ((f 2), .inl (cL, 101, .inr (.inl wh)))] sz) (fun (_ : Unit) => [(h0, .inr (8, mS f tn rm ln lx at_ bd fs dp on os bn df th tp mo_ ev ss so lk rs pt ot cl)), ((f 1), .inl (cI, 101, .inl ki)), ((f 2), .inl (cL, 101, .inr (.inl wh)))]) (fun v (_ : Unit) => ∃ r : Int32, v = some (.int r) ∧ ((((r = 1 ∧ isWd ki wh at_ w_) ∨ (r = 0 ∧ ¬ isWd ki wh at_ w_))))) (fun C (_ : Unit) => False) 0 0 := by
  refine em_Met.ofW (cc := b_MO_isWord) (maxL := 3) (ret := (some .boolean)) (by decide) rfl ?_
  intro p e s m args below meth c s₁ B hml hv hno
  obtain ⟨rfl, ⟨hsz, hP, hK, hD0⟩, hE⟩ := hv
  have hx := B.exec
  have hb := B.bytes
  have hr := B.returns
  have hts := atoms_spec (ws := wz y_MO_isWord b_MO_isWord 3 (some .boolean)) B.pre
  have hG := wz_G hts
  have hown : s.vm.findClass rn_MO = some m.cls := findClass_of_methodNamed B.named
  have hlocks := B.notSynchronized
  subst hsz
  have hD := hD0.self (sz := s.heap.size)
  have hst := tw_st hP
  generalize hAe : va_A [(h0, .inr (8, mS f tn rm ln lx at_ bd fs dp on os bn df th tp mo_ ev ss so lk rs pt ot cl)), ((f 1), .inl (cI, 101, .inl ki)), ((f 2), .inl (cL, 101, .inr (.inl wh)))] s.heap.size = A at hD hst ⊢
  have hA : ∀ q : Nat, s.heap.size ≤ q → A q := fun q h => by rw [← hAe]; exact Or.inr h
  have hS : va_S A s.heap s.heap [] := va_S.rf
  have hl := lv_entry ([.ref h0, .long w_]) (n := 3) (Nat.le_of_ble_eq_true rfl)
  rw [lg_entry_eq]
  generalize (lg_sl ([.ref h0, .long w_]) ++ List.replicate (3 - (lg_sl ([.ref h0, .long w_])).length) Slot.unset).toArray = ls at hl ⊢
  have hl : lv_has ls 3 [(0, .ref h0), (1, .long w_)] := hl
  refine lv_aload_n hx hb d_MO_isWord_0 rfl (lv_at hl 0 rfl) ?_
  refine va_get (D := D) (ci := 8) (v := .ref (f 1)) (C := rn_MO) (T := fl_MO) (N := 55) hx hb hG in_MO hown hK hP 0 rfl rfl 7 (by decide) (hG _ k_1198) (fun _ h9 => h9) rfl d_MO_isWord_1 ?_
  refine lv_aload_n hx hb d_MO_isWord_4 rfl (lv_at hl 0 rfl) ?_
  refine va_get (D := D) (ci := 8) (v := .int (nI at_)) (C := rn_MO) (T := fl_MO) (N := 55) hx hb hG in_MO hown hK hP 0 rfl rfl 5 (by decide) (hG _ k_1196) (fun _ h9 => h9) rfl d_MO_isWord_5 ?_
  refine va_iald hx hb hK hP 1 0 rfl rfl (vp_in_nI (n := at_) (N := 101) (by omega) (by omega)) d_MO_isWord_8 ?_
  refine W.eq (g2 := F0 m 9 ls [.int (ki at_)]) (by rw [nI_clamp (n := at_) (by omega)]) ?_
  refine lv_if_ne (tgt := 30) hx hb d_MO_isWord_9 (by decide) (fun hb_1 => ?_) (fun hb_1 => ?_)
  · skip
    refine lv_iconst (v := 0) hx hb d_MO_isWord_30 (by decide) ?_
    exact em_zret hx hb hr hlocks rfl hP hD hK hS () [0, 1, 2] (by decide) rfl ⟨_, rfl, (show (((0 : Int32) = 1 ∧ isWd ki wh at_ w_) ∨ ((0 : Int32) = 0 ∧ ¬ isWd ki wh at_ w_)) from (Or.inr ⟨rfl, (fun q => absurd q.1 hb_1)⟩))⟩ d_MO_isWord_31
  · skip
    refine lv_aload_n hx hb d_MO_isWord_12 rfl (lv_at hl 0 rfl) ?_
    refine va_get (D := D) (ci := 8) (v := .ref (f 2)) (C := rn_MO) (T := fl_MO) (N := 55) hx hb hG in_MO hown hK hP 0 rfl rfl 8 (by decide) (hG _ k_1199) (fun _ h9 => h9) rfl d_MO_isWord_13 ?_
    refine lv_aload_n hx hb d_MO_isWord_16 rfl (lv_at hl 0 rfl) ?_
    refine va_get (D := D) (ci := 8) (v := .int (nI at_)) (C := rn_MO) (T := fl_MO) (N := 55) hx hb hG in_MO hown hK hP 0 rfl rfl 5 (by decide) (hG _ k_1196) (fun _ h9 => h9) rfl d_MO_isWord_17 ?_
    refine va_lald hx hb hK hP 2 1 rfl rfl (vp_in_nI (n := at_) (N := 101) (by omega) (by omega)) d_MO_isWord_20 ?_
    refine W.eq (g2 := F0 m 21 ls [.long (wh at_)]) (by rw [nI_clamp (n := at_) (by omega)]) ?_
    refine lv_lload_n hx hb d_MO_isWord_21 rfl (lv_at hl 1 rfl) ?_
    refine W.lcmp hx hb d_MO_isWord_22 ?_
    refine lv_if_ne (tgt := 30) hx hb d_MO_isWord_23 (by decide) (fun hb_2 => ?_) (fun hb_2 => ?_)
    · skip
      have hq_3 : ¬ _ := fun h => hb_2 ((lg_cmp_eq _ _).mpr h)
      refine lv_iconst (v := 0) hx hb d_MO_isWord_30 (by decide) ?_
      exact em_zret hx hb hr hlocks rfl hP hD hK hS () [0, 1, 2] (by decide) rfl ⟨_, rfl, (show (((0 : Int32) = 1 ∧ isWd ki wh at_ w_) ∨ ((0 : Int32) = 0 ∧ ¬ isWd ki wh at_ w_)) from (Or.inr ⟨rfl, (fun q => absurd q.2 hq_3)⟩))⟩ d_MO_isWord_31
    · skip
      have hq_4 := (lg_cmp_eq _ _).mp hb_2
      refine lv_iconst (v := 1) hx hb d_MO_isWord_26 (by decide) ?_
      refine lv_goto (tgt := 31) hx hb d_MO_isWord_27 (by decide) ?_
      exact em_zret hx hb hr hlocks rfl hP hD hK hS () [0, 1, 2] (by decide) rfl ⟨_, rfl, (show (((1 : Int32) = 1 ∧ isWd ki wh at_ w_) ∨ ((1 : Int32) = 0 ∧ ¬ isWd ki wh at_ w_)) from (Or.inl ⟨rfl, ⟨hb_1, hq_4⟩⟩))⟩ d_MO_isWord_31
set_option maxHeartbeats 8000000 in
set_option maxRecDepth 100000 in
theorem mo_isName (l : Launch) (D : va_G) (cI cL cZ cC : ClassId) (f : Nat → Nat) (h0 : Nat) (tn : Int32) (rm : Nat) (ln : Nat) (lx : Nat) (at_ : Nat) (bd : Int32) (fs : Nat) (dp : Nat) (on : Nat) (os : Nat) (bn : Nat) (df : Nat) (th : Int32) (tp : Nat) (mo_ : Int32) (ev : Nat) (ss : Int32) (so : Int32) (lk : Int64) (rs : Int64) (pt : Int32) (ot : Nat) (cl : Int32) (ki : Nat → Int32) (wh : Nat → Int64) (sz : Nat) (hat1 : at_ ≤ 100) (hnt : l.stackTraces = false) : em_Met l y_MO_isName (wz y_MO_isName b_MO_isName 1 (some .boolean)) ({ frames := 0, cells := 0, slots := 0, locals := 0 }) (va_Pc [.ref h0] (tw_pre D (tys4 cI cL cZ cC) [(h0, .inr (8, mS f tn rm ln lx at_ bd fs dp on os bn df th tp mo_ ev ss so lk rs pt ot cl)), ((f 1), .inl (cI, 101, .inl ki)), ((f 2), .inl (cL, 101, .inr (.inl wh)))] sz)) D (tys4 cI cL cZ cC) (va_A [(h0, .inr (8, mS f tn rm ln lx at_ bd fs dp on os bn df th tp mo_ ev ss so lk rs pt ot cl)), ((f 1), .inl (cI, 101, .inl ki)), ((f 2), .inl (cL, 101, .inr (.inl wh)))] sz) (fun (_ : Unit) => [(h0, .inr (8, mS f tn rm ln lx at_ bd fs dp on os bn df th tp mo_ ev ss so lk rs pt ot cl)), ((f 1), .inl (cI, 101, .inl ki)), ((f 2), .inl (cL, 101, .inr (.inl wh)))]) (fun v (_ : Unit) => ∃ r : Int32, v = some (.int r) ∧ ((((r = 1 ∧ isNm ki wh at_) ∨ (r = 0 ∧ ¬ isNm ki wh at_))))) (fun C (_ : Unit) => False) 0 0 := by
  refine em_Met.ofW (cc := b_MO_isName) (maxL := 1) (ret := (some .boolean)) (by decide) rfl ?_
  intro p e s m args below meth c s₁ B hml hv hno
  obtain ⟨rfl, ⟨hsz, hP, hK, hD0⟩, hE⟩ := hv
  have hx := B.exec
  have hb := B.bytes
  have hr := B.returns
  have hts := atoms_spec (ws := wz y_MO_isName b_MO_isName 1 (some .boolean)) B.pre
  have hG := wz_G hts
  have hown : s.vm.findClass rn_MO = some m.cls := findClass_of_methodNamed B.named
  have hlocks := B.notSynchronized
  subst hsz
  have hD := hD0.self (sz := s.heap.size)
  have hst := tw_st hP
  generalize hAe : va_A [(h0, .inr (8, mS f tn rm ln lx at_ bd fs dp on os bn df th tp mo_ ev ss so lk rs pt ot cl)), ((f 1), .inl (cI, 101, .inl ki)), ((f 2), .inl (cL, 101, .inr (.inl wh)))] s.heap.size = A at hD hst ⊢
  have hA : ∀ q : Nat, s.heap.size ≤ q → A q := fun q h => by rw [← hAe]; exact Or.inr h
  have hS : va_S A s.heap s.heap [] := va_S.rf
  have hl := lv_entry ([.ref h0]) (n := 1) (Nat.le_of_ble_eq_true rfl)
  rw [lg_entry_eq]
  generalize (lg_sl ([.ref h0]) ++ List.replicate (1 - (lg_sl ([.ref h0])).length) Slot.unset).toArray = ls at hl ⊢
  have hl : lv_has ls 1 [(0, .ref h0)] := hl
  refine lv_aload_n hx hb d_MO_isName_0 rfl (lv_at hl 0 rfl) ?_
  refine va_get (D := D) (ci := 8) (v := .ref (f 1)) (C := rn_MO) (T := fl_MO) (N := 55) hx hb hG in_MO hown hK hP 0 rfl rfl 7 (by decide) (hG _ k_1198) (fun _ h9 => h9) rfl d_MO_isName_1 ?_
  refine lv_aload_n hx hb d_MO_isName_4 rfl (lv_at hl 0 rfl) ?_
  refine va_get (D := D) (ci := 8) (v := .int (nI at_)) (C := rn_MO) (T := fl_MO) (N := 55) hx hb hG in_MO hown hK hP 0 rfl rfl 5 (by decide) (hG _ k_1196) (fun _ h9 => h9) rfl d_MO_isName_5 ?_
  refine va_iald hx hb hK hP 1 0 rfl rfl (vp_in_nI (n := at_) (N := 101) (by omega) (by omega)) d_MO_isName_8 ?_
  refine W.eq (g2 := F0 m 9 ls [.int (ki at_)]) (by rw [nI_clamp (n := at_) (by omega)]) ?_
  refine lv_if_ne (tgt := 80) hx hb d_MO_isName_9 (by decide) (fun hb_1 => ?_) (fun hb_1 => ?_)
  · skip
    refine lv_iconst (v := 0) hx hb d_MO_isName_80 (by decide) ?_
    exact em_zret hx hb hr hlocks rfl hP hD hK hS () [0, 1, 2] (by decide) rfl ⟨_, rfl, (show (((0 : Int32) = 1 ∧ isNm ki wh at_) ∨ ((0 : Int32) = 0 ∧ ¬ isNm ki wh at_)) from (Or.inr ⟨rfl, (fun q => hb_1 q.1)⟩))⟩ d_MO_isName_81
  · skip
    refine lv_aload_n hx hb d_MO_isName_12 rfl (lv_at hl 0 rfl) ?_
    refine va_get (D := D) (ci := 8) (v := .ref (f 2)) (C := rn_MO) (T := fl_MO) (N := 55) hx hb hG in_MO hown hK hP 0 rfl rfl 8 (by decide) (hG _ k_1199) (fun _ h9 => h9) rfl d_MO_isName_13 ?_
    refine lv_aload_n hx hb d_MO_isName_16 rfl (lv_at hl 0 rfl) ?_
    refine va_get (D := D) (ci := 8) (v := .int (nI at_)) (C := rn_MO) (T := fl_MO) (N := 55) hx hb hG in_MO hown hK hP 0 rfl rfl 5 (by decide) (hG _ k_1196) (fun _ h9 => h9) rfl d_MO_isName_17 ?_
    refine va_lald hx hb hK hP 2 1 rfl rfl (vp_in_nI (n := at_) (N := 101) (by omega) (by omega)) d_MO_isName_20 ?_
    refine W.eq (g2 := F0 m 21 ls [.long (wh at_)]) (by rw [nI_clamp (n := at_) (by omega)]) ?_
    refine lv_ldc2 (v := 6710628) hx hb hown (hG _ k_1405) d_MO_isName_21 ?_
    refine W.lcmp hx hb d_MO_isName_24 ?_
    refine lv_if_eq (tgt := 80) hx hb d_MO_isName_25 (by decide) (fun hb_2 => ?_) (fun hb_2 => ?_)
    · skip
      have hq_3 := (lg_cmp_eq _ _).mp hb_2
      refine lv_iconst (v := 0) hx hb d_MO_isName_80 (by decide) ?_
      exact em_zret hx hb hr hlocks rfl hP hD hK hS () [0, 1, 2] (by decide) rfl ⟨_, rfl, (show (((0 : Int32) = 1 ∧ isNm ki wh at_) ∨ ((0 : Int32) = 0 ∧ ¬ isNm ki wh at_)) from (Or.inr ⟨rfl, (fun q => q.2.1 hq_3)⟩))⟩ d_MO_isName_81
    · skip
      have hq_4 : ¬ _ := fun h => hb_2 ((lg_cmp_eq _ _).mpr h)
      refine lv_aload_n hx hb d_MO_isName_28 rfl (lv_at hl 0 rfl) ?_
      refine va_get (D := D) (ci := 8) (v := .ref (f 2)) (C := rn_MO) (T := fl_MO) (N := 55) hx hb hG in_MO hown hK hP 0 rfl rfl 8 (by decide) (hG _ k_1199) (fun _ h9 => h9) rfl d_MO_isName_29 ?_
      refine lv_aload_n hx hb d_MO_isName_32 rfl (lv_at hl 0 rfl) ?_
      refine va_get (D := D) (ci := 8) (v := .int (nI at_)) (C := rn_MO) (T := fl_MO) (N := 55) hx hb hG in_MO hown hK hP 0 rfl rfl 5 (by decide) (hG _ k_1196) (fun _ h9 => h9) rfl d_MO_isName_33 ?_
      refine va_lald hx hb hK hP 2 1 rfl rfl (vp_in_nI (n := at_) (N := 101) (by omega) (by omega)) d_MO_isName_36 ?_
      refine W.eq (g2 := F0 m 37 ls [.long (wh at_)]) (by rw [nI_clamp (n := at_) (by omega)]) ?_
      refine lv_ldc2 (v := 26217) hx hb hown (hG _ k_1410) d_MO_isName_37 ?_
      refine W.lcmp hx hb d_MO_isName_40 ?_
      refine lv_if_eq (tgt := 80) hx hb d_MO_isName_41 (by decide) (fun hb_5 => ?_) (fun hb_5 => ?_)
      · skip
        have hq_6 := (lg_cmp_eq _ _).mp hb_5
        refine lv_iconst (v := 0) hx hb d_MO_isName_80 (by decide) ?_
        exact em_zret hx hb hr hlocks rfl hP hD hK hS () [0, 1, 2] (by decide) rfl ⟨_, rfl, (show (((0 : Int32) = 1 ∧ isNm ki wh at_) ∨ ((0 : Int32) = 0 ∧ ¬ isNm ki wh at_)) from (Or.inr ⟨rfl, (fun q => q.2.2.1 hq_6)⟩))⟩ d_MO_isName_81
      · skip
        have hq_7 : ¬ _ := fun h => hb_5 ((lg_cmp_eq _ _).mpr h)
        refine lv_aload_n hx hb d_MO_isName_44 rfl (lv_at hl 0 rfl) ?_
        refine va_get (D := D) (ci := 8) (v := .ref (f 2)) (C := rn_MO) (T := fl_MO) (N := 55) hx hb hG in_MO hown hK hP 0 rfl rfl 8 (by decide) (hG _ k_1199) (fun _ h9 => h9) rfl d_MO_isName_45 ?_
        refine lv_aload_n hx hb d_MO_isName_48 rfl (lv_at hl 0 rfl) ?_
        refine va_get (D := D) (ci := 8) (v := .int (nI at_)) (C := rn_MO) (T := fl_MO) (N := 55) hx hb hG in_MO hown hK hP 0 rfl rfl 5 (by decide) (hG _ k_1196) (fun _ h9 => h9) rfl d_MO_isName_49 ?_
        refine va_lald hx hb hK hP 2 1 rfl rfl (vp_in_nI (n := at_) (N := 101) (by omega) (by omega)) d_MO_isName_52 ?_
        refine W.eq (g2 := F0 m 53 ls [.long (wh at_)]) (by rw [nI_clamp (n := at_) (by omega)]) ?_
        refine lv_ldc2 (v := 1852139636) hx hb hown (hG _ k_1411) d_MO_isName_53 ?_
        refine W.lcmp hx hb d_MO_isName_56 ?_
        refine lv_if_eq (tgt := 80) hx hb d_MO_isName_57 (by decide) (fun hb_8 => ?_) (fun hb_8 => ?_)
        · skip
          have hq_9 := (lg_cmp_eq _ _).mp hb_8
          refine lv_iconst (v := 0) hx hb d_MO_isName_80 (by decide) ?_
          exact em_zret hx hb hr hlocks rfl hP hD hK hS () [0, 1, 2] (by decide) rfl ⟨_, rfl, (show (((0 : Int32) = 1 ∧ isNm ki wh at_) ∨ ((0 : Int32) = 0 ∧ ¬ isNm ki wh at_)) from (Or.inr ⟨rfl, (fun q => q.2.2.2.1 hq_9)⟩))⟩ d_MO_isName_81
        · skip
          have hq_10 : ¬ _ := fun h => hb_8 ((lg_cmp_eq _ _).mpr h)
          refine lv_aload_n hx hb d_MO_isName_60 rfl (lv_at hl 0 rfl) ?_
          refine va_get (D := D) (ci := 8) (v := .ref (f 2)) (C := rn_MO) (T := fl_MO) (N := 55) hx hb hG in_MO hown hK hP 0 rfl rfl 8 (by decide) (hG _ k_1199) (fun _ h9 => h9) rfl d_MO_isName_61 ?_
          refine lv_aload_n hx hb d_MO_isName_64 rfl (lv_at hl 0 rfl) ?_
          refine va_get (D := D) (ci := 8) (v := .int (nI at_)) (C := rn_MO) (T := fl_MO) (N := 55) hx hb hG in_MO hown hK hP 0 rfl rfl 5 (by decide) (hG _ k_1196) (fun _ h9 => h9) rfl d_MO_isName_65 ?_
          refine va_lald hx hb hK hP 2 1 rfl rfl (vp_in_nI (n := at_) (N := 101) (by omega) (by omega)) d_MO_isName_68 ?_
          refine W.eq (g2 := F0 m 69 ls [.long (wh at_)]) (by rw [nI_clamp (n := at_) (by omega)]) ?_
          refine lv_ldc2 (v := 1702063205) hx hb hown (hG _ k_1412) d_MO_isName_69 ?_
          refine W.lcmp hx hb d_MO_isName_72 ?_
          refine lv_if_eq (tgt := 80) hx hb d_MO_isName_73 (by decide) (fun hb_11 => ?_) (fun hb_11 => ?_)
          · skip
            have hq_12 := (lg_cmp_eq _ _).mp hb_11
            refine lv_iconst (v := 0) hx hb d_MO_isName_80 (by decide) ?_
            exact em_zret hx hb hr hlocks rfl hP hD hK hS () [0, 1, 2] (by decide) rfl ⟨_, rfl, (show (((0 : Int32) = 1 ∧ isNm ki wh at_) ∨ ((0 : Int32) = 0 ∧ ¬ isNm ki wh at_)) from (Or.inr ⟨rfl, (fun q => q.2.2.2.2 hq_12)⟩))⟩ d_MO_isName_81
          · skip
            have hq_13 : ¬ _ := fun h => hb_11 ((lg_cmp_eq _ _).mpr h)
            refine lv_iconst (v := 1) hx hb d_MO_isName_76 (by decide) ?_
            refine lv_goto (tgt := 81) hx hb d_MO_isName_77 (by decide) ?_
            exact em_zret hx hb hr hlocks rfl hP hD hK hS () [0, 1, 2] (by decide) rfl ⟨_, rfl, (show (((1 : Int32) = 1 ∧ isNm ki wh at_) ∨ ((1 : Int32) = 0 ∧ ¬ isNm ki wh at_)) from (Or.inl ⟨rfl, ⟨hb_1, hq_4, hq_7, hq_10, hq_13⟩⟩))⟩ d_MO_isName_81
set_option maxHeartbeats 8000000 in
set_option maxRecDepth 100000 in
theorem mo_beginsAtom (l : Launch) (D : va_G) (cI cL cZ cC : ClassId) (f : Nat → Nat) (h0 : Nat) (tn : Int32) (rm : Nat) (ln : Nat) (lx : Nat) (at_ : Nat) (bd : Int32) (fs : Nat) (dp : Nat) (on : Nat) (os : Nat) (bn : Nat) (df : Nat) (th : Int32) (tp : Nat) (mo_ : Int32) (ev : Nat) (ss : Int32) (so : Int32) (lk : Int64) (rs : Int64) (pt : Int32) (ot : Nat) (cl : Int32) (ki : Nat → Int32) (wh : Nat → Int64) (sz : Nat) (hat1 : at_ ≤ 100) (hnt : l.stackTraces = false) : em_Met l y_MO_beginsAtom (wz y_MO_beginsAtom b_MO_beginsAtom 1 (some .boolean)) ({ frames := 1, cells := 0, slots := 0, locals := 21 }) (va_Pc [.ref h0] (tw_pre D (tys4 cI cL cZ cC) [(h0, .inr (8, mS f tn rm ln lx at_ bd fs dp on os bn df th tp mo_ ev ss so lk rs pt ot cl)), ((f 1), .inl (cI, 101, .inl ki)), ((f 2), .inl (cL, 101, .inr (.inl wh)))] sz)) D (tys4 cI cL cZ cC) (va_A [(h0, .inr (8, mS f tn rm ln lx at_ bd fs dp on os bn df th tp mo_ ev ss so lk rs pt ot cl)), ((f 1), .inl (cI, 101, .inl ki)), ((f 2), .inl (cL, 101, .inr (.inl wh)))] sz) (fun (_ : Unit) => [(h0, .inr (8, mS f tn rm ln lx at_ bd fs dp on os bn df th tp mo_ ev ss so lk rs pt ot cl)), ((f 1), .inl (cI, 101, .inl ki)), ((f 2), .inl (cL, 101, .inr (.inl wh)))]) (fun v (_ : Unit) => ∃ r : Int32, v = some (.int r) ∧ ((((r = 1 ∧ BA ki wh at_) ∨ (r = 0 ∧ ¬ BA ki wh at_))))) (fun C (_ : Unit) => False) 0 0 := by
  refine em_Met.ofW (cc := b_MO_beginsAtom) (maxL := 1) (ret := (some .boolean)) (by decide) rfl ?_
  intro p e s m args below meth c s₁ B hml hv hno
  obtain ⟨rfl, ⟨hsz, hP, hK, hD0⟩, hE⟩ := hv
  have hx := B.exec
  have hb := B.bytes
  have hr := B.returns
  have hts := atoms_spec (ws := wz y_MO_beginsAtom b_MO_beginsAtom 1 (some .boolean)) B.pre
  have hG := wz_G hts
  have hown : s.vm.findClass rn_MO = some m.cls := findClass_of_methodNamed B.named
  have hlocks := B.notSynchronized
  subst hsz
  have hD := hD0.self (sz := s.heap.size)
  have hst := tw_st hP
  generalize hAe : va_A [(h0, .inr (8, mS f tn rm ln lx at_ bd fs dp on os bn df th tp mo_ ev ss so lk rs pt ot cl)), ((f 1), .inl (cI, 101, .inl ki)), ((f 2), .inl (cL, 101, .inr (.inl wh)))] s.heap.size = A at hD hst ⊢
  have hA : ∀ q : Nat, s.heap.size ≤ q → A q := fun q h => by rw [← hAe]; exact Or.inr h
  have hS : va_S A s.heap s.heap [] := va_S.rf
  have hl := lv_entry ([.ref h0]) (n := 1) (Nat.le_of_ble_eq_true rfl)
  rw [lg_entry_eq]
  generalize (lg_sl ([.ref h0]) ++ List.replicate (1 - (lg_sl ([.ref h0])).length) Slot.unset).toArray = ls at hl ⊢
  have hl : lv_has ls 1 [(0, .ref h0)] := hl
  refine lv_aload_n hx hb d_MO_beginsAtom_0 rfl (lv_at hl 0 rfl) ?_
  refine va_get (D := D) (ci := 8) (v := .ref (f 1)) (C := rn_MO) (T := fl_MO) (N := 55) hx hb hG in_MO hown hK hP 0 rfl rfl 7 (by decide) (hG _ k_1198) (fun _ h9 => h9) rfl d_MO_beginsAtom_1 ?_
  refine lv_aload_n hx hb d_MO_beginsAtom_4 rfl (lv_at hl 0 rfl) ?_
  refine va_get (D := D) (ci := 8) (v := .int (nI at_)) (C := rn_MO) (T := fl_MO) (N := 55) hx hb hG in_MO hown hK hP 0 rfl rfl 5 (by decide) (hG _ k_1196) (fun _ h9 => h9) rfl d_MO_beginsAtom_5 ?_
  refine va_iald hx hb hK hP 1 0 rfl rfl (vp_in_nI (n := at_) (N := 101) (by omega) (by omega)) d_MO_beginsAtom_8 ?_
  refine W.eq (g2 := F0 m 9 ls [.int (ki at_)]) (by rw [nI_clamp (n := at_) (by omega)]) ?_
  refine lv_iconst (v := 1) hx hb d_MO_beginsAtom_9 (by decide) ?_
  refine lv_icmp_eq (tgt := 38) hx hb d_MO_beginsAtom_10 (by decide) (fun hb_1 => ?_) (fun hb_1 => ?_)
  · skip
    refine lv_iconst (v := 1) hx hb d_MO_beginsAtom_38 (by decide) ?_
    refine lv_goto (tgt := 43) hx hb d_MO_beginsAtom_39 (by decide) ?_
    exact em_zret hx hb hr hlocks rfl hP hD hK hS () [0, 1, 2] (by decide) rfl ⟨_, rfl, (show (((1 : Int32) = 1 ∧ BA ki wh at_) ∨ ((1 : Int32) = 0 ∧ ¬ BA ki wh at_)) from (Or.inl ⟨rfl, (Or.inl hb_1)⟩))⟩ d_MO_beginsAtom_43
  · skip
    refine lv_aload_n hx hb d_MO_beginsAtom_13 rfl (lv_at hl 0 rfl) ?_
    refine em_call (wr := []) (em_runV (As := []) (rest := []) ⟨hx, hb, hml, hown, hG⟩ (mo_isName l D cI cL cZ cC f h0 tn rm ln lx at_ bd fs dp on os bn df th tp mo_ ev ss so lk rs pt ot cl ki wh _ (by first | assumption | omega | exact Or.inl rfl) hnt) (cwV 0 hG (gd_V k_1406 k_1408 k_56 k_116 k_1409) rfl rfl rfl (by decide +kernel) ⟨Nat.le_of_ble_eq_true rfl, Nat.le_of_ble_eq_true rfl⟩) (tw_V (q0 := 0) hP hD hK hE hst hS rfl rfl [0, 1, 2] rfl (by decide)) rfl rfl hl.1 rfl (lv_room (Nat.le_of_ble_eq_true rfl)) d_MO_beginsAtom_14 ⟨Nat.le_of_ble_eq_true rfl, Nat.le_of_ble_eq_true rfl⟩) hP hD hS hA [0, 1, 2] [] rfl rfl (by decide) (by decide) (fun v u H locs hok hP hD hS => ?_) (fun x C u H locs hbad hxx hP hD hS => ?_)
    · skip
      obtain ⟨r_2, rfl, hp_3⟩ := hok
      have hres_4 : (((r_2 = 1 ∧ isNm ki wh at_) ∨ (r_2 = 0 ∧ ¬ isNm ki wh at_))) := hp_3
      have hP : va_P D classes [(h0, .inr (8, mS f tn rm ln lx at_ bd fs dp on os bn df th tp mo_ ev ss so lk rs pt ot cl)), ((f 1), .inl (cI, 101, .inl ki)), ((f 2), .inl (cL, 101, .inr (.inl wh)))] H := hP
      have hD : va_D A [(h0, .inr (8, mS f tn rm ln lx at_ bd fs dp on os bn df th tp mo_ ev ss so lk rs pt ot cl)), ((f 1), .inl (cI, 101, .inl ki)), ((f 2), .inl (cL, 101, .inr (.inl wh)))] := hD
      rcases hres_4 with ⟨rfl, hy_5⟩ | ⟨rfl, hy_5⟩
      · skip
        refine W.eq (g2 := F0 m 17 ls [.int 1]) rfl ?_
        refine lv_if_ne (tgt := 38) hx hb d_MO_beginsAtom_17 (by decide) (fun hbr => ?_) (fun hbr => absurd hbr (by decide))
        refine lv_iconst (v := 1) hx hb d_MO_beginsAtom_38 (by decide) ?_
        refine lv_goto (tgt := 43) hx hb d_MO_beginsAtom_39 (by decide) ?_
        exact em_zret hx hb hr hlocks rfl hP hD hK hS () [0, 1, 2] (by decide) rfl ⟨_, rfl, (show (((1 : Int32) = 1 ∧ BA ki wh at_) ∨ ((1 : Int32) = 0 ∧ ¬ BA ki wh at_)) from (Or.inl ⟨rfl, (Or.inr (Or.inl hy_5))⟩))⟩ d_MO_beginsAtom_43
      · skip
        refine W.eq (g2 := F0 m 17 ls [.int 0]) rfl ?_
        refine lv_if_ne (tgt := 38) hx hb d_MO_beginsAtom_17 (by decide) (fun hbr => absurd (by decide) hbr) (fun hbr => ?_)
        refine lv_aload_n hx hb d_MO_beginsAtom_20 rfl (lv_at hl 0 rfl) ?_
        refine lv_bipush (v := 40) hx hb d_MO_beginsAtom_21 (by decide) ?_
        refine em_call (wr := []) (em_runV (As := [.int 40]) (rest := []) ⟨hx, hb, hml, hown, hG⟩ (mo_isSign l D cI cL cZ cC f h0 tn rm ln lx at_ bd fs dp on os bn df th tp mo_ ev ss so lk rs pt ot cl ki wh 40 _ (by first | assumption | omega | exact Or.inl rfl) hnt) (cwV 1 hG (gd_V k_1425 k_1427 k_60 k_116 k_1428) rfl rfl rfl (by decide +kernel) ⟨Nat.le_of_ble_eq_true rfl, Nat.le_of_ble_eq_true rfl⟩) (tw_V (q0 := 0) hP hD hK hE hst hS rfl rfl [0, 1, 2] rfl (by decide)) rfl rfl hl.1 rfl (lv_room (Nat.le_of_ble_eq_true rfl)) d_MO_beginsAtom_23 ⟨Nat.le_of_ble_eq_true rfl, Nat.le_of_ble_eq_true rfl⟩) hP hD hS hA [0, 1, 2] [] rfl rfl (by decide) (by decide) (fun v u H locs hok hP hD hS => ?_) (fun x C u H locs hbad hxx hP hD hS => ?_)
        · skip
          obtain ⟨r_6, rfl, hp_7⟩ := hok
          have hres_8 : (((r_6 = 1 ∧ sgn ki wh at_ (40 : Int32)) ∨ (r_6 = 0 ∧ ¬ sgn ki wh at_ (40 : Int32)))) := hp_7
          have hP : va_P D classes [(h0, .inr (8, mS f tn rm ln lx at_ bd fs dp on os bn df th tp mo_ ev ss so lk rs pt ot cl)), ((f 1), .inl (cI, 101, .inl ki)), ((f 2), .inl (cL, 101, .inr (.inl wh)))] H := hP
          have hD : va_D A [(h0, .inr (8, mS f tn rm ln lx at_ bd fs dp on os bn df th tp mo_ ev ss so lk rs pt ot cl)), ((f 1), .inl (cI, 101, .inl ki)), ((f 2), .inl (cL, 101, .inr (.inl wh)))] := hD
          rcases hres_8 with ⟨rfl, hy_9⟩ | ⟨rfl, hy_9⟩
          · skip
            refine W.eq (g2 := F0 m 26 ls [.int 1]) rfl ?_
            refine lv_if_ne (tgt := 38) hx hb d_MO_beginsAtom_26 (by decide) (fun hbr => ?_) (fun hbr => absurd hbr (by decide))
            refine lv_iconst (v := 1) hx hb d_MO_beginsAtom_38 (by decide) ?_
            refine lv_goto (tgt := 43) hx hb d_MO_beginsAtom_39 (by decide) ?_
            exact em_zret hx hb hr hlocks rfl hP hD hK hS () [0, 1, 2] (by decide) rfl ⟨_, rfl, (show (((1 : Int32) = 1 ∧ BA ki wh at_) ∨ ((1 : Int32) = 0 ∧ ¬ BA ki wh at_)) from (Or.inl ⟨rfl, (Or.inr (Or.inr (Or.inl hy_9)))⟩))⟩ d_MO_beginsAtom_43
          · skip
            refine W.eq (g2 := F0 m 26 ls [.int 0]) rfl ?_
            refine lv_if_ne (tgt := 38) hx hb d_MO_beginsAtom_26 (by decide) (fun hbr => absurd (by decide) hbr) (fun hbr => ?_)
            refine lv_aload_n hx hb d_MO_beginsAtom_29 rfl (lv_at hl 0 rfl) ?_
            refine lv_bipush (v := 91) hx hb d_MO_beginsAtom_30 (by decide) ?_
            refine em_call (wr := []) (em_runV (As := [.int 91]) (rest := []) ⟨hx, hb, hml, hown, hG⟩ (mo_isSign l D cI cL cZ cC f h0 tn rm ln lx at_ bd fs dp on os bn df th tp mo_ ev ss so lk rs pt ot cl ki wh 91 _ (by first | assumption | omega | exact Or.inl rfl) hnt) (cwV 1 hG (gd_V k_1425 k_1427 k_60 k_116 k_1428) rfl rfl rfl (by decide +kernel) ⟨Nat.le_of_ble_eq_true rfl, Nat.le_of_ble_eq_true rfl⟩) (tw_V (q0 := 0) hP hD hK hE hst hS rfl rfl [0, 1, 2] rfl (by decide)) rfl rfl hl.1 rfl (lv_room (Nat.le_of_ble_eq_true rfl)) d_MO_beginsAtom_32 ⟨Nat.le_of_ble_eq_true rfl, Nat.le_of_ble_eq_true rfl⟩) hP hD hS hA [0, 1, 2] [] rfl rfl (by decide) (by decide) (fun v u H locs hok hP hD hS => ?_) (fun x C u H locs hbad hxx hP hD hS => ?_)
            · skip
              obtain ⟨r_10, rfl, hp_11⟩ := hok
              have hres_12 : (((r_10 = 1 ∧ sgn ki wh at_ (91 : Int32)) ∨ (r_10 = 0 ∧ ¬ sgn ki wh at_ (91 : Int32)))) := hp_11
              have hP : va_P D classes [(h0, .inr (8, mS f tn rm ln lx at_ bd fs dp on os bn df th tp mo_ ev ss so lk rs pt ot cl)), ((f 1), .inl (cI, 101, .inl ki)), ((f 2), .inl (cL, 101, .inr (.inl wh)))] H := hP
              have hD : va_D A [(h0, .inr (8, mS f tn rm ln lx at_ bd fs dp on os bn df th tp mo_ ev ss so lk rs pt ot cl)), ((f 1), .inl (cI, 101, .inl ki)), ((f 2), .inl (cL, 101, .inr (.inl wh)))] := hD
              rcases hres_12 with ⟨rfl, hy_13⟩ | ⟨rfl, hy_13⟩
              · skip
                refine W.eq (g2 := F0 m 35 ls [.int 1]) rfl ?_
                refine lv_if_eq (tgt := 42) hx hb d_MO_beginsAtom_35 (by decide) (fun hbr => absurd hbr (by decide)) (fun hbr => ?_)
                refine lv_iconst (v := 1) hx hb d_MO_beginsAtom_38 (by decide) ?_
                refine lv_goto (tgt := 43) hx hb d_MO_beginsAtom_39 (by decide) ?_
                exact em_zret hx hb hr hlocks rfl hP hD hK hS () [0, 1, 2] (by decide) rfl ⟨_, rfl, (show (((1 : Int32) = 1 ∧ BA ki wh at_) ∨ ((1 : Int32) = 0 ∧ ¬ BA ki wh at_)) from (Or.inl ⟨rfl, (Or.inr (Or.inr (Or.inr hy_13)))⟩))⟩ d_MO_beginsAtom_43
              · skip
                refine W.eq (g2 := F0 m 35 ls [.int 0]) rfl ?_
                refine lv_if_eq (tgt := 42) hx hb d_MO_beginsAtom_35 (by decide) (fun hbr => ?_) (fun hbr => absurd (by decide) hbr)
                refine lv_iconst (v := 0) hx hb d_MO_beginsAtom_42 (by decide) ?_
                exact em_zret hx hb hr hlocks rfl hP hD hK hS () [0, 1, 2] (by decide) rfl ⟨_, rfl, (show (((0 : Int32) = 1 ∧ BA ki wh at_) ∨ ((0 : Int32) = 0 ∧ ¬ BA ki wh at_)) from (Or.inr ⟨rfl, (fun q => q.elim hb_1 (fun q => q.elim hy_5 (fun q => q.elim hy_9 hy_13)))⟩))⟩ d_MO_beginsAtom_43
            · skip
              exact hbad.elim
        · skip
          exact hbad.elim
    · skip
      exact hbad.elim
set_option maxHeartbeats 8000000 in
set_option maxRecDepth 100000 in
theorem mo_operationAt (l : Launch) (D : va_G) (cI cL cZ cC : ClassId) (f : Nat → Nat) (h0 : Nat) (tn : Int32) (rm : Nat) (ln : Nat) (lx : Nat) (at_ : Nat) (bd : Int32) (fs : Nat) (dp : Nat) (on : Nat) (os : Nat) (bn : Nat) (df : Nat) (th : Int32) (tp : Nat) (mo_ : Int32) (ev : Nat) (ss : Int32) (so : Int32) (lk : Int64) (rs : Int64) (pt : Int32) (ot : Nat) (cl : Int32) (ki : Nat → Int32) (wh : Nat → Int64) (sz : Nat) (hat1 : at_ ≤ 100) (hnt : l.stackTraces = false) : em_Met l y_MO_operationAt (wz y_MO_operationAt b_MO_operationAt 3 (some .int)) ({ frames := 0, cells := 0, slots := 0, locals := 0 }) (va_Pc [.ref h0] (tw_pre D (tys4 cI cL cZ cC) [(h0, .inr (8, mS f tn rm ln lx at_ bd fs dp on os bn df th tp mo_ ev ss so lk rs pt ot cl)), ((f 1), .inl (cI, 101, .inl ki)), ((f 2), .inl (cL, 101, .inr (.inl wh)))] sz)) D (tys4 cI cL cZ cC) (va_A [(h0, .inr (8, mS f tn rm ln lx at_ bd fs dp on os bn df th tp mo_ ev ss so lk rs pt ot cl)), ((f 1), .inl (cI, 101, .inl ki)), ((f 2), .inl (cL, 101, .inr (.inl wh)))] sz) (fun (_ : Unit) => [(h0, .inr (8, mS f tn rm ln lx at_ bd fs dp on os bn df th tp mo_ ev ss so lk rs pt ot cl)), ((f 1), .inl (cI, 101, .inl ki)), ((f 2), .inl (cL, 101, .inr (.inl wh)))]) (fun v (_ : Unit) => ∃ r : Int32, v = some (.int r) ∧ ((r = opA (ki at_) (wh at_)))) (fun C (_ : Unit) => False) 0 0 := by
  refine em_Met.ofW (cc := b_MO_operationAt) (maxL := 3) (ret := (some .int)) (by decide) rfl ?_
  intro p e s m args below meth c s₁ B hml hv hno
  obtain ⟨rfl, ⟨hsz, hP, hK, hD0⟩, hE⟩ := hv
  have hx := B.exec
  have hb := B.bytes
  have hr := B.returns
  have hts := atoms_spec (ws := wz y_MO_operationAt b_MO_operationAt 3 (some .int)) B.pre
  have hG := wz_G hts
  have hown : s.vm.findClass rn_MO = some m.cls := findClass_of_methodNamed B.named
  have hlocks := B.notSynchronized
  subst hsz
  have hD := hD0.self (sz := s.heap.size)
  have hst := tw_st hP
  generalize hAe : va_A [(h0, .inr (8, mS f tn rm ln lx at_ bd fs dp on os bn df th tp mo_ ev ss so lk rs pt ot cl)), ((f 1), .inl (cI, 101, .inl ki)), ((f 2), .inl (cL, 101, .inr (.inl wh)))] s.heap.size = A at hD hst ⊢
  have hA : ∀ q : Nat, s.heap.size ≤ q → A q := fun q h => by rw [← hAe]; exact Or.inr h
  have hS : va_S A s.heap s.heap [] := va_S.rf
  have hl := lv_entry ([.ref h0]) (n := 3) (Nat.le_of_ble_eq_true rfl)
  rw [lg_entry_eq]
  generalize (lg_sl ([.ref h0]) ++ List.replicate (3 - (lg_sl ([.ref h0])).length) Slot.unset).toArray = ls at hl ⊢
  have hl : lv_has ls 3 [(0, .ref h0)] := hl
  refine lv_aload_n hx hb d_MO_operationAt_0 rfl (lv_at hl 0 rfl) ?_
  refine va_get (D := D) (ci := 8) (v := .ref (f 1)) (C := rn_MO) (T := fl_MO) (N := 55) hx hb hG in_MO hown hK hP 0 rfl rfl 7 (by decide) (hG _ k_1198) (fun _ h9 => h9) rfl d_MO_operationAt_1 ?_
  refine lv_aload_n hx hb d_MO_operationAt_4 rfl (lv_at hl 0 rfl) ?_
  refine va_get (D := D) (ci := 8) (v := .int (nI at_)) (C := rn_MO) (T := fl_MO) (N := 55) hx hb hG in_MO hown hK hP 0 rfl rfl 5 (by decide) (hG _ k_1196) (fun _ h9 => h9) rfl d_MO_operationAt_5 ?_
  refine va_iald hx hb hK hP 1 0 rfl rfl (vp_in_nI (n := at_) (N := 101) (by omega) (by omega)) d_MO_operationAt_8 ?_
  refine W.eq (g2 := F0 m 9 ls [.int (ki at_)]) (by rw [nI_clamp (n := at_) (by omega)]) ?_
  refine lv_iconst (v := 2) hx hb d_MO_operationAt_9 (by decide) ?_
  refine lv_icmp_eq (tgt := 15) hx hb d_MO_operationAt_10 (by decide) (fun hb_1 => ?_) (fun hb_1 => ?_)
  · skip
    refine lv_aload_n hx hb d_MO_operationAt_15 rfl (lv_at hl 0 rfl) ?_
    refine va_get (D := D) (ci := 8) (v := .ref (f 2)) (C := rn_MO) (T := fl_MO) (N := 55) hx hb hG in_MO hown hK hP 0 rfl rfl 8 (by decide) (hG _ k_1199) (fun _ h9 => h9) rfl d_MO_operationAt_16 ?_
    refine lv_aload_n hx hb d_MO_operationAt_19 rfl (lv_at hl 0 rfl) ?_
    refine va_get (D := D) (ci := 8) (v := .int (nI at_)) (C := rn_MO) (T := fl_MO) (N := 55) hx hb hG in_MO hown hK hP 0 rfl rfl 5 (by decide) (hG _ k_1196) (fun _ h9 => h9) rfl d_MO_operationAt_20 ?_
    refine va_lald hx hb hK hP 2 1 rfl rfl (vp_in_nI (n := at_) (N := 101) (by omega) (by omega)) d_MO_operationAt_23 ?_
    refine W.eq (g2 := F0 m 24 ls [.long (wh at_)]) (by rw [nI_clamp (n := at_) (by omega)]) ?_
    refine lv_lstore_n (lv' := [(1, .long (wh at_)), (0, .ref h0)]) hx hb d_MO_operationAt_24 rfl hl (Nat.le_of_ble_eq_true rfl) rfl (fun ls hl => ?_)
    refine lv_lload_n hx hb d_MO_operationAt_25 rfl (lv_at hl 0 rfl) ?_
    refine lv_ldc2 (v := 43) hx hb hown (hG _ k_1483) d_MO_operationAt_26 ?_
    refine W.lcmp hx hb d_MO_operationAt_29 ?_
    refine lv_if_ne (tgt := 38) hx hb d_MO_operationAt_30 (by decide) (fun hb_2 => ?_) (fun hb_2 => ?_)
    · skip
      have hq_3 : ¬ _ := fun h => hb_2 ((lg_cmp_eq _ _).mpr h)
      refine lv_lload_n hx hb d_MO_operationAt_38 rfl (lv_at hl 0 rfl) ?_
      refine lv_ldc2 (v := 45) hx hb hown (hG _ k_1484) d_MO_operationAt_39 ?_
      refine W.lcmp hx hb d_MO_operationAt_42 ?_
      refine lv_if_ne (tgt := 51) hx hb d_MO_operationAt_43 (by decide) (fun hb_4 => ?_) (fun hb_4 => ?_)
      · skip
        have hq_5 : ¬ _ := fun h => hb_4 ((lg_cmp_eq _ _).mpr h)
        refine lv_lload_n hx hb d_MO_operationAt_51 rfl (lv_at hl 0 rfl) ?_
        refine lv_ldc2 (v := 42) hx hb hown (hG _ k_1485) d_MO_operationAt_52 ?_
        refine W.lcmp hx hb d_MO_operationAt_55 ?_
        refine lv_if_ne (tgt := 64) hx hb d_MO_operationAt_56 (by decide) (fun hb_6 => ?_) (fun hb_6 => ?_)
        · skip
          have hq_7 : ¬ _ := fun h => hb_6 ((lg_cmp_eq _ _).mpr h)
          refine lv_lload_n hx hb d_MO_operationAt_64 rfl (lv_at hl 0 rfl) ?_
          refine lv_ldc2 (v := 60) hx hb hown (hG _ k_1486) d_MO_operationAt_65 ?_
          refine W.lcmp hx hb d_MO_operationAt_68 ?_
          refine lv_if_ne (tgt := 77) hx hb d_MO_operationAt_69 (by decide) (fun hb_8 => ?_) (fun hb_8 => ?_)
          · skip
            have hq_9 : ¬ _ := fun h => hb_8 ((lg_cmp_eq _ _).mpr h)
            refine lv_lload_n hx hb d_MO_operationAt_77 rfl (lv_at hl 0 rfl) ?_
            refine lv_ldc2 (v := 15677) hx hb hown (hG _ k_1400) d_MO_operationAt_78 ?_
            refine W.lcmp hx hb d_MO_operationAt_81 ?_
            refine lv_if_ne (tgt := 90) hx hb d_MO_operationAt_82 (by decide) (fun hb_10 => ?_) (fun hb_10 => ?_)
            · skip
              have hq_11 : ¬ _ := fun h => hb_10 ((lg_cmp_eq _ _).mpr h)
              refine lv_lload_n hx hb d_MO_operationAt_90 rfl (lv_at hl 0 rfl) ?_
              refine lv_ldc2 (v := 58) hx hb hown (hG _ k_1487) d_MO_operationAt_91 ?_
              refine W.lcmp hx hb d_MO_operationAt_94 ?_
              refine lv_if_ne (tgt := 103) hx hb d_MO_operationAt_95 (by decide) (fun hb_12 => ?_) (fun hb_12 => ?_)
              · skip
                have hq_13 : ¬ _ := fun h => hb_12 ((lg_cmp_eq _ _).mpr h)
                refine lv_iconst (v := (-1)) hx hb d_MO_operationAt_103 (by decide) ?_
                exact em_iret hx hb hr hlocks hP hD hK hS () [0, 1, 2] (by decide) rfl ⟨_, rfl, (show ((-1) : Int32) = opA (ki at_) (wh at_) from (by simp [opA, hb_1, hq_3, hq_5, hq_7, hq_9, hq_11, hq_13]))⟩ d_MO_operationAt_104
              · skip
                have hq_14 := (lg_cmp_eq _ _).mp hb_12
                refine lv_bipush (v := 16) hx hb d_MO_operationAt_98 (by decide) ?_
                refine lv_goto (tgt := 104) hx hb d_MO_operationAt_100 (by decide) ?_
                exact em_iret hx hb hr hlocks hP hD hK hS () [0, 1, 2] (by decide) rfl ⟨_, rfl, (show (16 : Int32) = opA (ki at_) (wh at_) from (by simp [opA, hb_1, hq_3, hq_5, hq_7, hq_9, hq_11, hq_14]))⟩ d_MO_operationAt_104
            · skip
              have hq_15 := (lg_cmp_eq _ _).mp hb_10
              refine lv_bipush (v := 15) hx hb d_MO_operationAt_85 (by decide) ?_
              refine lv_goto (tgt := 104) hx hb d_MO_operationAt_87 (by decide) ?_
              exact em_iret hx hb hr hlocks hP hD hK hS () [0, 1, 2] (by decide) rfl ⟨_, rfl, (show (15 : Int32) = opA (ki at_) (wh at_) from (by simp [opA, hb_1, hq_3, hq_5, hq_7, hq_9, hq_15]))⟩ d_MO_operationAt_104
          · skip
            have hq_16 := (lg_cmp_eq _ _).mp hb_8
            refine lv_bipush (v := 14) hx hb d_MO_operationAt_72 (by decide) ?_
            refine lv_goto (tgt := 104) hx hb d_MO_operationAt_74 (by decide) ?_
            exact em_iret hx hb hr hlocks hP hD hK hS () [0, 1, 2] (by decide) rfl ⟨_, rfl, (show (14 : Int32) = opA (ki at_) (wh at_) from (by simp [opA, hb_1, hq_3, hq_5, hq_7, hq_16]))⟩ d_MO_operationAt_104
        · skip
          have hq_17 := (lg_cmp_eq _ _).mp hb_6
          refine lv_bipush (v := 13) hx hb d_MO_operationAt_59 (by decide) ?_
          refine lv_goto (tgt := 104) hx hb d_MO_operationAt_61 (by decide) ?_
          exact em_iret hx hb hr hlocks hP hD hK hS () [0, 1, 2] (by decide) rfl ⟨_, rfl, (show (13 : Int32) = opA (ki at_) (wh at_) from (by simp [opA, hb_1, hq_3, hq_5, hq_17]))⟩ d_MO_operationAt_104
      · skip
        have hq_18 := (lg_cmp_eq _ _).mp hb_4
        refine lv_bipush (v := 12) hx hb d_MO_operationAt_46 (by decide) ?_
        refine lv_goto (tgt := 104) hx hb d_MO_operationAt_48 (by decide) ?_
        exact em_iret hx hb hr hlocks hP hD hK hS () [0, 1, 2] (by decide) rfl ⟨_, rfl, (show (12 : Int32) = opA (ki at_) (wh at_) from (by simp [opA, hb_1, hq_3, hq_18]))⟩ d_MO_operationAt_104
    · skip
      have hq_19 := (lg_cmp_eq _ _).mp hb_2
      refine lv_bipush (v := 11) hx hb d_MO_operationAt_33 (by decide) ?_
      refine lv_goto (tgt := 104) hx hb d_MO_operationAt_35 (by decide) ?_
      exact em_iret hx hb hr hlocks hP hD hK hS () [0, 1, 2] (by decide) rfl ⟨_, rfl, (show (11 : Int32) = opA (ki at_) (wh at_) from (by simp [opA, hb_1, hq_19]))⟩ d_MO_operationAt_104
  · skip
    refine lv_iconst (v := (-1)) hx hb d_MO_operationAt_13 (by decide) ?_
    exact em_iret hx hb hr hlocks hP hD hK hS () [0, 1, 2] (by decide) rfl ⟨_, rfl, (show ((-1) : Int32) = opA (ki at_) (wh at_) from (by simp [opA, hb_1]))⟩ d_MO_operationAt_14
set_option maxHeartbeats 8000000 in
set_option maxRecDepth 100000 in
theorem mo_expect1 (l : Launch) (D : va_G) (cI cL cZ cC : ClassId) (f : Nat → Nat) (h0 : Nat) (tn : Int32) (rm : Nat) (ln : Nat) (lx : Nat) (at_ : Nat) (bd : Int32) (fs : Nat) (dp : Nat) (on : Nat) (os : Nat) (bn : Nat) (df : Nat) (th : Int32) (tp : Nat) (mo_ : Int32) (ev : Nat) (ss : Int32) (so : Int32) (lk : Int64) (rs : Int64) (pt : Int32) (ot : Nat) (cl : Int32) (sz : Nat) (hbo : bdo bd) (hnt : l.stackTraces = false) : em_Met l y_MO_expect (wz y_MO_expect b_MO_expect 2 none) ({ frames := 0, cells := 0, slots := 0, locals := 0 }) (va_Pc [.ref h0, .int 1] (tw_pre D (tys4 cI cL cZ cC) [(h0, .inr (8, mS f tn rm ln lx at_ bd fs dp on os bn df th tp mo_ ev ss so lk rs pt ot cl))] sz)) D (tys4 cI cL cZ cC) (va_A [(h0, .inr (8, mS f tn rm ln lx at_ bd fs dp on os bn df th tp mo_ ev ss so lk rs pt ot cl))] sz) (fun (u : Nat × Int32) => [(h0, .inr (8, mS f tn rm ln lx u.1 u.2 fs dp on os bn df th tp mo_ ev ss so lk rs pt ot cl))]) (fun v (u : Nat × Int32) => v = none ∧ ((u.1 = at_ + 1) ∧ (u.2 = bd) ∧ (bdo u.2))) (fun C (u : Nat × Int32) => False) 0 0 := by
  refine em_Met.ofW (cc := b_MO_expect) (maxL := 2) (ret := none) (by decide) rfl ?_
  intro p e s m args below meth c s₁ B hml hv hno
  obtain ⟨rfl, ⟨hsz, hP, hK, hD0⟩, hE⟩ := hv
  have hx := B.exec
  have hb := B.bytes
  have hr := B.returns
  have hts := atoms_spec (ws := wz y_MO_expect b_MO_expect 2 none) B.pre
  have hG := wz_G hts
  have hown : s.vm.findClass rn_MO = some m.cls := findClass_of_methodNamed B.named
  have hlocks := B.notSynchronized
  subst hsz
  have hD := hD0.self (sz := s.heap.size)
  have hst := tw_st hP
  generalize hAe : va_A [(h0, .inr (8, mS f tn rm ln lx at_ bd fs dp on os bn df th tp mo_ ev ss so lk rs pt ot cl))] s.heap.size = A at hD hst ⊢
  have hA : ∀ q : Nat, s.heap.size ≤ q → A q := fun q h => by rw [← hAe]; exact Or.inr h
  have hS : va_S A s.heap s.heap [] := va_S.rf
  have hl := lv_entry ([.ref h0, .int 1]) (n := 2) (Nat.le_of_ble_eq_true rfl)
  rw [lg_entry_eq]
  generalize (lg_sl ([.ref h0, .int 1]) ++ List.replicate (2 - (lg_sl ([.ref h0, .int 1])).length) Slot.unset).toArray = ls at hl ⊢
  have hl : lv_has ls 2 [(0, .ref h0), (1, .int 1)] := hl
  refine lv_iload_n hx hb d_MO_expect_0 rfl (lv_at hl 1 rfl) ?_
  refine lv_if_eq (tgt := 17) hx hb d_MO_expect_1 (by decide) (fun hbr => absurd hbr (by decide)) (fun hbr => ?_)
  refine lv_aload_n hx hb d_MO_expect_4 rfl (lv_at hl 0 rfl) ?_
  refine lv_dup hx hb d_MO_expect_5 rfl ?_
  refine va_get (D := D) (ci := 8) (v := .int (nI at_)) (C := rn_MO) (T := fl_MO) (N := 55) hx hb hG in_MO hown hK hP 0 rfl rfl 5 (by decide) (hG _ k_1196) (fun _ h9 => h9) rfl d_MO_expect_6 ?_
  refine lv_iconst (v := 1) hx hb d_MO_expect_9 (by decide) ?_
  refine lw_iadd (a := at_) (b := 1) hx hb d_MO_expect_10 ?_
  refine va_put (D := D) (ci := 8) (v := .int (nI (at_ + 1))) (ty := .int) (C := rn_MO) (T := fl_MO) (N := 55) hx hb hG in_MO tt_MO tk_MO nn_MO hown hK hP hD hS 0 rfl rfl 5 (by decide) (hG _ k_1196) (fun _ h9 => h9) rfl (by decide +kernel) rfl rfl (Nat.le_of_ble_eq_true rfl) d_MO_expect_11 (fun H locs hP hD hS => ?_)
  have hP : va_P D classes [(h0, .inr (8, mS f tn rm ln lx (at_ + 1) bd fs dp on os bn df th tp mo_ ev ss so lk rs pt ot cl))] H := hP
  have hD : va_D A [(h0, .inr (8, mS f tn rm ln lx (at_ + 1) bd fs dp on os bn df th tp mo_ ev ss so lk rs pt ot cl))] := hD
  refine lv_goto (tgt := 22) hx hb d_MO_expect_14 (by decide) ?_
  exact em_vret hx hb hr hlocks hP hD hK hS (at_ + 1, bd) [0] (by decide) rfl ⟨rfl, ⟨(show (at_ + 1) = at_ + 1 from rfl), (show bd = bd from rfl), (show bdo bd from (by first | assumption | omega | exact Or.inl rfl))⟩⟩ d_MO_expect_22
set_option maxHeartbeats 8000000 in
set_option maxRecDepth 100000 in
theorem mo_expect0 (l : Launch) (D : va_G) (cI cL cZ cC : ClassId) (f : Nat → Nat) (h0 : Nat) (tn : Int32) (rm : Nat) (ln : Nat) (lx : Nat) (at_ : Nat) (bd : Int32) (fs : Nat) (dp : Nat) (on : Nat) (os : Nat) (bn : Nat) (df : Nat) (th : Int32) (tp : Nat) (mo_ : Int32) (ev : Nat) (ss : Int32) (so : Int32) (lk : Int64) (rs : Int64) (pt : Int32) (ot : Nat) (cl : Int32) (sz : Nat) (hbo : bdo bd) (hnt : l.stackTraces = false) : em_Met l y_MO_expect (wz y_MO_expect b_MO_expect 2 none) ({ frames := 1, cells := 0, slots := 0, locals := 21 }) (va_Pc [.ref h0, .int 0] (tw_pre D (tys4 cI cL cZ cC) [(h0, .inr (8, mS f tn rm ln lx at_ bd fs dp on os bn df th tp mo_ ev ss so lk rs pt ot cl))] sz)) D (tys4 cI cL cZ cC) (va_A [(h0, .inr (8, mS f tn rm ln lx at_ bd fs dp on os bn df th tp mo_ ev ss so lk rs pt ot cl))] sz) (fun (u : Nat × Int32) => [(h0, .inr (8, mS f tn rm ln lx u.1 u.2 fs dp on os bn df th tp mo_ ev ss so lk rs pt ot cl))]) (fun v (u : Nat × Int32) => v = none ∧ ((u.1 = at_) ∧ (¬ u.2 = 0) ∧ (bdo u.2) ∧ (bd = 0 → u.2 = 1))) (fun C (u : Nat × Int32) => False) 0 0 := by
  refine em_Met.ofW (cc := b_MO_expect) (maxL := 2) (ret := none) (by decide) rfl ?_
  intro p e s m args below meth c s₁ B hml hv hno
  obtain ⟨rfl, ⟨hsz, hP, hK, hD0⟩, hE⟩ := hv
  have hx := B.exec
  have hb := B.bytes
  have hr := B.returns
  have hts := atoms_spec (ws := wz y_MO_expect b_MO_expect 2 none) B.pre
  have hG := wz_G hts
  have hown : s.vm.findClass rn_MO = some m.cls := findClass_of_methodNamed B.named
  have hlocks := B.notSynchronized
  subst hsz
  have hD := hD0.self (sz := s.heap.size)
  have hst := tw_st hP
  generalize hAe : va_A [(h0, .inr (8, mS f tn rm ln lx at_ bd fs dp on os bn df th tp mo_ ev ss so lk rs pt ot cl))] s.heap.size = A at hD hst ⊢
  have hA : ∀ q : Nat, s.heap.size ≤ q → A q := fun q h => by rw [← hAe]; exact Or.inr h
  have hS : va_S A s.heap s.heap [] := va_S.rf
  have hl := lv_entry ([.ref h0, .int 0]) (n := 2) (Nat.le_of_ble_eq_true rfl)
  rw [lg_entry_eq]
  generalize (lg_sl ([.ref h0, .int 0]) ++ List.replicate (2 - (lg_sl ([.ref h0, .int 0])).length) Slot.unset).toArray = ls at hl ⊢
  have hl : lv_has ls 2 [(0, .ref h0), (1, .int 0)] := hl
  refine lv_iload_n hx hb d_MO_expect_0 rfl (lv_at hl 1 rfl) ?_
  refine lv_if_eq (tgt := 17) hx hb d_MO_expect_1 (by decide) (fun hbr => ?_) (fun hbr => absurd (by decide) hbr)
  refine lv_aload_n hx hb d_MO_expect_17 rfl (lv_at hl 0 rfl) ?_
  refine lv_iconst (v := 1) hx hb d_MO_expect_18 (by decide) ?_
  refine em_call (wr := []) (em_runV (As := [.int 1]) (rest := []) ⟨hx, hb, hml, hown, hG⟩ (mo_wrong l D cI cL cZ cC f h0 tn rm ln lx at_ bd fs dp on os bn df th tp mo_ ev ss so lk rs pt ot cl 1 _ (by decide) (by first | assumption | omega | exact Or.inl rfl) hnt) (cwV 1 hG (gd_V k_1388 k_1390 k_54 k_116 k_1391) rfl rfl rfl (by decide +kernel) ⟨Nat.le_of_ble_eq_true rfl, Nat.le_of_ble_eq_true rfl⟩) (tw_V (q0 := 0) hP hD hK hE hst hS rfl rfl [0] rfl (by decide)) rfl rfl hl.1 rfl (lv_room (Nat.le_of_ble_eq_true rfl)) d_MO_expect_19 ⟨Nat.le_of_ble_eq_true rfl, Nat.le_of_ble_eq_true rfl⟩) hP hD hS hA [0] [] rfl rfl (by decide) (by decide) (fun v u H locs hok hP hD hS => ?_) (fun x C u H locs hbad hxx hP hD hS => ?_)
  · skip
    obtain ⟨bd_1, rfl⟩ : ∃ z, z = u := ⟨_, rfl⟩
    obtain ⟨rfl, hp_3⟩ := hok
    obtain ⟨hbn_4, hbo_5, hbx_6⟩ : (¬ bd_1 = 0) ∧ (bdo bd_1) ∧ (bd = 0 → bd_1 = (1 : Int32)) := hp_3
    have hP : va_P D classes [(h0, .inr (8, mS f tn rm ln lx at_ bd_1 fs dp on os bn df th tp mo_ ev ss so lk rs pt ot cl))] H := hP
    have hD : va_D A [(h0, .inr (8, mS f tn rm ln lx at_ bd_1 fs dp on os bn df th tp mo_ ev ss so lk rs pt ot cl))] := hD
    refine W.eq (g2 := F0 m 22 ls []) rfl ?_
    exact em_vret hx hb hr hlocks hP hD hK hS (at_, bd_1) [0] (by decide) rfl ⟨rfl, ⟨(show at_ = at_ from rfl), (show ¬ bd_1 = 0 from (by first | assumption | omega | exact Or.inl rfl)), (show bdo bd_1 from (by first | assumption | omega | exact Or.inl rfl)), (show bd = 0 → bd_1 = 1 from (by first | assumption | omega | exact Or.inl rfl))⟩⟩ d_MO_expect_22
  · skip
    exact hbad.elim
set_option maxHeartbeats 8000000 in
set_option maxRecDepth 100000 in
theorem mo_push (l : Launch) (D : va_G) (cI cL cZ cC : ClassId) (f : Nat → Nat) (h0 : Nat) (tn : Int32) (rm : Nat) (ln : Nat) (lx : Nat) (at_ : Nat) (bd : Int32) (fs : Nat) (dp : Nat) (on : Nat) (os : Nat) (bn : Nat) (df : Nat) (th : Int32) (tp : Nat) (mo_ : Int32) (ev : Nat) (ss : Int32) (so : Int32) (lk : Int64) (rs : Int64) (pt : Int32) (ot : Nat) (cl : Int32) (opd : Nat → Int64) (t : Int64) (sz : Nat) (hon : on < 120) (hnt : l.stackTraces = false) : em_Met l y_MO_push (wz y_MO_push b_MO_push 3 none) ({ frames := 0, cells := 0, slots := 0, locals := 0 }) (va_Pc [.ref h0, .long t] (tw_pre D (tys4 cI cL cZ cC) [(h0, .inr (8, mS f tn rm ln lx at_ bd fs dp on os bn df th tp mo_ ev ss so lk rs pt ot cl)), ((f 14), .inl (cL, 120, .inr (.inl opd)))] sz)) D (tys4 cI cL cZ cC) (va_A [(h0, .inr (8, mS f tn rm ln lx at_ bd fs dp on os bn df th tp mo_ ev ss so lk rs pt ot cl)), ((f 14), .inl (cL, 120, .inr (.inl opd)))] sz) (fun (u : Nat × (Nat → Int64)) => [(h0, .inr (8, mS f tn rm ln lx at_ bd fs dp u.1 os bn df th tp mo_ ev ss so lk rs pt ot cl)), ((f 14), .inl (cL, 120, .inr (.inl u.2)))]) (fun v (u : Nat × (Nat → Int64)) => v = none ∧ ((u.2 = vp_updL opd on t) ∧ (u.1 = on + 1))) (fun C (u : Nat × (Nat → Int64)) => False) 0 0 := by
  refine em_Met.ofW (cc := b_MO_push) (maxL := 3) (ret := none) (by decide) rfl ?_
  intro p e s m args below meth c s₁ B hml hv hno
  obtain ⟨rfl, ⟨hsz, hP, hK, hD0⟩, hE⟩ := hv
  have hx := B.exec
  have hb := B.bytes
  have hr := B.returns
  have hts := atoms_spec (ws := wz y_MO_push b_MO_push 3 none) B.pre
  have hG := wz_G hts
  have hown : s.vm.findClass rn_MO = some m.cls := findClass_of_methodNamed B.named
  have hlocks := B.notSynchronized
  subst hsz
  have hD := hD0.self (sz := s.heap.size)
  have hst := tw_st hP
  generalize hAe : va_A [(h0, .inr (8, mS f tn rm ln lx at_ bd fs dp on os bn df th tp mo_ ev ss so lk rs pt ot cl)), ((f 14), .inl (cL, 120, .inr (.inl opd)))] s.heap.size = A at hD hst ⊢
  have hA : ∀ q : Nat, s.heap.size ≤ q → A q := fun q h => by rw [← hAe]; exact Or.inr h
  have hS : va_S A s.heap s.heap [] := va_S.rf
  have hl := lv_entry ([.ref h0, .long t]) (n := 3) (Nat.le_of_ble_eq_true rfl)
  rw [lg_entry_eq]
  generalize (lg_sl ([.ref h0, .long t]) ++ List.replicate (3 - (lg_sl ([.ref h0, .long t])).length) Slot.unset).toArray = ls at hl ⊢
  have hl : lv_has ls 3 [(0, .ref h0), (1, .long t)] := hl
  refine lv_aload_n hx hb d_MO_push_0 rfl (lv_at hl 0 rfl) ?_
  refine va_get (D := D) (ci := 8) (v := .ref (f 14)) (C := rn_MO) (T := fl_MO) (N := 55) hx hb hG in_MO hown hK hP 0 rfl rfl 25 (by decide) (hG _ k_1216) (fun _ h9 => h9) rfl d_MO_push_1 ?_
  refine lv_aload_n hx hb d_MO_push_4 rfl (lv_at hl 0 rfl) ?_
  refine va_get (D := D) (ci := 8) (v := .int (nI on)) (C := rn_MO) (T := fl_MO) (N := 55) hx hb hG in_MO hown hK hP 0 rfl rfl 17 (by decide) (hG _ k_1208) (fun _ h9 => h9) rfl d_MO_push_5 ?_
  refine lv_lload_n hx hb d_MO_push_8 rfl (lv_at hl 1 rfl) ?_
  refine va_last hx hb hK hP hD hS 1 1 rfl rfl (vp_in_nI (n := on) (N := 120) (by omega) (by omega)) d_MO_push_9 (fun H locs hP hD hS => ?_)
  have hP : va_P D classes [(h0, .inr (8, mS f tn rm ln lx at_ bd fs dp on os bn df th tp mo_ ev ss so lk rs pt ot cl)), ((f 14), .inl (cL, 120, .inr (.inl (vp_updL opd (nI on).toNatClampNeg t))))] H := hP
  have hD : va_D A [(h0, .inr (8, mS f tn rm ln lx at_ bd fs dp on os bn df th tp mo_ ev ss so lk rs pt ot cl)), ((f 14), .inl (cL, 120, .inr (.inl (vp_updL opd (nI on).toNatClampNeg t))))] := hD
  obtain ⟨g_1, eg_1⟩ : ∃ z, z = vp_updL opd on t := ⟨_, rfl⟩
  rw [nI_clamp (n := on) (by omega), ← eg_1] at hP hD
  refine lv_aload_n hx hb d_MO_push_10 rfl (lv_at hl 0 rfl) ?_
  refine lv_dup hx hb d_MO_push_11 rfl ?_
  refine va_get (D := D) (ci := 8) (v := .int (nI on)) (C := rn_MO) (T := fl_MO) (N := 55) hx hb hG in_MO hown hK hP 0 rfl rfl 17 (by decide) (hG _ k_1208) (fun _ h9 => h9) rfl d_MO_push_12 ?_
  refine lv_iconst (v := 1) hx hb d_MO_push_15 (by decide) ?_
  refine lw_iadd (a := on) (b := 1) hx hb d_MO_push_16 ?_
  refine va_put (D := D) (ci := 8) (v := .int (nI (on + 1))) (ty := .int) (C := rn_MO) (T := fl_MO) (N := 55) hx hb hG in_MO tt_MO tk_MO nn_MO hown hK hP hD hS 0 rfl rfl 17 (by decide) (hG _ k_1208) (fun _ h9 => h9) rfl (by decide +kernel) rfl rfl (Nat.le_of_ble_eq_true rfl) d_MO_push_17 (fun H locs hP hD hS => ?_)
  have hP : va_P D classes [(h0, .inr (8, mS f tn rm ln lx at_ bd fs dp (on + 1) os bn df th tp mo_ ev ss so lk rs pt ot cl)), ((f 14), .inl (cL, 120, .inr (.inl g_1)))] H := hP
  have hD : va_D A [(h0, .inr (8, mS f tn rm ln lx at_ bd fs dp (on + 1) os bn df th tp mo_ ev ss so lk rs pt ot cl)), ((f 14), .inl (cL, 120, .inr (.inl g_1)))] := hD
  exact em_vret hx hb hr hlocks hP hD hK hS (on + 1, g_1) [0, 1] (by decide) rfl ⟨rfl, ⟨(show g_1 = vp_updL opd on t from (by first | assumption | omega | exact Or.inl rfl)), (show (on + 1) = on + 1 from (by first | assumption | omega | exact Or.inl rfl))⟩⟩ d_MO_push_20
set_option maxHeartbeats 8000000 in
set_option maxRecDepth 100000 in
theorem mo_pop (l : Launch) (D : va_G) (cI cL cZ cC : ClassId) (f : Nat → Nat) (h0 : Nat) (tn : Int32) (rm : Nat) (ln : Nat) (lx : Nat) (at_ : Nat) (bd : Int32) (fs : Nat) (dp : Nat) (on : Nat) (os : Nat) (bn : Nat) (df : Nat) (th : Int32) (tp : Nat) (mo_ : Int32) (ev : Nat) (ss : Int32) (so : Int32) (lk : Int64) (rs : Int64) (pt : Int32) (ot : Nat) (cl : Int32) (opd : Nat → Int64) (sz : Nat) (hon1 : 1 ≤ on) (hon2 : on ≤ 120) (hnt : l.stackTraces = false) : em_Met l y_MO_pop (wz y_MO_pop b_MO_pop 1 (some .long)) ({ frames := 0, cells := 0, slots := 0, locals := 0 }) (va_Pc [.ref h0] (tw_pre D (tys4 cI cL cZ cC) [(h0, .inr (8, mS f tn rm ln lx at_ bd fs dp on os bn df th tp mo_ ev ss so lk rs pt ot cl)), ((f 14), .inl (cL, 120, .inr (.inl opd)))] sz)) D (tys4 cI cL cZ cC) (va_A [(h0, .inr (8, mS f tn rm ln lx at_ bd fs dp on os bn df th tp mo_ ev ss so lk rs pt ot cl)), ((f 14), .inl (cL, 120, .inr (.inl opd)))] sz) (fun (u : Nat) => [(h0, .inr (8, mS f tn rm ln lx at_ bd fs dp u os bn df th tp mo_ ev ss so lk rs pt ot cl)), ((f 14), .inl (cL, 120, .inr (.inl opd)))]) (fun v (u : Nat) => ∃ r : Int64, v = some (.long r) ∧ ((u = on - 1) ∧ (r = opd (on - 1)))) (fun C (u : Nat) => False) 0 0 := by
  refine em_Met.ofW (cc := b_MO_pop) (maxL := 1) (ret := (some .long)) (by decide) rfl ?_
  intro p e s m args below meth c s₁ B hml hv hno
  obtain ⟨rfl, ⟨hsz, hP, hK, hD0⟩, hE⟩ := hv
  have hx := B.exec
  have hb := B.bytes
  have hr := B.returns
  have hts := atoms_spec (ws := wz y_MO_pop b_MO_pop 1 (some .long)) B.pre
  have hG := wz_G hts
  have hown : s.vm.findClass rn_MO = some m.cls := findClass_of_methodNamed B.named
  have hlocks := B.notSynchronized
  subst hsz
  have hD := hD0.self (sz := s.heap.size)
  have hst := tw_st hP
  generalize hAe : va_A [(h0, .inr (8, mS f tn rm ln lx at_ bd fs dp on os bn df th tp mo_ ev ss so lk rs pt ot cl)), ((f 14), .inl (cL, 120, .inr (.inl opd)))] s.heap.size = A at hD hst ⊢
  have hA : ∀ q : Nat, s.heap.size ≤ q → A q := fun q h => by rw [← hAe]; exact Or.inr h
  have hS : va_S A s.heap s.heap [] := va_S.rf
  have hl := lv_entry ([.ref h0]) (n := 1) (Nat.le_of_ble_eq_true rfl)
  rw [lg_entry_eq]
  generalize (lg_sl ([.ref h0]) ++ List.replicate (1 - (lg_sl ([.ref h0])).length) Slot.unset).toArray = ls at hl ⊢
  have hl : lv_has ls 1 [(0, .ref h0)] := hl
  refine lv_aload_n hx hb d_MO_pop_0 rfl (lv_at hl 0 rfl) ?_
  refine lv_dup hx hb d_MO_pop_1 rfl ?_
  refine va_get (D := D) (ci := 8) (v := .int (nI on)) (C := rn_MO) (T := fl_MO) (N := 55) hx hb hG in_MO hown hK hP 0 rfl rfl 17 (by decide) (hG _ k_1208) (fun _ h9 => h9) rfl d_MO_pop_2 ?_
  refine lv_iconst (v := 1) hx hb d_MO_pop_5 (by decide) ?_
  refine lw_isub (a := on) (b := 1) hx hb d_MO_pop_6 (by omega) ?_
  refine va_put (D := D) (ci := 8) (v := .int (nI (on - 1))) (ty := .int) (C := rn_MO) (T := fl_MO) (N := 55) hx hb hG in_MO tt_MO tk_MO nn_MO hown hK hP hD hS 0 rfl rfl 17 (by decide) (hG _ k_1208) (fun _ h9 => h9) rfl (by decide +kernel) rfl rfl (Nat.le_of_ble_eq_true rfl) d_MO_pop_7 (fun H locs hP hD hS => ?_)
  have hP : va_P D classes [(h0, .inr (8, mS f tn rm ln lx at_ bd fs dp (on - 1) os bn df th tp mo_ ev ss so lk rs pt ot cl)), ((f 14), .inl (cL, 120, .inr (.inl opd)))] H := hP
  have hD : va_D A [(h0, .inr (8, mS f tn rm ln lx at_ bd fs dp (on - 1) os bn df th tp mo_ ev ss so lk rs pt ot cl)), ((f 14), .inl (cL, 120, .inr (.inl opd)))] := hD
  refine lv_aload_n hx hb d_MO_pop_10 rfl (lv_at hl 0 rfl) ?_
  refine va_get (D := D) (ci := 8) (v := .ref (f 14)) (C := rn_MO) (T := fl_MO) (N := 55) hx hb hG in_MO hown hK hP 0 rfl rfl 25 (by decide) (hG _ k_1216) (fun _ h9 => h9) rfl d_MO_pop_11 ?_
  refine lv_aload_n hx hb d_MO_pop_14 rfl (lv_at hl 0 rfl) ?_
  refine va_get (D := D) (ci := 8) (v := .int (nI (on - 1))) (C := rn_MO) (T := fl_MO) (N := 55) hx hb hG in_MO hown hK hP 0 rfl rfl 17 (by decide) (hG _ k_1208) (fun _ h9 => h9) rfl d_MO_pop_15 ?_
  refine va_lald hx hb hK hP 1 1 rfl rfl (vp_in_nI (n := on - 1) (N := 120) (by omega) (by omega)) d_MO_pop_18 ?_
  refine W.eq (g2 := F0 m 19 ls [.long (opd (on - 1))]) (by rw [nI_clamp (n := on - 1) (by omega)]) ?_
  exact em_lret hx hb hr hlocks hP hD hK hS (on - 1) [0, 1] (by decide) rfl ⟨_, rfl, ⟨(show (on - 1) = on - 1 from (by first | assumption | omega | exact Or.inl rfl)), (show (opd (on - 1) : Int64) = opd (on - 1) from rfl)⟩⟩ d_MO_pop_19
set_option maxHeartbeats 8000000 in
set_option maxRecDepth 100000 in
theorem mo_begin (l : Launch) (D : va_G) (cI cL cZ cC : ClassId) (f : Nat → Nat) (h0 : Nat) (tn : Int32) (rm : Nat) (ln : Nat) (lx : Nat) (at_ : Nat) (bd : Int32) (fs : Nat) (dp : Nat) (on : Nat) (os : Nat) (bn : Nat) (df : Nat) (th : Int32) (tp : Nat) (mo_ : Int32) (ev : Nat) (ss : Int32) (so : Int32) (lk : Int64) (rs : Int64) (pt : Int32) (ot : Nat) (cl : Int32) (bas : Nat → Int32) (rdy : Nat → Int32) (frh : Nat → Int32) (d : Nat) (sz : Nat) (hrdy : bln rdy) (hfrh : bln frh) (hd : d < 9) (hnt : l.stackTraces = false) : em_Met l y_MO_begin (wz y_MO_begin b_MO_begin 2 none) ({ frames := 0, cells := 0, slots := 0, locals := 0 }) (va_Pc [.ref h0, .int (nI d)] (tw_pre D (tys4 cI cL cZ cC) [(h0, .inr (8, mS f tn rm ln lx at_ bd fs dp on os bn df th tp mo_ ev ss so lk rs pt ot cl)), ((f 10), .inl (cI, 9, .inl bas)), ((f 12), .inl (cZ, 9, .inl rdy)), ((f 13), .inl (cZ, 9, .inl frh))] sz)) D (tys4 cI cL cZ cC) (va_A [(h0, .inr (8, mS f tn rm ln lx at_ bd fs dp on os bn df th tp mo_ ev ss so lk rs pt ot cl)), ((f 10), .inl (cI, 9, .inl bas)), ((f 12), .inl (cZ, 9, .inl rdy)), ((f 13), .inl (cZ, 9, .inl frh))] sz) (fun (u : (Nat → Int32) × (Nat → Int32) × (Nat → Int32)) => [(h0, .inr (8, mS f tn rm ln lx at_ bd fs dp on os bn df th tp mo_ ev ss so lk rs pt ot cl)), ((f 10), .inl (cI, 9, .inl u.1)), ((f 12), .inl (cZ, 9, .inl u.2.1)), ((f 13), .inl (cZ, 9, .inl u.2.2))]) (fun v (u : (Nat → Int32) × (Nat → Int32) × (Nat → Int32)) => v = none ∧ ((bln u.2.1) ∧ (bln u.2.2) ∧ (u.1 = upd bas d (nI os)) ∧ (u.2.1 = upd rdy d 0))) (fun C (u : (Nat → Int32) × (Nat → Int32) × (Nat → Int32)) => False) 0 0 := by
  refine em_Met.ofW (cc := b_MO_begin) (maxL := 2) (ret := none) (by decide) rfl ?_
  intro p e s m args below meth c s₁ B hml hv hno
  obtain ⟨rfl, ⟨hsz, hP, hK, hD0⟩, hE⟩ := hv
  have hx := B.exec
  have hb := B.bytes
  have hr := B.returns
  have hts := atoms_spec (ws := wz y_MO_begin b_MO_begin 2 none) B.pre
  have hG := wz_G hts
  have hown : s.vm.findClass rn_MO = some m.cls := findClass_of_methodNamed B.named
  have hlocks := B.notSynchronized
  subst hsz
  have hD := hD0.self (sz := s.heap.size)
  have hst := tw_st hP
  generalize hAe : va_A [(h0, .inr (8, mS f tn rm ln lx at_ bd fs dp on os bn df th tp mo_ ev ss so lk rs pt ot cl)), ((f 10), .inl (cI, 9, .inl bas)), ((f 12), .inl (cZ, 9, .inl rdy)), ((f 13), .inl (cZ, 9, .inl frh))] s.heap.size = A at hD hst ⊢
  have hA : ∀ q : Nat, s.heap.size ≤ q → A q := fun q h => by rw [← hAe]; exact Or.inr h
  have hS : va_S A s.heap s.heap [] := va_S.rf
  have hl := lv_entry ([.ref h0, .int (nI d)]) (n := 2) (Nat.le_of_ble_eq_true rfl)
  rw [lg_entry_eq]
  generalize (lg_sl ([.ref h0, .int (nI d)]) ++ List.replicate (2 - (lg_sl ([.ref h0, .int (nI d)])).length) Slot.unset).toArray = ls at hl ⊢
  have hl : lv_has ls 2 [(0, .ref h0), (1, .int (nI d))] := hl
  refine lv_aload_n hx hb d_MO_begin_0 rfl (lv_at hl 0 rfl) ?_
  refine va_get (D := D) (ci := 8) (v := .ref (f 10)) (C := rn_MO) (T := fl_MO) (N := 55) hx hb hG in_MO hown hK hP 0 rfl rfl 21 (by decide) (hG _ k_1212) (fun _ h9 => h9) rfl d_MO_begin_1 ?_
  refine lv_iload_n hx hb d_MO_begin_4 rfl (lv_at hl 1 rfl) ?_
  refine lv_aload_n hx hb d_MO_begin_5 rfl (lv_at hl 0 rfl) ?_
  refine va_get (D := D) (ci := 8) (v := .int (nI os)) (C := rn_MO) (T := fl_MO) (N := 55) hx hb hG in_MO hown hK hP 0 rfl rfl 18 (by decide) (hG _ k_1209) (fun _ h9 => h9) rfl d_MO_begin_6 ?_
  refine va_iast hx hb hK hP hD hS 1 0 rfl rfl (vp_in_nI (n := d) (N := 9) (by omega) (by omega)) d_MO_begin_9 (fun H locs hP hD hS => ?_)
  have hP : va_P D classes [(h0, .inr (8, mS f tn rm ln lx at_ bd fs dp on os bn df th tp mo_ ev ss so lk rs pt ot cl)), ((f 10), .inl (cI, 9, .inl (upd bas (nI d).toNatClampNeg (nI os)))), ((f 12), .inl (cZ, 9, .inl rdy)), ((f 13), .inl (cZ, 9, .inl frh))] H := hP
  have hD : va_D A [(h0, .inr (8, mS f tn rm ln lx at_ bd fs dp on os bn df th tp mo_ ev ss so lk rs pt ot cl)), ((f 10), .inl (cI, 9, .inl (upd bas (nI d).toNatClampNeg (nI os)))), ((f 12), .inl (cZ, 9, .inl rdy)), ((f 13), .inl (cZ, 9, .inl frh))] := hD
  obtain ⟨g_1, eg_1⟩ : ∃ z, z = upd bas d (nI os) := ⟨_, rfl⟩
  rw [nI_clamp (n := d) (by omega), ← eg_1] at hP hD
  refine lv_aload_n hx hb d_MO_begin_10 rfl (lv_at hl 0 rfl) ?_
  refine va_get (D := D) (ci := 8) (v := .ref (f 12)) (C := rn_MO) (T := fl_MO) (N := 55) hx hb hG in_MO hown hK hP 0 rfl rfl 23 (by decide) (hG _ k_1214) (fun _ h9 => h9) rfl d_MO_begin_11 ?_
  refine lv_iload_n hx hb d_MO_begin_14 rfl (lv_at hl 1 rfl) ?_
  refine lv_iconst (v := 0) hx hb d_MO_begin_15 (by decide) ?_
  refine va_zast hx hb hK hP hD hS 2 2 rfl rfl (vp_in_nI (n := d) (N := 9) (by omega) (by omega)) d_MO_begin_16 (fun H locs hP hD hS => ?_)
  have hP : va_P D classes [(h0, .inr (8, mS f tn rm ln lx at_ bd fs dp on os bn df th tp mo_ ev ss so lk rs pt ot cl)), ((f 10), .inl (cI, 9, .inl g_1)), ((f 12), .inl (cZ, 9, .inl (upd rdy (nI d).toNatClampNeg (vp_nar .boolean 0)))), ((f 13), .inl (cZ, 9, .inl frh))] H := hP
  have hD : va_D A [(h0, .inr (8, mS f tn rm ln lx at_ bd fs dp on os bn df th tp mo_ ev ss so lk rs pt ot cl)), ((f 10), .inl (cI, 9, .inl g_1)), ((f 12), .inl (cZ, 9, .inl (upd rdy (nI d).toNatClampNeg (vp_nar .boolean 0)))), ((f 13), .inl (cZ, 9, .inl frh))] := hD
  obtain ⟨g_2, eg_2⟩ : ∃ z, z = upd rdy d 0 := ⟨_, rfl⟩
  rw [nI_clamp (n := d) (by omega), nar_b (Or.inl rfl), ← eg_2] at hP hD
  have hg_2 : bln g_2 := by rw [eg_2]; exact bln_ub hrdy (Or.inl rfl)
  refine lv_aload_n hx hb d_MO_begin_17 rfl (lv_at hl 0 rfl) ?_
  refine va_get (D := D) (ci := 8) (v := .ref (f 13)) (C := rn_MO) (T := fl_MO) (N := 55) hx hb hG in_MO hown hK hP 0 rfl rfl 24 (by decide) (hG _ k_1215) (fun _ h9 => h9) rfl d_MO_begin_18 ?_
  refine lv_iload_n hx hb d_MO_begin_21 rfl (lv_at hl 1 rfl) ?_
  refine lv_iconst (v := 1) hx hb d_MO_begin_22 (by decide) ?_
  refine va_zast hx hb hK hP hD hS 3 2 rfl rfl (vp_in_nI (n := d) (N := 9) (by omega) (by omega)) d_MO_begin_23 (fun H locs hP hD hS => ?_)
  have hP : va_P D classes [(h0, .inr (8, mS f tn rm ln lx at_ bd fs dp on os bn df th tp mo_ ev ss so lk rs pt ot cl)), ((f 10), .inl (cI, 9, .inl g_1)), ((f 12), .inl (cZ, 9, .inl g_2)), ((f 13), .inl (cZ, 9, .inl (upd frh (nI d).toNatClampNeg (vp_nar .boolean 1))))] H := hP
  have hD : va_D A [(h0, .inr (8, mS f tn rm ln lx at_ bd fs dp on os bn df th tp mo_ ev ss so lk rs pt ot cl)), ((f 10), .inl (cI, 9, .inl g_1)), ((f 12), .inl (cZ, 9, .inl g_2)), ((f 13), .inl (cZ, 9, .inl (upd frh (nI d).toNatClampNeg (vp_nar .boolean 1))))] := hD
  obtain ⟨g_3, eg_3⟩ : ∃ z, z = upd frh d 1 := ⟨_, rfl⟩
  rw [nI_clamp (n := d) (by omega), nar_b (Or.inr rfl), ← eg_3] at hP hD
  have hg_3 : bln g_3 := by rw [eg_3]; exact bln_ub hfrh (Or.inr rfl)
  exact em_vret hx hb hr hlocks hP hD hK hS (g_1, g_2, g_3) [0, 1, 2, 3] (by decide) rfl ⟨rfl, ⟨hg_2, hg_3, (show g_1 = upd bas d (nI os) from (by first | assumption | omega | exact Or.inl rfl)), (show g_2 = upd rdy d 0 from (by first | assumption | omega | exact Or.inl rfl))⟩⟩ d_MO_begin_24
set_option maxHeartbeats 8000000 in
set_option maxRecDepth 100000 in
theorem mo_open (l : Launch) (D : va_G) (cI cL cZ cC : ClassId) (f : Nat → Nat) (h0 : Nat) (tn : Int32) (rm : Nat) (ln : Nat) (lx : Nat) (at_ : Nat) (bd : Int32) (fs : Nat) (dp : Nat) (on : Nat) (os : Nat) (bn : Nat) (df : Nat) (th : Int32) (tp : Nat) (mo_ : Int32) (ev : Nat) (ss : Int32) (so : Int32) (lk : Int64) (rs : Int64) (pt : Int32) (ot : Nat) (cl : Int32) (srt : Nat → Int32) (fst : Nat → Int32) (bas : Nat → Int32) (rdy : Nat → Int32) (frh : Nat → Int32) (k : Nat) (sz : Nat) (hrdy : bln rdy) (hfrh : bln frh) (hdp : dp ≤ 8) (hbo : bdo bd) (hnt : l.stackTraces = false) : em_Met l y_MO_open (wz y_MO_open b_MO_open 2 none) ({ frames := 1, cells := 0, slots := 0, locals := 21 }) (va_Pc [.ref h0, .int (nI k)] (tw_pre D (tys4 cI cL cZ cC) [(h0, .inr (8, mS f tn rm ln lx at_ bd fs dp on os bn df th tp mo_ ev ss so lk rs pt ot cl)), ((f 9), .inl (cI, 9, .inl srt)), ((f 11), .inl (cI, 9, .inl fst)), ((f 10), .inl (cI, 9, .inl bas)), ((f 12), .inl (cZ, 9, .inl rdy)), ((f 13), .inl (cZ, 9, .inl frh))] sz)) D (tys4 cI cL cZ cC) (va_A [(h0, .inr (8, mS f tn rm ln lx at_ bd fs dp on os bn df th tp mo_ ev ss so lk rs pt ot cl)), ((f 9), .inl (cI, 9, .inl srt)), ((f 11), .inl (cI, 9, .inl fst)), ((f 10), .inl (cI, 9, .inl bas)), ((f 12), .inl (cZ, 9, .inl rdy)), ((f 13), .inl (cZ, 9, .inl frh))] sz) (fun (u : Nat × Int32 × (Nat → Int32) × (Nat → Int32) × (Nat → Int32) × (Nat → Int32) × (Nat → Int32)) => [(h0, .inr (8, mS f tn rm ln lx at_ u.2.1 fs u.1 on os bn df th tp mo_ ev ss so lk rs pt ot cl)), ((f 9), .inl (cI, 9, .inl u.2.2.1)), ((f 11), .inl (cI, 9, .inl u.2.2.2.1)), ((f 10), .inl (cI, 9, .inl u.2.2.2.2.1)), ((f 12), .inl (cZ, 9, .inl u.2.2.2.2.2.1)), ((f 13), .inl (cZ, 9, .inl u.2.2.2.2.2.2))]) (fun v (u : Nat × Int32 × (Nat → Int32) × (Nat → Int32) × (Nat → Int32) × (Nat → Int32) × (Nat → Int32)) => v = none ∧ ((bln u.2.2.2.2.2.1) ∧ (bln u.2.2.2.2.2.2) ∧ (bdo u.2.1) ∧ (((dp = 8 ∧ ¬ u.2.1 = 0) ∨ (¬ dp = 8 ∧ u.2.1 = bd ∧ u.1 = dp + 1 ∧ u.2.2.1 = upd srt dp (nI k) ∧ u.2.2.2.1 = upd fst dp (nI on) ∧ u.2.2.2.2.1 = upd bas dp (nI os) ∧ u.2.2.2.2.2.1 = upd rdy dp 0))))) (fun C (u : Nat × Int32 × (Nat → Int32) × (Nat → Int32) × (Nat → Int32) × (Nat → Int32) × (Nat → Int32)) => False) 0 0 := by
  refine em_Met.ofW (cc := b_MO_open) (maxL := 2) (ret := none) (by decide) rfl ?_
  intro p e s m args below meth c s₁ B hml hv hno
  obtain ⟨rfl, ⟨hsz, hP, hK, hD0⟩, hE⟩ := hv
  have hx := B.exec
  have hb := B.bytes
  have hr := B.returns
  have hts := atoms_spec (ws := wz y_MO_open b_MO_open 2 none) B.pre
  have hG := wz_G hts
  have hown : s.vm.findClass rn_MO = some m.cls := findClass_of_methodNamed B.named
  have hlocks := B.notSynchronized
  subst hsz
  have hD := hD0.self (sz := s.heap.size)
  have hst := tw_st hP
  generalize hAe : va_A [(h0, .inr (8, mS f tn rm ln lx at_ bd fs dp on os bn df th tp mo_ ev ss so lk rs pt ot cl)), ((f 9), .inl (cI, 9, .inl srt)), ((f 11), .inl (cI, 9, .inl fst)), ((f 10), .inl (cI, 9, .inl bas)), ((f 12), .inl (cZ, 9, .inl rdy)), ((f 13), .inl (cZ, 9, .inl frh))] s.heap.size = A at hD hst ⊢
  have hA : ∀ q : Nat, s.heap.size ≤ q → A q := fun q h => by rw [← hAe]; exact Or.inr h
  have hS : va_S A s.heap s.heap [] := va_S.rf
  have hl := lv_entry ([.ref h0, .int (nI k)]) (n := 2) (Nat.le_of_ble_eq_true rfl)
  rw [lg_entry_eq]
  generalize (lg_sl ([.ref h0, .int (nI k)]) ++ List.replicate (2 - (lg_sl ([.ref h0, .int (nI k)])).length) Slot.unset).toArray = ls at hl ⊢
  have hl : lv_has ls 2 [(0, .ref h0), (1, .int (nI k))] := hl
  refine lv_aload_n hx hb d_MO_open_0 rfl (lv_at hl 0 rfl) ?_
  refine va_get (D := D) (ci := 8) (v := .int (nI dp)) (C := rn_MO) (T := fl_MO) (N := 55) hx hb hG in_MO hown hK hP 0 rfl rfl 16 (by decide) (hG _ k_1207) (fun _ h9 => h9) rfl d_MO_open_1 ?_
  refine lv_bipush (v := 8) hx hb d_MO_open_4 (by decide) ?_
  refine lv_icmp_ne (tgt := 15) hx hb d_MO_open_6 (by decide) (fun hb_1 => ?_) (fun hb_1 => ?_)
  · skip
    have hn_2 : ¬ dp = 8 := fun h => hb_1 ((nI_eq (a := dp) (b := 8) (by omega) (by omega)).mpr h)
    refine lv_aload_n hx hb d_MO_open_15 rfl (lv_at hl 0 rfl) ?_
    refine va_get (D := D) (ci := 8) (v := .ref (f 9)) (C := rn_MO) (T := fl_MO) (N := 55) hx hb hG in_MO hown hK hP 0 rfl rfl 20 (by decide) (hG _ k_1211) (fun _ h9 => h9) rfl d_MO_open_16 ?_
    refine lv_aload_n hx hb d_MO_open_19 rfl (lv_at hl 0 rfl) ?_
    refine va_get (D := D) (ci := 8) (v := .int (nI dp)) (C := rn_MO) (T := fl_MO) (N := 55) hx hb hG in_MO hown hK hP 0 rfl rfl 16 (by decide) (hG _ k_1207) (fun _ h9 => h9) rfl d_MO_open_20 ?_
    refine lv_iload_n hx hb d_MO_open_23 rfl (lv_at hl 1 rfl) ?_
    refine va_iast hx hb hK hP hD hS 1 0 rfl rfl (vp_in_nI (n := dp) (N := 9) (by omega) (by omega)) d_MO_open_24 (fun H locs hP hD hS => ?_)
    have hP : va_P D classes [(h0, .inr (8, mS f tn rm ln lx at_ bd fs dp on os bn df th tp mo_ ev ss so lk rs pt ot cl)), ((f 9), .inl (cI, 9, .inl (upd srt (nI dp).toNatClampNeg (nI k)))), ((f 11), .inl (cI, 9, .inl fst)), ((f 10), .inl (cI, 9, .inl bas)), ((f 12), .inl (cZ, 9, .inl rdy)), ((f 13), .inl (cZ, 9, .inl frh))] H := hP
    have hD : va_D A [(h0, .inr (8, mS f tn rm ln lx at_ bd fs dp on os bn df th tp mo_ ev ss so lk rs pt ot cl)), ((f 9), .inl (cI, 9, .inl (upd srt (nI dp).toNatClampNeg (nI k)))), ((f 11), .inl (cI, 9, .inl fst)), ((f 10), .inl (cI, 9, .inl bas)), ((f 12), .inl (cZ, 9, .inl rdy)), ((f 13), .inl (cZ, 9, .inl frh))] := hD
    obtain ⟨g_3, eg_3⟩ : ∃ z, z = upd srt dp (nI k) := ⟨_, rfl⟩
    rw [nI_clamp (n := dp) (by omega), ← eg_3] at hP hD
    refine lv_aload_n hx hb d_MO_open_25 rfl (lv_at hl 0 rfl) ?_
    refine va_get (D := D) (ci := 8) (v := .ref (f 11)) (C := rn_MO) (T := fl_MO) (N := 55) hx hb hG in_MO hown hK hP 0 rfl rfl 22 (by decide) (hG _ k_1213) (fun _ h9 => h9) rfl d_MO_open_26 ?_
    refine lv_aload_n hx hb d_MO_open_29 rfl (lv_at hl 0 rfl) ?_
    refine va_get (D := D) (ci := 8) (v := .int (nI dp)) (C := rn_MO) (T := fl_MO) (N := 55) hx hb hG in_MO hown hK hP 0 rfl rfl 16 (by decide) (hG _ k_1207) (fun _ h9 => h9) rfl d_MO_open_30 ?_
    refine lv_aload_n hx hb d_MO_open_33 rfl (lv_at hl 0 rfl) ?_
    refine va_get (D := D) (ci := 8) (v := .int (nI on)) (C := rn_MO) (T := fl_MO) (N := 55) hx hb hG in_MO hown hK hP 0 rfl rfl 17 (by decide) (hG _ k_1208) (fun _ h9 => h9) rfl d_MO_open_34 ?_
    refine va_iast hx hb hK hP hD hS 2 0 rfl rfl (vp_in_nI (n := dp) (N := 9) (by omega) (by omega)) d_MO_open_37 (fun H locs hP hD hS => ?_)
    have hP : va_P D classes [(h0, .inr (8, mS f tn rm ln lx at_ bd fs dp on os bn df th tp mo_ ev ss so lk rs pt ot cl)), ((f 9), .inl (cI, 9, .inl g_3)), ((f 11), .inl (cI, 9, .inl (upd fst (nI dp).toNatClampNeg (nI on)))), ((f 10), .inl (cI, 9, .inl bas)), ((f 12), .inl (cZ, 9, .inl rdy)), ((f 13), .inl (cZ, 9, .inl frh))] H := hP
    have hD : va_D A [(h0, .inr (8, mS f tn rm ln lx at_ bd fs dp on os bn df th tp mo_ ev ss so lk rs pt ot cl)), ((f 9), .inl (cI, 9, .inl g_3)), ((f 11), .inl (cI, 9, .inl (upd fst (nI dp).toNatClampNeg (nI on)))), ((f 10), .inl (cI, 9, .inl bas)), ((f 12), .inl (cZ, 9, .inl rdy)), ((f 13), .inl (cZ, 9, .inl frh))] := hD
    obtain ⟨g_4, eg_4⟩ : ∃ z, z = upd fst dp (nI on) := ⟨_, rfl⟩
    rw [nI_clamp (n := dp) (by omega), ← eg_4] at hP hD
    refine lv_aload_n hx hb d_MO_open_38 rfl (lv_at hl 0 rfl) ?_
    refine lv_aload_n hx hb d_MO_open_39 rfl (lv_at hl 0 rfl) ?_
    refine va_get (D := D) (ci := 8) (v := .int (nI dp)) (C := rn_MO) (T := fl_MO) (N := 55) hx hb hG in_MO hown hK hP 0 rfl rfl 16 (by decide) (hG _ k_1207) (fun _ h9 => h9) rfl d_MO_open_40 ?_
    refine em_call (wr := [((f 9), .inl (cI, 9, .inl g_3)), ((f 11), .inl (cI, 9, .inl g_4))]) (em_runV (As := [.int (nI dp)]) (rest := []) ⟨hx, hb, hml, hown, hG⟩ (mo_begin l D cI cL cZ cC f h0 tn rm ln lx at_ bd fs dp on os bn df th tp mo_ ev ss so lk rs pt ot cl bas rdy frh dp _ hrdy hfrh (by first | assumption | omega | exact Or.inl rfl) hnt) (cwV 1 hG (gd_V k_1437 k_1439 k_63 k_116 k_1440) rfl rfl rfl (by decide +kernel) ⟨Nat.le_of_ble_eq_true rfl, Nat.le_of_ble_eq_true rfl⟩) (tw_V (q0 := 0) hP hD hK hE hst hS rfl rfl [0, 3, 4, 5] rfl (by decide)) rfl rfl hl.1 rfl (lv_room (Nat.le_of_ble_eq_true rfl)) d_MO_open_43 ⟨Nat.le_of_ble_eq_true rfl, Nat.le_of_ble_eq_true rfl⟩) hP hD hS hA [0, 3, 4, 5] [1, 2] rfl rfl (by decide) (by decide) (fun v u H locs hok hP hD hS => ?_) (fun x C u H locs hbad hxx hP hD hS => ?_)
    · skip
      obtain ⟨bas_5, rdy_6, frh_7⟩ := u
      obtain ⟨rfl, hp_9⟩ := hok
      obtain ⟨hrdy_10, hfrh_11, hbs_12, hrd_13⟩ : (bln rdy_6) ∧ (bln frh_7) ∧ (bas_5 = upd bas dp (nI os)) ∧ (rdy_6 = upd rdy dp 0) := hp_9
      have hP : va_P D classes [((f 9), .inl (cI, 9, .inl g_3)), ((f 11), .inl (cI, 9, .inl g_4)), (h0, .inr (8, mS f tn rm ln lx at_ bd fs dp on os bn df th tp mo_ ev ss so lk rs pt ot cl)), ((f 10), .inl (cI, 9, .inl bas_5)), ((f 12), .inl (cZ, 9, .inl rdy_6)), ((f 13), .inl (cZ, 9, .inl frh_7))] H := hP
      have hD : va_D A [((f 9), .inl (cI, 9, .inl g_3)), ((f 11), .inl (cI, 9, .inl g_4)), (h0, .inr (8, mS f tn rm ln lx at_ bd fs dp on os bn df th tp mo_ ev ss so lk rs pt ot cl)), ((f 10), .inl (cI, 9, .inl bas_5)), ((f 12), .inl (cZ, 9, .inl rdy_6)), ((f 13), .inl (cZ, 9, .inl frh_7))] := hD
      refine W.eq (g2 := F0 m 46 ls []) rfl ?_
      refine lv_aload_n hx hb d_MO_open_46 rfl (lv_at hl 0 rfl) ?_
      refine lv_dup hx hb d_MO_open_47 rfl ?_
      refine va_get (D := D) (ci := 8) (v := .int (nI dp)) (C := rn_MO) (T := fl_MO) (N := 55) hx hb hG in_MO hown hK hP 2 rfl rfl 16 (by decide) (hG _ k_1207) (fun _ h9 => h9) rfl d_MO_open_48 ?_
      refine lv_iconst (v := 1) hx hb d_MO_open_51 (by decide) ?_
      refine lw_iadd (a := dp) (b := 1) hx hb d_MO_open_52 ?_
      refine va_put (D := D) (ci := 8) (v := .int (nI (dp + 1))) (ty := .int) (C := rn_MO) (T := fl_MO) (N := 55) hx hb hG in_MO tt_MO tk_MO nn_MO hown hK hP hD hS 2 rfl rfl 16 (by decide) (hG _ k_1207) (fun _ h9 => h9) rfl (by decide +kernel) rfl rfl (Nat.le_of_ble_eq_true rfl) d_MO_open_53 (fun H locs hP hD hS => ?_)
      have hP : va_P D classes [((f 9), .inl (cI, 9, .inl g_3)), ((f 11), .inl (cI, 9, .inl g_4)), (h0, .inr (8, mS f tn rm ln lx at_ bd fs (dp + 1) on os bn df th tp mo_ ev ss so lk rs pt ot cl)), ((f 10), .inl (cI, 9, .inl bas_5)), ((f 12), .inl (cZ, 9, .inl rdy_6)), ((f 13), .inl (cZ, 9, .inl frh_7))] H := hP
      have hD : va_D A [((f 9), .inl (cI, 9, .inl g_3)), ((f 11), .inl (cI, 9, .inl g_4)), (h0, .inr (8, mS f tn rm ln lx at_ bd fs (dp + 1) on os bn df th tp mo_ ev ss so lk rs pt ot cl)), ((f 10), .inl (cI, 9, .inl bas_5)), ((f 12), .inl (cZ, 9, .inl rdy_6)), ((f 13), .inl (cZ, 9, .inl frh_7))] := hD
      exact em_vret hx hb hr hlocks hP hD hK hS (dp + 1, bd, g_3, g_4, bas_5, rdy_6, frh_7) [2, 0, 1, 3, 4, 5] (by decide) rfl ⟨rfl, ⟨hrdy_10, hfrh_11, (show bdo bd from (by first | assumption | omega | exact Or.inl rfl)), (show ((dp = 8 ∧ ¬ bd = 0) ∨ (¬ dp = 8 ∧ bd = bd ∧ (dp + 1) = dp + 1 ∧ g_3 = upd srt dp (nI k) ∧ g_4 = upd fst dp (nI on) ∧ bas_5 = upd bas dp (nI os) ∧ rdy_6 = upd rdy dp 0)) from (Or.inr ⟨by assumption, rfl, rfl, by assumption, by assumption, by assumption, by assumption⟩))⟩⟩ d_MO_open_56
    · skip
      exact hbad.elim
  · skip
    have hn_15 : dp = 8 := (nI_eq (a := dp) (b := 8) (by omega) (by omega)).mp hb_1
    refine lv_aload_n hx hb d_MO_open_9 rfl (lv_at hl 0 rfl) ?_
    refine lv_iconst (v := 2) hx hb d_MO_open_10 (by decide) ?_
    refine em_call (wr := [((f 9), .inl (cI, 9, .inl srt)), ((f 11), .inl (cI, 9, .inl fst)), ((f 10), .inl (cI, 9, .inl bas)), ((f 12), .inl (cZ, 9, .inl rdy)), ((f 13), .inl (cZ, 9, .inl frh))]) (em_runV (As := [.int 2]) (rest := []) ⟨hx, hb, hml, hown, hG⟩ (mo_wrong l D cI cL cZ cC f h0 tn rm ln lx at_ bd fs dp on os bn df th tp mo_ ev ss so lk rs pt ot cl 2 _ (by decide) (by first | assumption | omega | exact Or.inl rfl) hnt) (cwV 1 hG (gd_V k_1388 k_1390 k_54 k_116 k_1391) rfl rfl rfl (by decide +kernel) ⟨Nat.le_of_ble_eq_true rfl, Nat.le_of_ble_eq_true rfl⟩) (tw_V (q0 := 0) hP hD hK hE hst hS rfl rfl [0] rfl (by decide)) rfl rfl hl.1 rfl (lv_room (Nat.le_of_ble_eq_true rfl)) d_MO_open_11 ⟨Nat.le_of_ble_eq_true rfl, Nat.le_of_ble_eq_true rfl⟩) hP hD hS hA [0] [1, 2, 3, 4, 5] rfl rfl (by decide) (by decide) (fun v u H locs hok hP hD hS => ?_) (fun x C u H locs hbad hxx hP hD hS => ?_)
    · skip
      obtain ⟨bd_16, rfl⟩ : ∃ z, z = u := ⟨_, rfl⟩
      obtain ⟨rfl, hp_18⟩ := hok
      obtain ⟨hbn_19, hbo_20, hbx_21⟩ : (¬ bd_16 = 0) ∧ (bdo bd_16) ∧ (bd = 0 → bd_16 = (2 : Int32)) := hp_18
      have hP : va_P D classes [((f 9), .inl (cI, 9, .inl srt)), ((f 11), .inl (cI, 9, .inl fst)), ((f 10), .inl (cI, 9, .inl bas)), ((f 12), .inl (cZ, 9, .inl rdy)), ((f 13), .inl (cZ, 9, .inl frh)), (h0, .inr (8, mS f tn rm ln lx at_ bd_16 fs dp on os bn df th tp mo_ ev ss so lk rs pt ot cl))] H := hP
      have hD : va_D A [((f 9), .inl (cI, 9, .inl srt)), ((f 11), .inl (cI, 9, .inl fst)), ((f 10), .inl (cI, 9, .inl bas)), ((f 12), .inl (cZ, 9, .inl rdy)), ((f 13), .inl (cZ, 9, .inl frh)), (h0, .inr (8, mS f tn rm ln lx at_ bd_16 fs dp on os bn df th tp mo_ ev ss so lk rs pt ot cl))] := hD
      refine W.eq (g2 := F0 m 14 ls []) rfl ?_
      exact em_vret hx hb hr hlocks hP hD hK hS (dp, bd_16, srt, fst, bas, rdy, frh) [5, 0, 1, 2, 3, 4] (by decide) rfl ⟨rfl, ⟨hrdy, hfrh, (show bdo bd_16 from (by first | assumption | omega | exact Or.inl rfl)), (show ((dp = 8 ∧ ¬ bd_16 = 0) ∨ (¬ dp = 8 ∧ bd_16 = bd ∧ dp = dp + 1 ∧ srt = upd srt dp (nI k) ∧ fst = upd fst dp (nI on) ∧ bas = upd bas dp (nI os) ∧ rdy = upd rdy dp 0)) from (Or.inl ⟨by assumption, by assumption⟩))⟩⟩ d_MO_open_14
    · skip
      exact hbad.elim
set_option maxHeartbeats 8000000 in
set_option maxRecDepth 100000 in
theorem mo_named (l : Launch) (D : va_G) (cI cL cZ cC : ClassId) (f : Nat → Nat) (h0 : Nat) (tn : Int32) (rm : Nat) (ln : Nat) (lx : Nat) (at_ : Nat) (bd : Int32) (fs : Nat) (dp : Nat) (on : Nat) (os : Nat) (bn : Nat) (df : Nat) (th : Int32) (tp : Nat) (mo_ : Int32) (ev : Nat) (ss : Int32) (so : Int32) (lk : Int64) (rs : Int64) (pt : Int32) (ot : Nat) (cl : Int32) (nms : Nat → Int64) (dfd : Nat → Int64) (w : Int64) (sz : Nat) (hbn1 : bn ≤ 16) (hdf : df ≤ 8) (hbo : bdo bd) (hnt : l.stackTraces = false) : em_Met l y_MO_named (wz y_MO_named b_MO_named 4 (some .long)) ({ frames := 2, cells := 0, slots := 0, locals := 41 }) (va_Pc [.ref h0, .long w] (tw_pre D (tys4 cI cL cZ cC) [(h0, .inr (8, mS f tn rm ln lx at_ bd fs dp on os bn df th tp mo_ ev ss so lk rs pt ot cl)), ((f 16), .inl (cL, 16, .inr (.inl nms))), ((f 17), .inl (cL, 8, .inr (.inl dfd)))] sz)) D (tys4 cI cL cZ cC) (va_A [(h0, .inr (8, mS f tn rm ln lx at_ bd fs dp on os bn df th tp mo_ ev ss so lk rs pt ot cl)), ((f 16), .inl (cL, 16, .inr (.inl nms))), ((f 17), .inl (cL, 8, .inr (.inl dfd)))] sz) (fun (u : Int32) => [(h0, .inr (8, mS f tn rm ln lx at_ u fs dp on os bn df th tp mo_ ev ss so lk rs pt ot cl)), ((f 16), .inl (cL, 16, .inr (.inl nms))), ((f 17), .inl (cL, 8, .inr (.inl dfd)))]) (fun v (u : Int32) => ∃ r : Int64, v = some (.long r) ∧ ((bdo u) ∧ (((u = bd ∧ okw df bn r) ∨ (¬ u = 0 ∧ ¬ wkind r = 3))))) (fun C (u : Int32) => False) 0 0 := by
  refine em_Met.ofW (cc := b_MO_named) (maxL := 4) (ret := (some .long)) (by decide) rfl ?_
  intro p e s m args below meth c s₁ B hml hv hno
  obtain ⟨rfl, ⟨hsz, hP, hK, hD0⟩, hE⟩ := hv
  have hx := B.exec
  have hb := B.bytes
  have hr := B.returns
  have hts := atoms_spec (ws := wz y_MO_named b_MO_named 4 (some .long)) B.pre
  have hG := wz_G hts
  have hown : s.vm.findClass rn_MO = some m.cls := findClass_of_methodNamed B.named
  have hlocks := B.notSynchronized
  subst hsz
  have hD := hD0.self (sz := s.heap.size)
  have hst := tw_st hP
  generalize hAe : va_A [(h0, .inr (8, mS f tn rm ln lx at_ bd fs dp on os bn df th tp mo_ ev ss so lk rs pt ot cl)), ((f 16), .inl (cL, 16, .inr (.inl nms))), ((f 17), .inl (cL, 8, .inr (.inl dfd)))] s.heap.size = A at hD hst ⊢
  have hA : ∀ q : Nat, s.heap.size ≤ q → A q := fun q h => by rw [← hAe]; exact Or.inr h
  have hS : va_S A s.heap s.heap [] := va_S.rf
  have hl := lv_entry ([.ref h0, .long w]) (n := 4) (Nat.le_of_ble_eq_true rfl)
  rw [lg_entry_eq]
  generalize (lg_sl ([.ref h0, .long w]) ++ List.replicate (4 - (lg_sl ([.ref h0, .long w])).length) Slot.unset).toArray = ls at hl ⊢
  have hl : lv_has ls 4 [(0, .ref h0), (1, .long w)] := hl
  have loop_2 : ∀ (k_1 : Nat) (i : Nat) (H : Heap) (locs : List Loc) (ls : Array Slot), df - i < k_1 → (i ≤ df) → lv_has ls 4 [(0, .ref h0), (1, .long w), (3, .int (nI i))] → va_P D classes [(h0, .inr (8, mS f tn rm ln lx at_ bd fs dp on os bn df th tp mo_ ev ss so lk rs pt ot cl)), ((f 16), .inl (cL, 16, .inr (.inl nms))), ((f 17), .inl (cL, 8, .inr (.inl dfd)))] H → va_D A [(h0, .inr (8, mS f tn rm ln lx at_ bd fs dp on os bn df th tp mo_ ev ss so lk rs pt ot cl)), ((f 16), .inl (cL, 16, .inr (.inl nms))), ((f 17), .inl (cL, 8, .inr (.inl dfd)))] → va_S A s.heap H locs → W p l e (headSpec (wz y_MO_named b_MO_named 4 (some .long)) ({ frames := 2, cells := 0, slots := 0, locals := 41 })).room s m ([.ref h0, .long w] : List Value).toArray below meth c H locs 0 0 (em_MQ below D (tys4 cI cL cZ cC) A (fun (u : Int32) => [(h0, .inr (8, mS f tn rm ln lx at_ u fs dp on os bn df th tp mo_ ev ss so lk rs pt ot cl)), ((f 16), .inl (cL, 16, .inr (.inl nms))), ((f 17), .inl (cL, 8, .inr (.inl dfd)))]) (fun v (u : Int32) => ∃ r : Int64, v = some (.long r) ∧ ((bdo u) ∧ (((u = bd ∧ okw df bn r) ∨ (¬ u = 0 ∧ ¬ wkind r = 3))))) (fun C (u : Int32) => False) s 0 0) (F0 m 36 ls []) := by
    intro k_1
    induction k_1 with
    | zero => intro i H locs ls hm; exact absurd hm (Nat.not_lt_zero _)
    | succ k_1 ih_3 =>
      intro i H locs ls hm hi hl hP hD hS
      refine lv_iload_n hx hb d_MO_named_36 rfl (lv_at hl 2 rfl) ?_
      refine lv_aload_n hx hb d_MO_named_37 rfl (lv_at hl 0 rfl) ?_
      refine va_get (D := D) (ci := 8) (v := .int (nI df)) (C := rn_MO) (T := fl_MO) (N := 55) hx hb hG in_MO hown hK hP 0 rfl rfl 28 (by decide) (hG _ k_1219) (fun _ h9 => h9) rfl d_MO_named_38 ?_
      refine lv_icmp_ge (tgt := 67) hx hb d_MO_named_41 (by decide) (fun hb_4 => ?_) (fun hb_4 => ?_)
      · skip
        have hn_5 : df ≤ i := (nI_leI (a := df) (b := i) (by omega) (by omega)).mp hb_4
        refine lv_lload_n hx hb d_MO_named_67 rfl (lv_at hl 1 rfl) ?_
        refine lv_ldc2 (v := 25704) hx hb hown (hG _ k_1472) d_MO_named_68 ?_
        refine W.lcmp hx hb d_MO_named_71 ?_
        refine lv_if_ne (tgt := 80) hx hb d_MO_named_72 (by decide) (fun hb_6 => ?_) (fun hb_6 => ?_)
        · skip
          have hq_7 : ¬ _ := fun h => hb_6 ((lg_cmp_eq _ _).mpr h)
          refine lv_lload_n hx hb d_MO_named_80 rfl (lv_at hl 1 rfl) ?_
          refine lv_ldc2 (v := 27764) hx hb hown (hG _ k_1473) d_MO_named_81 ?_
          refine W.lcmp hx hb d_MO_named_84 ?_
          refine lv_if_ne (tgt := 93) hx hb d_MO_named_85 (by decide) (fun hb_8 => ?_) (fun hb_8 => ?_)
          · skip
            have hq_9 : ¬ _ := fun h => hb_8 ((lg_cmp_eq _ _).mpr h)
            refine lv_lload_n hx hb d_MO_named_93 rfl (lv_at hl 1 rfl) ?_
            refine lv_ldc2 (v := 7107950) hx hb hown (hG _ k_1474) d_MO_named_94 ?_
            refine W.lcmp hx hb d_MO_named_97 ?_
            refine lv_if_ne (tgt := 106) hx hb d_MO_named_98 (by decide) (fun hb_10 => ?_) (fun hb_10 => ?_)
            · skip
              have hq_11 : ¬ _ := fun h => hb_10 ((lg_cmp_eq _ _).mpr h)
              refine lv_iconst (v := (-1)) hx hb d_MO_named_106 (by decide) ?_
              refine lv_istore_n (lv' := [(3, .int (-1)), (0, .ref h0), (1, .long w)]) hx hb d_MO_named_107 rfl hl (Nat.le_of_ble_eq_true rfl) rfl (fun ls hl => ?_)
              refine lv_iload_n hx hb d_MO_named_108 rfl (lv_at hl 0 rfl) ?_
              refine lv_if_ge (tgt := 117) hx hb d_MO_named_109 (by decide) (fun hbr => absurd hbr (by decide)) (fun hbr => ?_)
              refine lv_aload_n hx hb d_MO_named_112 rfl (lv_at hl 1 rfl) ?_
              refine lv_iconst (v := 1) hx hb d_MO_named_113 (by decide) ?_
              refine em_call (wr := [((f 16), .inl (cL, 16, .inr (.inl nms))), ((f 17), .inl (cL, 8, .inr (.inl dfd)))]) (em_runV (As := [.int 1]) (rest := []) ⟨hx, hb, hml, hown, hG⟩ (mo_wrong l D cI cL cZ cC f h0 tn rm ln lx at_ bd fs dp on os bn df th tp mo_ ev ss so lk rs pt ot cl 1 _ (by decide) (by first | assumption | omega | exact Or.inl rfl) hnt) (cwV 1 hG (gd_V k_1388 k_1390 k_54 k_116 k_1391) rfl rfl rfl (by decide +kernel) ⟨Nat.le_of_ble_eq_true rfl, Nat.le_of_ble_eq_true rfl⟩) (tw_V (q0 := 0) hP hD hK hE hst hS rfl rfl [0] rfl (by decide)) rfl rfl hl.1 rfl (lv_room (Nat.le_of_ble_eq_true rfl)) d_MO_named_114 ⟨Nat.le_of_ble_eq_true rfl, Nat.le_of_ble_eq_true rfl⟩) hP hD hS hA [0] [1, 2] rfl rfl (by decide) (by decide) (fun v u H locs hok hP hD hS => ?_) (fun x C u H locs hbad hxx hP hD hS => ?_)
              · skip
                obtain ⟨bd_12, rfl⟩ : ∃ z, z = u := ⟨_, rfl⟩
                obtain ⟨rfl, hp_14⟩ := hok
                obtain ⟨hbn_15, hbo_16, hbx_17⟩ : (¬ bd_12 = 0) ∧ (bdo bd_12) ∧ (bd = 0 → bd_12 = (1 : Int32)) := hp_14
                have hP : va_P D classes [((f 16), .inl (cL, 16, .inr (.inl nms))), ((f 17), .inl (cL, 8, .inr (.inl dfd))), (h0, .inr (8, mS f tn rm ln lx at_ bd_12 fs dp on os bn df th tp mo_ ev ss so lk rs pt ot cl))] H := hP
                have hD : va_D A [((f 16), .inl (cL, 16, .inr (.inl nms))), ((f 17), .inl (cL, 8, .inr (.inl dfd))), (h0, .inr (8, mS f tn rm ln lx at_ bd_12 fs dp on os bn df th tp mo_ ev ss so lk rs pt ot cl))] := hD
                refine W.eq (g2 := F0 m 117 ls []) rfl ?_
                refine lv_iload_n hx hb d_MO_named_117 rfl (lv_at hl 0 rfl) ?_
                refine W.callRL (W.runS (As := [.int (-1)]) (rest := []) ⟨hx, hb, hml, hown, hG⟩ (mo_constant l D cI cL cZ cC (-1) ) (cwS 1 hG (gd_S k_1461 k_1462 k_116 k_1463) rfl rfl rfl (by decide +kernel) ⟨Nat.le_of_ble_eq_true rfl, Nat.le_of_ble_eq_true rfl⟩) (wq_S hP hK [] rfl) rfl rfl hl.1 rfl (lv_room (Nat.le_of_ble_eq_true rfl)) d_MO_named_118 ⟨Nat.le_of_ble_eq_true rfl, Nat.le_of_ble_eq_true rfl⟩) ?_
                refine W.eq (g2 := F0 m 121 ls [.long (wof 2 (-1))]) rfl ?_
                exact em_lret hx hb hr hlocks hP hD hK hS (bd_12) [2, 0, 1] (by decide) rfl ⟨_, rfl, ⟨(show bdo bd_12 from (by first | assumption | omega | exact Or.inl rfl)), (show ((bd_12 = bd ∧ okw df bn (wof 2 (-1) : Int64)) ∨ (¬ bd_12 = 0 ∧ ¬ wkind (wof 2 (-1) : Int64) = 3)) from (Or.inr ⟨by assumption, by rw [wkind_of]; decide⟩))⟩⟩ d_MO_named_121
              · skip
                exact hbad.elim
            · skip
              have hq_19 := (lg_cmp_eq _ _).mp hb_10
              refine lv_bipush (v := 20) hx hb d_MO_named_101 (by decide) ?_
              refine lv_goto (tgt := 107) hx hb d_MO_named_103 (by decide) ?_
              refine lv_istore_n (lv' := [(3, .int 20), (0, .ref h0), (1, .long w)]) hx hb d_MO_named_107 rfl hl (Nat.le_of_ble_eq_true rfl) rfl (fun ls hl => ?_)
              refine lv_iload_n hx hb d_MO_named_108 rfl (lv_at hl 0 rfl) ?_
              refine lv_if_ge (tgt := 117) hx hb d_MO_named_109 (by decide) (fun hbr => ?_) (fun hbr => absurd (by decide) hbr)
              refine lv_iload_n hx hb d_MO_named_117 rfl (lv_at hl 0 rfl) ?_
              refine W.callRL (W.runS (As := [.int 20]) (rest := []) ⟨hx, hb, hml, hown, hG⟩ (mo_constant l D cI cL cZ cC 20 ) (cwS 1 hG (gd_S k_1461 k_1462 k_116 k_1463) rfl rfl rfl (by decide +kernel) ⟨Nat.le_of_ble_eq_true rfl, Nat.le_of_ble_eq_true rfl⟩) (wq_S hP hK [] rfl) rfl rfl hl.1 rfl (lv_room (Nat.le_of_ble_eq_true rfl)) d_MO_named_118 ⟨Nat.le_of_ble_eq_true rfl, Nat.le_of_ble_eq_true rfl⟩) ?_
              refine W.eq (g2 := F0 m 121 ls [.long (wof 2 20)]) rfl ?_
              exact em_lret hx hb hr hlocks hP hD hK hS (bd) [0, 1, 2] (by decide) rfl ⟨_, rfl, ⟨(show bdo bd from (by first | assumption | omega | exact Or.inl rfl)), (show ((bd = bd ∧ okw df bn (wof 2 20 : Int64)) ∨ (¬ bd = 0 ∧ ¬ wkind (wof 2 20 : Int64) = 3)) from (Or.inl ⟨rfl, okw_con 20 (by decide) (by decide)⟩))⟩⟩ d_MO_named_121
          · skip
            have hq_20 := (lg_cmp_eq _ _).mp hb_8
            refine lv_bipush (v := 19) hx hb d_MO_named_88 (by decide) ?_
            refine lv_goto (tgt := 107) hx hb d_MO_named_90 (by decide) ?_
            refine lv_istore_n (lv' := [(3, .int 19), (0, .ref h0), (1, .long w)]) hx hb d_MO_named_107 rfl hl (Nat.le_of_ble_eq_true rfl) rfl (fun ls hl => ?_)
            refine lv_iload_n hx hb d_MO_named_108 rfl (lv_at hl 0 rfl) ?_
            refine lv_if_ge (tgt := 117) hx hb d_MO_named_109 (by decide) (fun hbr => ?_) (fun hbr => absurd (by decide) hbr)
            refine lv_iload_n hx hb d_MO_named_117 rfl (lv_at hl 0 rfl) ?_
            refine W.callRL (W.runS (As := [.int 19]) (rest := []) ⟨hx, hb, hml, hown, hG⟩ (mo_constant l D cI cL cZ cC 19 ) (cwS 1 hG (gd_S k_1461 k_1462 k_116 k_1463) rfl rfl rfl (by decide +kernel) ⟨Nat.le_of_ble_eq_true rfl, Nat.le_of_ble_eq_true rfl⟩) (wq_S hP hK [] rfl) rfl rfl hl.1 rfl (lv_room (Nat.le_of_ble_eq_true rfl)) d_MO_named_118 ⟨Nat.le_of_ble_eq_true rfl, Nat.le_of_ble_eq_true rfl⟩) ?_
            refine W.eq (g2 := F0 m 121 ls [.long (wof 2 19)]) rfl ?_
            exact em_lret hx hb hr hlocks hP hD hK hS (bd) [0, 1, 2] (by decide) rfl ⟨_, rfl, ⟨(show bdo bd from (by first | assumption | omega | exact Or.inl rfl)), (show ((bd = bd ∧ okw df bn (wof 2 19 : Int64)) ∨ (¬ bd = 0 ∧ ¬ wkind (wof 2 19 : Int64) = 3)) from (Or.inl ⟨rfl, okw_con 19 (by decide) (by decide)⟩))⟩⟩ d_MO_named_121
        · skip
          have hq_21 := (lg_cmp_eq _ _).mp hb_6
          refine lv_bipush (v := 18) hx hb d_MO_named_75 (by decide) ?_
          refine lv_goto (tgt := 107) hx hb d_MO_named_77 (by decide) ?_
          refine lv_istore_n (lv' := [(3, .int 18), (0, .ref h0), (1, .long w)]) hx hb d_MO_named_107 rfl hl (Nat.le_of_ble_eq_true rfl) rfl (fun ls hl => ?_)
          refine lv_iload_n hx hb d_MO_named_108 rfl (lv_at hl 0 rfl) ?_
          refine lv_if_ge (tgt := 117) hx hb d_MO_named_109 (by decide) (fun hbr => ?_) (fun hbr => absurd (by decide) hbr)
          refine lv_iload_n hx hb d_MO_named_117 rfl (lv_at hl 0 rfl) ?_
          refine W.callRL (W.runS (As := [.int 18]) (rest := []) ⟨hx, hb, hml, hown, hG⟩ (mo_constant l D cI cL cZ cC 18 ) (cwS 1 hG (gd_S k_1461 k_1462 k_116 k_1463) rfl rfl rfl (by decide +kernel) ⟨Nat.le_of_ble_eq_true rfl, Nat.le_of_ble_eq_true rfl⟩) (wq_S hP hK [] rfl) rfl rfl hl.1 rfl (lv_room (Nat.le_of_ble_eq_true rfl)) d_MO_named_118 ⟨Nat.le_of_ble_eq_true rfl, Nat.le_of_ble_eq_true rfl⟩) ?_
          refine W.eq (g2 := F0 m 121 ls [.long (wof 2 18)]) rfl ?_
          exact em_lret hx hb hr hlocks hP hD hK hS (bd) [0, 1, 2] (by decide) rfl ⟨_, rfl, ⟨(show bdo bd from (by first | assumption | omega | exact Or.inl rfl)), (show ((bd = bd ∧ okw df bn (wof 2 18 : Int64)) ∨ (¬ bd = 0 ∧ ¬ wkind (wof 2 18 : Int64) = 3)) from (Or.inl ⟨rfl, okw_con 18 (by decide) (by decide)⟩))⟩⟩ d_MO_named_121
      · skip
        have hn_22 : ¬ df ≤ i := fun h => hb_4 ((nI_leI (a := df) (b := i) (by omega) (by omega)).mpr h)
        refine lv_aload_n hx hb d_MO_named_44 rfl (lv_at hl 0 rfl) ?_
        refine va_get (D := D) (ci := 8) (v := .ref (f 17)) (C := rn_MO) (T := fl_MO) (N := 55) hx hb hG in_MO hown hK hP 0 rfl rfl 29 (by decide) (hG _ k_1220) (fun _ h9 => h9) rfl d_MO_named_45 ?_
        refine lv_iload_n hx hb d_MO_named_48 rfl (lv_at hl 2 rfl) ?_
        refine va_lald hx hb hK hP 2 1 rfl rfl (vp_in_nI (n := i) (N := 8) (by omega) (by omega)) d_MO_named_49 ?_
        refine W.eq (g2 := F0 m 50 ls [.long (dfd i)]) (by rw [nI_clamp (n := i) (by omega)]) ?_
        refine lv_lload_n hx hb d_MO_named_50 rfl (lv_at hl 1 rfl) ?_
        refine W.lcmp hx hb d_MO_named_51 ?_
        refine lv_if_ne (tgt := 61) hx hb d_MO_named_52 (by decide) (fun hb_23 => ?_) (fun hb_23 => ?_)
        · skip
          have hq_24 : ¬ _ := fun h => hb_23 ((lg_cmp_eq _ _).mpr h)
          refine lv_iinc (k := 2) (v := nI (i + 1)) (lv' := [(3, .int (nI (i + 1))), (0, .ref h0), (1, .long w)]) hx hb d_MO_named_61 hl rfl (lw_inc i 1) (Nat.le_of_ble_eq_true rfl) rfl (fun ls hl => ?_)
          refine lv_goto (tgt := 36) hx hb d_MO_named_64 (by decide) ?_
          have hl := lv_sub (l' := [(0, .ref h0), (1, .long w), (3, .int (nI (i + 1)))]) hl [1, 2, 0] rfl
          exact ih_3 (i + 1) _ _ _ (by omega) (by omega) hl hP hD hS
        · skip
          have hq_25 := (lg_cmp_eq _ _).mp hb_23
          refine lv_iconst (v := 1) hx hb d_MO_named_55 (by decide) ?_
          refine lv_iload_n hx hb d_MO_named_56 rfl (lv_at hl 2 rfl) ?_
          refine W.callRL (W.runS (As := [.int 1, .int (nI i)]) (rest := []) ⟨hx, hb, hml, hown, hG⟩ (mo_term l D cI cL cZ cC 1 (nI i) ) (cwS 2 hG (gd_S k_1445 k_1446 k_116 k_1447) rfl rfl rfl (by decide +kernel) ⟨Nat.le_of_ble_eq_true rfl, Nat.le_of_ble_eq_true rfl⟩) (wq_S hP hK [] rfl) rfl rfl hl.1 rfl (lv_room (Nat.le_of_ble_eq_true rfl)) d_MO_named_57 ⟨Nat.le_of_ble_eq_true rfl, Nat.le_of_ble_eq_true rfl⟩) ?_
          refine W.eq (g2 := F0 m 60 ls [.long (wof 1 (nI i))]) rfl ?_
          exact em_lret hx hb hr hlocks hP hD hK hS (bd) [0, 1, 2] (by decide) rfl ⟨_, rfl, ⟨(show bdo bd from (by first | assumption | omega | exact Or.inl rfl)), (show ((bd = bd ∧ okw df bn (wof 1 (nI i) : Int64)) ∨ (¬ bd = 0 ∧ ¬ wkind (wof 1 (nI i) : Int64) = 3)) from (Or.inl ⟨rfl, Or.inr (Or.inl ⟨wkind_of _ _, i, by omega, wnum_of _ _⟩)⟩))⟩⟩ d_MO_named_60
  have loop_27 : ∀ (k_26 : Nat) (k : Nat) (H : Heap) (locs : List Loc) (ls : Array Slot), k < k_26 → (k ≤ bn) → lv_has ls 4 [(0, .ref h0), (1, .long w), (3, .int (nI k - 1))] → va_P D classes [(h0, .inr (8, mS f tn rm ln lx at_ bd fs dp on os bn df th tp mo_ ev ss so lk rs pt ot cl)), ((f 16), .inl (cL, 16, .inr (.inl nms))), ((f 17), .inl (cL, 8, .inr (.inl dfd)))] H → va_D A [(h0, .inr (8, mS f tn rm ln lx at_ bd fs dp on os bn df th tp mo_ ev ss so lk rs pt ot cl)), ((f 16), .inl (cL, 16, .inr (.inl nms))), ((f 17), .inl (cL, 8, .inr (.inl dfd)))] → va_S A s.heap H locs → W p l e (headSpec (wz y_MO_named b_MO_named 4 (some .long)) ({ frames := 2, cells := 0, slots := 0, locals := 41 })).room s m ([.ref h0, .long w] : List Value).toArray below meth c H locs 0 0 (em_MQ below D (tys4 cI cL cZ cC) A (fun (u : Int32) => [(h0, .inr (8, mS f tn rm ln lx at_ u fs dp on os bn df th tp mo_ ev ss so lk rs pt ot cl)), ((f 16), .inl (cL, 16, .inr (.inl nms))), ((f 17), .inl (cL, 8, .inr (.inl dfd)))]) (fun v (u : Int32) => ∃ r : Int64, v = some (.long r) ∧ ((bdo u) ∧ (((u = bd ∧ okw df bn r) ∨ (¬ u = 0 ∧ ¬ wkind r = 3))))) (fun C (u : Int32) => False) s 0 0) (F0 m 7 ls []) := by
    intro k_26
    induction k_26 with
    | zero => intro k H locs ls hm; exact absurd hm (Nat.not_lt_zero _)
    | succ k_26 ih_28 =>
      intro k H locs ls hm hk hl hP hD hS
      refine lv_iload_n hx hb d_MO_named_7 rfl (lv_at hl 2 rfl) ?_
      refine lv_if_lt (tgt := 34) hx hb d_MO_named_8 (by decide) (fun hb_29 => ?_) (fun hb_29 => ?_)
      · skip
        refine lv_iconst (v := 0) hx hb d_MO_named_34 (by decide) ?_
        refine lv_istore_n (lv' := [(3, .int 0), (0, .ref h0), (1, .long w)]) hx hb d_MO_named_35 rfl hl (Nat.le_of_ble_eq_true rfl) rfl (fun ls hl => ?_)
        have hl := lv_sub (l' := [(0, .ref h0), (1, .long w), (3, .int 0)]) hl [1, 2, 0] rfl
        exact loop_2 _ 0 _ _ _ (Nat.lt_succ_self _) (by omega) hl hP hD hS
      · skip
        have hk1 : 1 ≤ k := dn_ge (by omega) hb_29
        have hl : lv_has ls 4 [(0, .ref h0), (1, .long w), (3, .int (nI (k - 1)))] := by rw [← dn_eq hk1]; exact hl
        refine lv_aload_n hx hb d_MO_named_11 rfl (lv_at hl 0 rfl) ?_
        refine va_get (D := D) (ci := 8) (v := .ref (f 16)) (C := rn_MO) (T := fl_MO) (N := 55) hx hb hG in_MO hown hK hP 0 rfl rfl 27 (by decide) (hG _ k_1218) (fun _ h9 => h9) rfl d_MO_named_12 ?_
        refine lv_iload_n hx hb d_MO_named_15 rfl (lv_at hl 2 rfl) ?_
        refine va_lald hx hb hK hP 1 1 rfl rfl (vp_in_nI (n := k - 1) (N := 16) (by omega) (by omega)) d_MO_named_16 ?_
        refine W.eq (g2 := F0 m 17 ls [.long (nms (k - 1))]) (by rw [nI_clamp (n := k - 1) (by omega)]) ?_
        refine lv_lload_n hx hb d_MO_named_17 rfl (lv_at hl 1 rfl) ?_
        refine W.lcmp hx hb d_MO_named_18 ?_
        refine lv_if_ne (tgt := 28) hx hb d_MO_named_19 (by decide) (fun hb_30 => ?_) (fun hb_30 => ?_)
        · skip
          have hq_31 : ¬ _ := fun h => hb_30 ((lg_cmp_eq _ _).mpr h)
          refine lv_iinc (k := 2) (v := nI (k - 1) - 1) (lv' := [(3, .int (nI (k - 1) - 1)), (0, .ref h0), (1, .long w)]) hx hb d_MO_named_28 hl rfl (dn_dec _) (Nat.le_of_ble_eq_true rfl) rfl (fun ls hl => ?_)
          refine lv_goto (tgt := 7) hx hb d_MO_named_31 (by decide) ?_
          have hl := lv_sub (l' := [(0, .ref h0), (1, .long w), (3, .int (nI (k - 1) - 1))]) hl [1, 2, 0] rfl
          exact ih_28 (k - 1) _ _ _ (by omega) (by omega) hl hP hD hS
        · skip
          have hq_32 := (lg_cmp_eq _ _).mp hb_30
          refine lv_iconst (v := 4) hx hb d_MO_named_22 (by decide) ?_
          refine lv_iload_n hx hb d_MO_named_23 rfl (lv_at hl 2 rfl) ?_
          refine W.callRL (W.runS (As := [.int 4, .int (nI (k - 1))]) (rest := []) ⟨hx, hb, hml, hown, hG⟩ (mo_term l D cI cL cZ cC 4 (nI (k - 1)) ) (cwS 2 hG (gd_S k_1445 k_1446 k_116 k_1447) rfl rfl rfl (by decide +kernel) ⟨Nat.le_of_ble_eq_true rfl, Nat.le_of_ble_eq_true rfl⟩) (wq_S hP hK [] rfl) rfl rfl hl.1 rfl (lv_room (Nat.le_of_ble_eq_true rfl)) d_MO_named_24 ⟨Nat.le_of_ble_eq_true rfl, Nat.le_of_ble_eq_true rfl⟩) ?_
          refine W.eq (g2 := F0 m 27 ls [.long (wof 4 (nI (k - 1)))]) rfl ?_
          exact em_lret hx hb hr hlocks hP hD hK hS (bd) [0, 1, 2] (by decide) rfl ⟨_, rfl, ⟨(show bdo bd from (by first | assumption | omega | exact Or.inl rfl)), (show ((bd = bd ∧ okw df bn (wof 4 (nI (k - 1)) : Int64)) ∨ (¬ bd = 0 ∧ ¬ wkind (wof 4 (nI (k - 1)) : Int64) = 3)) from (Or.inl ⟨rfl, Or.inr (Or.inr (Or.inr ⟨k - 1, by omega, rfl⟩))⟩))⟩⟩ d_MO_named_27
  refine lv_aload_n hx hb d_MO_named_0 rfl (lv_at hl 0 rfl) ?_
  refine va_get (D := D) (ci := 8) (v := .int (nI bn)) (C := rn_MO) (T := fl_MO) (N := 55) hx hb hG in_MO hown hK hP 0 rfl rfl 19 (by decide) (hG _ k_1210) (fun _ h9 => h9) rfl d_MO_named_1 ?_
  refine lv_iconst (v := 1) hx hb d_MO_named_4 (by decide) ?_
  refine lv_isub hx hb d_MO_named_5 ?_
  refine lv_istore_n (lv' := [(3, .int ((nI bn) - 1)), (0, .ref h0), (1, .long w)]) hx hb d_MO_named_6 rfl hl (Nat.le_of_ble_eq_true rfl) rfl (fun ls hl => ?_)
  have hl := lv_sub (l' := [(0, .ref h0), (1, .long w), (3, .int ((nI bn) - 1))]) hl [1, 2, 0] rfl
  exact loop_27 _ bn _ _ _ (Nat.lt_succ_self _) (by omega) hl hP hD hS
