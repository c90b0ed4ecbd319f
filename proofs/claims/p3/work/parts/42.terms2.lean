set_option maxHeartbeats 8000000 in
set_option maxRecDepth 100000 in
theorem tm_clear (l : Launch) (D : va_G) (cI cL cZ cC : ClassId) (f : Nat → Nat) (fs : Nat) (tb : Int32) (le : Nat → Int64) (ri : Nat → Int64) (wo : Nat → Int64) (fr : Nat → Int32) (od : Nat → Int32) (ha : Nat → Int32) (sz : Nat) (hfs : fs ≤ 1024) (htb : (tb = 0 ∨ tb = 1)) (hle : wfa 1024 le) (hri : wfa 1024 ri) (hwo : wfa 1024 wo) (hfr : rng 1024 fr) (hod : rng 1024 od) (hha : bln ha) (hnt : l.stackTraces = false) : em_Met l y_TM_clear (wz y_TM_clear b_TM_clear 2 none) ({ frames := 0, cells := 0, slots := 0, locals := 0 }) (va_Pc [.ref (f 4)] (tw_pre D (tys4 cI cL cZ cC) [((f 4), .inr (2, [.ref (f 5), .ref (f 6), .ref (f 7), .int (nI fs), .ref (f 8), .ref (f 9), .ref (f 10), .int tb])), ((f 5), .inl (cL, 1024, .inr (.inl le))), ((f 6), .inl (cL, 1024, .inr (.inl ri))), ((f 7), .inl (cI, 1024, .inl fr)), ((f 8), .inl (cI, 1024, .inl od)), ((f 9), .inl (cZ, 1024, .inl ha)), ((f 10), .inl (cL, 1024, .inr (.inl wo)))] sz)) D (tys4 cI cL cZ cC) (va_A [((f 4), .inr (2, [.ref (f 5), .ref (f 6), .ref (f 7), .int (nI fs), .ref (f 8), .ref (f 9), .ref (f 10), .int tb])), ((f 5), .inl (cL, 1024, .inr (.inl le))), ((f 6), .inl (cL, 1024, .inr (.inl ri))), ((f 7), .inl (cI, 1024, .inl fr)), ((f 8), .inl (cI, 1024, .inl od)), ((f 9), .inl (cZ, 1024, .inl ha)), ((f 10), .inl (cL, 1024, .inr (.inl wo)))] sz) (fun (u : Nat × Int32 × (Nat → Int64) × (Nat → Int64) × (Nat → Int64) × (Nat → Int32) × (Nat → Int32) × (Nat → Int32)) => [((f 4), .inr (2, [.ref (f 5), .ref (f 6), .ref (f 7), .int (nI u.1), .ref (f 8), .ref (f 9), .ref (f 10), .int u.2.1])), ((f 5), .inl (cL, 1024, .inr (.inl u.2.2.1))), ((f 6), .inl (cL, 1024, .inr (.inl u.2.2.2.1))), ((f 7), .inl (cI, 1024, .inl u.2.2.2.2.2.1)), ((f 8), .inl (cI, 1024, .inl u.2.2.2.2.2.2.1)), ((f 9), .inl (cZ, 1024, .inl u.2.2.2.2.2.2.2)), ((f 10), .inl (cL, 1024, .inr (.inl u.2.2.2.2.1)))]) (fun v (u : Nat × Int32 × (Nat → Int64) × (Nat → Int64) × (Nat → Int64) × (Nat → Int32) × (Nat → Int32) × (Nat → Int32)) => v = none ∧ (u.1 ≤ 1024 ∧ (u.2.1 = 0 ∨ u.2.1 = 1) ∧ wfa 1024 u.2.2.1 ∧ wfa 1024 u.2.2.2.1 ∧ wfa 1024 u.2.2.2.2.1 ∧ rng 1024 u.2.2.2.2.2.1 ∧ rng 1024 u.2.2.2.2.2.2.1 ∧ bln u.2.2.2.2.2.2.2)) (fun C (u : Nat × Int32 × (Nat → Int64) × (Nat → Int64) × (Nat → Int64) × (Nat → Int32) × (Nat → Int32) × (Nat → Int32)) => False) 0 0 := by
  refine em_Met.ofW (cc := b_TM_clear) (maxL := 2) (ret := none) (by decide) rfl ?_
  intro p e s m args below meth c s₁ B hml hv hno
  obtain ⟨rfl, ⟨hsz, hP, hK, hD0⟩, hE⟩ := hv
  have hx := B.exec
  have hb := B.bytes
  have hr := B.returns
  have hts := atoms_spec (ws := wz y_TM_clear b_TM_clear 2 none) B.pre
  have hG := wz_G hts
  have hown : s.vm.findClass rn_TM = some m.cls := findClass_of_methodNamed B.named
  have hlocks := B.notSynchronized
  subst hsz
  have hD := hD0.self (sz := s.heap.size)
  have hst := tw_st hP
  generalize hAe : va_A [((f 4), .inr (2, [.ref (f 5), .ref (f 6), .ref (f 7), .int (nI fs), .ref (f 8), .ref (f 9), .ref (f 10), .int tb])), ((f 5), .inl (cL, 1024, .inr (.inl le))), ((f 6), .inl (cL, 1024, .inr (.inl ri))), ((f 7), .inl (cI, 1024, .inl fr)), ((f 8), .inl (cI, 1024, .inl od)), ((f 9), .inl (cZ, 1024, .inl ha)), ((f 10), .inl (cL, 1024, .inr (.inl wo)))] s.heap.size = A at hD hst ⊢
  have hA : ∀ q : Nat, s.heap.size ≤ q → A q := fun q h => by rw [← hAe]; exact Or.inr h
  have hS : va_S A s.heap s.heap [] := va_S.rf
  have hl := lv_entry ([.ref (f 4)]) (n := 2) (Nat.le_of_ble_eq_true rfl)
  rw [lg_entry_eq]
  generalize (lg_sl ([.ref (f 4)]) ++ List.replicate (2 - (lg_sl ([.ref (f 4)])).length) Slot.unset).toArray = ls at hl ⊢
  have hl : lv_has ls 2 [(0, .ref (f 4))] := hl
  have loop_2 : ∀ (k_1 : Nat) (i : Nat) (g : Nat → Int32) (H : Heap) (locs : List Loc) (ls : Array Slot), 1024 - i < k_1 → (i ≤ 1024) → (rng 1024 g) → lv_has ls 2 [(0, .ref (f 4)), (1, .int (nI i))] → va_P D classes [((f 4), .inr (2, [.ref (f 5), .ref (f 6), .ref (f 7), .int (nI fs), .ref (f 8), .ref (f 9), .ref (f 10), .int tb])), ((f 5), .inl (cL, 1024, .inr (.inl le))), ((f 6), .inl (cL, 1024, .inr (.inl ri))), ((f 7), .inl (cI, 1024, .inl g)), ((f 8), .inl (cI, 1024, .inl od)), ((f 9), .inl (cZ, 1024, .inl ha)), ((f 10), .inl (cL, 1024, .inr (.inl wo)))] H → va_D A [((f 4), .inr (2, [.ref (f 5), .ref (f 6), .ref (f 7), .int (nI fs), .ref (f 8), .ref (f 9), .ref (f 10), .int tb])), ((f 5), .inl (cL, 1024, .inr (.inl le))), ((f 6), .inl (cL, 1024, .inr (.inl ri))), ((f 7), .inl (cI, 1024, .inl g)), ((f 8), .inl (cI, 1024, .inl od)), ((f 9), .inl (cZ, 1024, .inl ha)), ((f 10), .inl (cL, 1024, .inr (.inl wo)))] → va_S A s.heap H locs → W p l e (headSpec (wz y_TM_clear b_TM_clear 2 none) ({ frames := 0, cells := 0, slots := 0, locals := 0 })).room s m ([.ref (f 4)] : List Value).toArray below meth c H locs 0 0 (em_MQ below D (tys4 cI cL cZ cC) A (fun (u : Nat × Int32 × (Nat → Int64) × (Nat → Int64) × (Nat → Int64) × (Nat → Int32) × (Nat → Int32) × (Nat → Int32)) => [((f 4), .inr (2, [.ref (f 5), .ref (f 6), .ref (f 7), .int (nI u.1), .ref (f 8), .ref (f 9), .ref (f 10), .int u.2.1])), ((f 5), .inl (cL, 1024, .inr (.inl u.2.2.1))), ((f 6), .inl (cL, 1024, .inr (.inl u.2.2.2.1))), ((f 7), .inl (cI, 1024, .inl u.2.2.2.2.2.1)), ((f 8), .inl (cI, 1024, .inl u.2.2.2.2.2.2.1)), ((f 9), .inl (cZ, 1024, .inl u.2.2.2.2.2.2.2)), ((f 10), .inl (cL, 1024, .inr (.inl u.2.2.2.2.1)))]) (fun v (u : Nat × Int32 × (Nat → Int64) × (Nat → Int64) × (Nat → Int64) × (Nat → Int32) × (Nat → Int32) × (Nat → Int32)) => v = none ∧ (u.1 ≤ 1024 ∧ (u.2.1 = 0 ∨ u.2.1 = 1) ∧ wfa 1024 u.2.2.1 ∧ wfa 1024 u.2.2.2.1 ∧ wfa 1024 u.2.2.2.2.1 ∧ rng 1024 u.2.2.2.2.2.1 ∧ rng 1024 u.2.2.2.2.2.2.1 ∧ bln u.2.2.2.2.2.2.2)) (fun C (u : Nat × Int32 × (Nat → Int64) × (Nat → Int64) × (Nat → Int64) × (Nat → Int32) × (Nat → Int32) × (Nat → Int32)) => False) s 0 0) (F0 m 2 ls []) := by
    intro k_1
    induction k_1 with
    | zero => intro i g H locs ls hm; exact absurd hm (Nat.not_lt_zero _)
    | succ k_1 ih_3 =>
      intro i g H locs ls hm hi hg hl hP hD hS
      refine lv_iload_n hx hb d_TM_clear_2 rfl (lv_at hl 1 rfl) ?_
      refine lv_sipush (v := 1024) hx hb d_TM_clear_3 (by decide) ?_
      refine lv_icmp_ge (tgt := 26) hx hb d_TM_clear_6 (by decide) (fun hb_4 => ?_) (fun hb_4 => ?_)
      · skip
        have hn_5 : 1024 ≤ i := (nI_leI (a := 1024) (b := i) (by omega) (by omega)).mp hb_4
        refine lv_aload_n hx hb d_TM_clear_26 rfl (lv_at hl 0 rfl) ?_
        refine lv_sipush (v := 1024) hx hb d_TM_clear_27 (by decide) ?_
        refine va_put (D := D) (ci := 2) (v := .int 1024) (ty := .int) (C := rn_TM) (T := fl_TM) (N := 8) hx hb hG in_TM tt_TM tk_TM nn_TM hown hK hP hD hS 0 rfl rfl 3 (by decide) (hG _ k_165) (fun _ h9 => h9) rfl (by decide +kernel) rfl rfl (Nat.le_of_ble_eq_true rfl) d_TM_clear_30 (fun H locs hP hD hS => ?_)
        have hP : va_P D classes [((f 4), .inr (2, [.ref (f 5), .ref (f 6), .ref (f 7), .int 1024, .ref (f 8), .ref (f 9), .ref (f 10), .int tb])), ((f 5), .inl (cL, 1024, .inr (.inl le))), ((f 6), .inl (cL, 1024, .inr (.inl ri))), ((f 7), .inl (cI, 1024, .inl g)), ((f 8), .inl (cI, 1024, .inl od)), ((f 9), .inl (cZ, 1024, .inl ha)), ((f 10), .inl (cL, 1024, .inr (.inl wo)))] H := hP
        have hD : va_D A [((f 4), .inr (2, [.ref (f 5), .ref (f 6), .ref (f 7), .int 1024, .ref (f 8), .ref (f 9), .ref (f 10), .int tb])), ((f 5), .inl (cL, 1024, .inr (.inl le))), ((f 6), .inl (cL, 1024, .inr (.inl ri))), ((f 7), .inl (cI, 1024, .inl g)), ((f 8), .inl (cI, 1024, .inl od)), ((f 9), .inl (cZ, 1024, .inl ha)), ((f 10), .inl (cL, 1024, .inr (.inl wo)))] := hD
        refine lv_aload_n hx hb d_TM_clear_33 rfl (lv_at hl 0 rfl) ?_
        refine lv_iconst (v := 0) hx hb d_TM_clear_34 (by decide) ?_
        refine va_put (D := D) (ci := 2) (v := .int 0) (ty := .boolean) (C := rn_TM) (T := fl_TM) (N := 8) hx hb hG in_TM tt_TM tk_TM nn_TM hown hK hP hD hS 0 rfl rfl 7 (by decide) (hG _ k_169) (fun _ h9 => h9) rfl (by decide +kernel) rfl rfl (Nat.le_of_ble_eq_true rfl) d_TM_clear_35 (fun H locs hP hD hS => ?_)
        have hP : va_P D classes [((f 4), .inr (2, [.ref (f 5), .ref (f 6), .ref (f 7), .int 1024, .ref (f 8), .ref (f 9), .ref (f 10), .int 0])), ((f 5), .inl (cL, 1024, .inr (.inl le))), ((f 6), .inl (cL, 1024, .inr (.inl ri))), ((f 7), .inl (cI, 1024, .inl g)), ((f 8), .inl (cI, 1024, .inl od)), ((f 9), .inl (cZ, 1024, .inl ha)), ((f 10), .inl (cL, 1024, .inr (.inl wo)))] H := hP
        have hD : va_D A [((f 4), .inr (2, [.ref (f 5), .ref (f 6), .ref (f 7), .int 1024, .ref (f 8), .ref (f 9), .ref (f 10), .int 0])), ((f 5), .inl (cL, 1024, .inr (.inl le))), ((f 6), .inl (cL, 1024, .inr (.inl ri))), ((f 7), .inl (cI, 1024, .inl g)), ((f 8), .inl (cI, 1024, .inl od)), ((f 9), .inl (cZ, 1024, .inl ha)), ((f 10), .inl (cL, 1024, .inr (.inl wo)))] := hD
        exact em_vret hx hb hr hlocks hP hD hK hS (1024, 0, le, ri, wo, g, od, ha) [0, 1, 2, 3, 4, 5, 6] (by decide) rfl ⟨rfl, ⟨(by omega), (Or.inl rfl), hle, hri, hwo, hg, hod, hha⟩⟩ d_TM_clear_38
      · skip
        have hn_6 : ¬ 1024 ≤ i := fun h => hb_4 ((nI_leI (a := 1024) (b := i) (by omega) (by omega)).mpr h)
        refine lv_aload_n hx hb d_TM_clear_9 rfl (lv_at hl 0 rfl) ?_
        refine va_get (D := D) (ci := 2) (v := .ref (f 7)) (C := rn_TM) (T := fl_TM) (N := 8) hx hb hG in_TM hown hK hP 0 rfl rfl 2 (by decide) (hG _ k_164) (fun _ h9 => h9) rfl d_TM_clear_10 ?_
        refine lv_iload_n hx hb d_TM_clear_13 rfl (lv_at hl 1 rfl) ?_
        refine lv_sipush (v := 1023) hx hb d_TM_clear_14 (by decide) ?_
        refine lv_iload_n hx hb d_TM_clear_17 rfl (lv_at hl 1 rfl) ?_
        refine lw_isub (a := 1023) (b := i) hx hb d_TM_clear_18 (by omega) ?_
        refine va_iast hx hb hK hP hD hS 3 0 rfl rfl (vp_in_nI (n := i) (N := 1024) (by omega) (by omega)) d_TM_clear_19 (fun H locs hP hD hS => ?_)
        have hP : va_P D classes [((f 4), .inr (2, [.ref (f 5), .ref (f 6), .ref (f 7), .int (nI fs), .ref (f 8), .ref (f 9), .ref (f 10), .int tb])), ((f 5), .inl (cL, 1024, .inr (.inl le))), ((f 6), .inl (cL, 1024, .inr (.inl ri))), ((f 7), .inl (cI, 1024, .inl (upd g (nI i).toNatClampNeg (nI (1023 - i))))), ((f 8), .inl (cI, 1024, .inl od)), ((f 9), .inl (cZ, 1024, .inl ha)), ((f 10), .inl (cL, 1024, .inr (.inl wo)))] H := hP
        have hD : va_D A [((f 4), .inr (2, [.ref (f 5), .ref (f 6), .ref (f 7), .int (nI fs), .ref (f 8), .ref (f 9), .ref (f 10), .int tb])), ((f 5), .inl (cL, 1024, .inr (.inl le))), ((f 6), .inl (cL, 1024, .inr (.inl ri))), ((f 7), .inl (cI, 1024, .inl (upd g (nI i).toNatClampNeg (nI (1023 - i))))), ((f 8), .inl (cI, 1024, .inl od)), ((f 9), .inl (cZ, 1024, .inl ha)), ((f 10), .inl (cL, 1024, .inr (.inl wo)))] := hD
        obtain ⟨g_7, eg_7⟩ : ∃ z, z = upd g (nI i).toNatClampNeg (nI (1023 - i)) := ⟨_, rfl⟩
        rw [← eg_7] at hP hD
        have hg_7 : rng 1024 g_7 := by rw [eg_7]; exact rng_up hg (by omega)
        refine lv_iinc (k := 1) (v := nI (i + 1)) (lv' := [(1, .int (nI (i + 1))), (0, .ref (f 4))]) hx hb d_TM_clear_20 hl rfl (lw_inc i 1) (Nat.le_of_ble_eq_true rfl) rfl (fun ls hl => ?_)
        refine lv_goto (tgt := 2) hx hb d_TM_clear_23 (by decide) ?_
        have hl := lv_sub (l' := [(0, .ref (f 4)), (1, .int (nI (i + 1)))]) hl [1, 0] rfl
        exact ih_3 (i + 1) g_7 _ _ _ (by omega) (by omega) hg_7 hl hP hD hS
  refine lv_iconst (v := 0) hx hb d_TM_clear_0 (by decide) ?_
  refine lv_istore_n (lv' := [(1, .int 0), (0, .ref (f 4))]) hx hb d_TM_clear_1 rfl hl (Nat.le_of_ble_eq_true rfl) rfl (fun ls hl => ?_)
  have hl := lv_sub (l' := [(0, .ref (f 4)), (1, .int 0)]) hl [1, 0] rfl
  exact loop_2 _ 0 fr _ _ _ (Nat.lt_succ_self _) (by omega) hfr hl hP hD hS
set_option maxHeartbeats 8000000 in
set_option maxRecDepth 100000 in
theorem tm_isTooBig (l : Launch) (D : va_G) (cI cL cZ cC : ClassId) (f : Nat → Nat) (fs : Nat) (tb : Int32) (le : Nat → Int64) (ri : Nat → Int64) (wo : Nat → Int64) (fr : Nat → Int32) (od : Nat → Int32) (ha : Nat → Int32) (sz : Nat) (hfs : fs ≤ 1024) (htb : (tb = 0 ∨ tb = 1)) (hle : wfa 1024 le) (hri : wfa 1024 ri) (hwo : wfa 1024 wo) (hfr : rng 1024 fr) (hod : rng 1024 od) (hha : bln ha) (hnt : l.stackTraces = false) : em_Met l y_TM_isTooBig (wz y_TM_isTooBig b_TM_isTooBig 1 (some .boolean)) ({ frames := 0, cells := 0, slots := 0, locals := 0 }) (va_Pc [.ref (f 4)] (tw_pre D (tys4 cI cL cZ cC) [((f 4), .inr (2, [.ref (f 5), .ref (f 6), .ref (f 7), .int (nI fs), .ref (f 8), .ref (f 9), .ref (f 10), .int tb])), ((f 5), .inl (cL, 1024, .inr (.inl le))), ((f 6), .inl (cL, 1024, .inr (.inl ri))), ((f 7), .inl (cI, 1024, .inl fr)), ((f 8), .inl (cI, 1024, .inl od)), ((f 9), .inl (cZ, 1024, .inl ha)), ((f 10), .inl (cL, 1024, .inr (.inl wo)))] sz)) D (tys4 cI cL cZ cC) (va_A [((f 4), .inr (2, [.ref (f 5), .ref (f 6), .ref (f 7), .int (nI fs), .ref (f 8), .ref (f 9), .ref (f 10), .int tb])), ((f 5), .inl (cL, 1024, .inr (.inl le))), ((f 6), .inl (cL, 1024, .inr (.inl ri))), ((f 7), .inl (cI, 1024, .inl fr)), ((f 8), .inl (cI, 1024, .inl od)), ((f 9), .inl (cZ, 1024, .inl ha)), ((f 10), .inl (cL, 1024, .inr (.inl wo)))] sz) (fun (_ : Unit) => [((f 4), .inr (2, [.ref (f 5), .ref (f 6), .ref (f 7), .int (nI fs), .ref (f 8), .ref (f 9), .ref (f 10), .int tb])), ((f 5), .inl (cL, 1024, .inr (.inl le))), ((f 6), .inl (cL, 1024, .inr (.inl ri))), ((f 7), .inl (cI, 1024, .inl fr)), ((f 8), .inl (cI, 1024, .inl od)), ((f 9), .inl (cZ, 1024, .inl ha)), ((f 10), .inl (cL, 1024, .inr (.inl wo)))]) (fun v (_ : Unit) => ∃ r : Int32, v = some (.int r) ∧ ((r = 0 ∨ r = 1))) (fun C (_ : Unit) => False) 0 0 := by
  refine em_Met.ofW (cc := b_TM_isTooBig) (maxL := 1) (ret := (some .boolean)) (by decide) rfl ?_
  intro p e s m args below meth c s₁ B hml hv hno
  obtain ⟨rfl, ⟨hsz, hP, hK, hD0⟩, hE⟩ := hv
  have hx := B.exec
  have hb := B.bytes
  have hr := B.returns
  have hts := atoms_spec (ws := wz y_TM_isTooBig b_TM_isTooBig 1 (some .boolean)) B.pre
  have hG := wz_G hts
  have hown : s.vm.findClass rn_TM = some m.cls := findClass_of_methodNamed B.named
  have hlocks := B.notSynchronized
  subst hsz
  have hD := hD0.self (sz := s.heap.size)
  have hst := tw_st hP
  generalize hAe : va_A [((f 4), .inr (2, [.ref (f 5), .ref (f 6), .ref (f 7), .int (nI fs), .ref (f 8), .ref (f 9), .ref (f 10), .int tb])), ((f 5), .inl (cL, 1024, .inr (.inl le))), ((f 6), .inl (cL, 1024, .inr (.inl ri))), ((f 7), .inl (cI, 1024, .inl fr)), ((f 8), .inl (cI, 1024, .inl od)), ((f 9), .inl (cZ, 1024, .inl ha)), ((f 10), .inl (cL, 1024, .inr (.inl wo)))] s.heap.size = A at hD hst ⊢
  have hA : ∀ q : Nat, s.heap.size ≤ q → A q := fun q h => by rw [← hAe]; exact Or.inr h
  have hS : va_S A s.heap s.heap [] := va_S.rf
  have hl := lv_entry ([.ref (f 4)]) (n := 1) (Nat.le_of_ble_eq_true rfl)
  rw [lg_entry_eq]
  generalize (lg_sl ([.ref (f 4)]) ++ List.replicate (1 - (lg_sl ([.ref (f 4)])).length) Slot.unset).toArray = ls at hl ⊢
  have hl : lv_has ls 1 [(0, .ref (f 4))] := hl
  refine lv_aload_n hx hb d_TM_isTooBig_0 rfl (lv_at hl 0 rfl) ?_
  refine va_get (D := D) (ci := 2) (v := .int tb) (C := rn_TM) (T := fl_TM) (N := 8) hx hb hG in_TM hown hK hP 0 rfl rfl 7 (by decide) (hG _ k_169) (fun _ h9 => h9) rfl d_TM_isTooBig_1 ?_
  exact em_zret hx hb hr hlocks (bln_n htb) hP hD hK hS () [0, 1, 2, 3, 4, 5, 6] (by decide) rfl ⟨_, rfl, htb⟩ d_TM_isTooBig_4
set_option maxHeartbeats 8000000 in
set_option maxRecDepth 100000 in
theorem tm_leftOf (l : Launch) (D : va_G) (cI cL cZ cC : ClassId) (f : Nat → Nat) (fs : Nat) (tb : Int32) (le : Nat → Int64) (ri : Nat → Int64) (wo : Nat → Int64) (fr : Nat → Int32) (od : Nat → Int32) (ha : Nat → Int32) (n : Nat) (sz : Nat) (hfs : fs ≤ 1024) (htb : (tb = 0 ∨ tb = 1)) (hle : wfa 1024 le) (hri : wfa 1024 ri) (hwo : wfa 1024 wo) (hfr : rng 1024 fr) (hod : rng 1024 od) (hha : bln ha) (hn : n < 1024) (hnt : l.stackTraces = false) : em_Met l y_TM_leftOf (wz y_TM_leftOf b_TM_leftOf 2 (some .long)) ({ frames := 0, cells := 0, slots := 0, locals := 0 }) (va_Pc [.ref (f 4), .int (nI n)] (tw_pre D (tys4 cI cL cZ cC) [((f 4), .inr (2, [.ref (f 5), .ref (f 6), .ref (f 7), .int (nI fs), .ref (f 8), .ref (f 9), .ref (f 10), .int tb])), ((f 5), .inl (cL, 1024, .inr (.inl le))), ((f 6), .inl (cL, 1024, .inr (.inl ri))), ((f 7), .inl (cI, 1024, .inl fr)), ((f 8), .inl (cI, 1024, .inl od)), ((f 9), .inl (cZ, 1024, .inl ha)), ((f 10), .inl (cL, 1024, .inr (.inl wo)))] sz)) D (tys4 cI cL cZ cC) (va_A [((f 4), .inr (2, [.ref (f 5), .ref (f 6), .ref (f 7), .int (nI fs), .ref (f 8), .ref (f 9), .ref (f 10), .int tb])), ((f 5), .inl (cL, 1024, .inr (.inl le))), ((f 6), .inl (cL, 1024, .inr (.inl ri))), ((f 7), .inl (cI, 1024, .inl fr)), ((f 8), .inl (cI, 1024, .inl od)), ((f 9), .inl (cZ, 1024, .inl ha)), ((f 10), .inl (cL, 1024, .inr (.inl wo)))] sz) (fun (_ : Unit) => [((f 4), .inr (2, [.ref (f 5), .ref (f 6), .ref (f 7), .int (nI fs), .ref (f 8), .ref (f 9), .ref (f 10), .int tb])), ((f 5), .inl (cL, 1024, .inr (.inl le))), ((f 6), .inl (cL, 1024, .inr (.inl ri))), ((f 7), .inl (cI, 1024, .inl fr)), ((f 8), .inl (cI, 1024, .inl od)), ((f 9), .inl (cZ, 1024, .inl ha)), ((f 10), .inl (cL, 1024, .inr (.inl wo)))]) (fun v (_ : Unit) => ∃ r : Int64, v = some (.long r) ∧ (wfw 1024 r)) (fun C (_ : Unit) => False) 0 0 := by
  refine em_Met.ofW (cc := b_TM_leftOf) (maxL := 2) (ret := (some .long)) (by decide) rfl ?_
  intro p e s m args below meth c s₁ B hml hv hno
  obtain ⟨rfl, ⟨hsz, hP, hK, hD0⟩, hE⟩ := hv
  have hx := B.exec
  have hb := B.bytes
  have hr := B.returns
  have hts := atoms_spec (ws := wz y_TM_leftOf b_TM_leftOf 2 (some .long)) B.pre
  have hG := wz_G hts
  have hown : s.vm.findClass rn_TM = some m.cls := findClass_of_methodNamed B.named
  have hlocks := B.notSynchronized
  subst hsz
  have hD := hD0.self (sz := s.heap.size)
  have hst := tw_st hP
  generalize hAe : va_A [((f 4), .inr (2, [.ref (f 5), .ref (f 6), .ref (f 7), .int (nI fs), .ref (f 8), .ref (f 9), .ref (f 10), .int tb])), ((f 5), .inl (cL, 1024, .inr (.inl le))), ((f 6), .inl (cL, 1024, .inr (.inl ri))), ((f 7), .inl (cI, 1024, .inl fr)), ((f 8), .inl (cI, 1024, .inl od)), ((f 9), .inl (cZ, 1024, .inl ha)), ((f 10), .inl (cL, 1024, .inr (.inl wo)))] s.heap.size = A at hD hst ⊢
  have hA : ∀ q : Nat, s.heap.size ≤ q → A q := fun q h => by rw [← hAe]; exact Or.inr h
  have hS : va_S A s.heap s.heap [] := va_S.rf
  have hl := lv_entry ([.ref (f 4), .int (nI n)]) (n := 2) (Nat.le_of_ble_eq_true rfl)
  rw [lg_entry_eq]
  generalize (lg_sl ([.ref (f 4), .int (nI n)]) ++ List.replicate (2 - (lg_sl ([.ref (f 4), .int (nI n)])).length) Slot.unset).toArray = ls at hl ⊢
  have hl : lv_has ls 2 [(0, .ref (f 4)), (1, .int (nI n))] := hl
  refine lv_aload_n hx hb d_TM_leftOf_0 rfl (lv_at hl 0 rfl) ?_
  refine va_get (D := D) (ci := 2) (v := .ref (f 5)) (C := rn_TM) (T := fl_TM) (N := 8) hx hb hG in_TM hown hK hP 0 rfl rfl 0 (by decide) (hG _ k_162) (fun _ h9 => h9) rfl d_TM_leftOf_1 ?_
  refine lv_iload_n hx hb d_TM_leftOf_4 rfl (lv_at hl 1 rfl) ?_
  refine va_lald hx hb hK hP 1 1 rfl rfl (vp_in_nI (n := n) (N := 1024) (by omega) (by omega)) d_TM_leftOf_5 ?_
  refine lv_topl (fun w_1 ew_1 => ?_)
  have hw_1 : wfw 1024 w_1 := by rw [ew_1]; exact hle _
  exact em_lret hx hb hr hlocks hP hD hK hS () [0, 1, 2, 3, 4, 5, 6] (by decide) rfl ⟨_, rfl, hw_1⟩ d_TM_leftOf_6
set_option maxHeartbeats 8000000 in
set_option maxRecDepth 100000 in
theorem tm_rightOf (l : Launch) (D : va_G) (cI cL cZ cC : ClassId) (f : Nat → Nat) (fs : Nat) (tb : Int32) (le : Nat → Int64) (ri : Nat → Int64) (wo : Nat → Int64) (fr : Nat → Int32) (od : Nat → Int32) (ha : Nat → Int32) (n : Nat) (sz : Nat) (hfs : fs ≤ 1024) (htb : (tb = 0 ∨ tb = 1)) (hle : wfa 1024 le) (hri : wfa 1024 ri) (hwo : wfa 1024 wo) (hfr : rng 1024 fr) (hod : rng 1024 od) (hha : bln ha) (hn : n < 1024) (hnt : l.stackTraces = false) : em_Met l y_TM_rightOf (wz y_TM_rightOf b_TM_rightOf 2 (some .long)) ({ frames := 0, cells := 0, slots := 0, locals := 0 }) (va_Pc [.ref (f 4), .int (nI n)] (tw_pre D (tys4 cI cL cZ cC) [((f 4), .inr (2, [.ref (f 5), .ref (f 6), .ref (f 7), .int (nI fs), .ref (f 8), .ref (f 9), .ref (f 10), .int tb])), ((f 5), .inl (cL, 1024, .inr (.inl le))), ((f 6), .inl (cL, 1024, .inr (.inl ri))), ((f 7), .inl (cI, 1024, .inl fr)), ((f 8), .inl (cI, 1024, .inl od)), ((f 9), .inl (cZ, 1024, .inl ha)), ((f 10), .inl (cL, 1024, .inr (.inl wo)))] sz)) D (tys4 cI cL cZ cC) (va_A [((f 4), .inr (2, [.ref (f 5), .ref (f 6), .ref (f 7), .int (nI fs), .ref (f 8), .ref (f 9), .ref (f 10), .int tb])), ((f 5), .inl (cL, 1024, .inr (.inl le))), ((f 6), .inl (cL, 1024, .inr (.inl ri))), ((f 7), .inl (cI, 1024, .inl fr)), ((f 8), .inl (cI, 1024, .inl od)), ((f 9), .inl (cZ, 1024, .inl ha)), ((f 10), .inl (cL, 1024, .inr (.inl wo)))] sz) (fun (_ : Unit) => [((f 4), .inr (2, [.ref (f 5), .ref (f 6), .ref (f 7), .int (nI fs), .ref (f 8), .ref (f 9), .ref (f 10), .int tb])), ((f 5), .inl (cL, 1024, .inr (.inl le))), ((f 6), .inl (cL, 1024, .inr (.inl ri))), ((f 7), .inl (cI, 1024, .inl fr)), ((f 8), .inl (cI, 1024, .inl od)), ((f 9), .inl (cZ, 1024, .inl ha)), ((f 10), .inl (cL, 1024, .inr (.inl wo)))]) (fun v (_ : Unit) => ∃ r : Int64, v = some (.long r) ∧ (wfw 1024 r)) (fun C (_ : Unit) => False) 0 0 := by
  refine em_Met.ofW (cc := b_TM_rightOf) (maxL := 2) (ret := (some .long)) (by decide) rfl ?_
  intro p e s m args below meth c s₁ B hml hv hno
  obtain ⟨rfl, ⟨hsz, hP, hK, hD0⟩, hE⟩ := hv
  have hx := B.exec
  have hb := B.bytes
  have hr := B.returns
  have hts := atoms_spec (ws := wz y_TM_rightOf b_TM_rightOf 2 (some .long)) B.pre
  have hG := wz_G hts
  have hown : s.vm.findClass rn_TM = some m.cls := findClass_of_methodNamed B.named
  have hlocks := B.notSynchronized
  subst hsz
  have hD := hD0.self (sz := s.heap.size)
  have hst := tw_st hP
  generalize hAe : va_A [((f 4), .inr (2, [.ref (f 5), .ref (f 6), .ref (f 7), .int (nI fs), .ref (f 8), .ref (f 9), .ref (f 10), .int tb])), ((f 5), .inl (cL, 1024, .inr (.inl le))), ((f 6), .inl (cL, 1024, .inr (.inl ri))), ((f 7), .inl (cI, 1024, .inl fr)), ((f 8), .inl (cI, 1024, .inl od)), ((f 9), .inl (cZ, 1024, .inl ha)), ((f 10), .inl (cL, 1024, .inr (.inl wo)))] s.heap.size = A at hD hst ⊢
  have hA : ∀ q : Nat, s.heap.size ≤ q → A q := fun q h => by rw [← hAe]; exact Or.inr h
  have hS : va_S A s.heap s.heap [] := va_S.rf
  have hl := lv_entry ([.ref (f 4), .int (nI n)]) (n := 2) (Nat.le_of_ble_eq_true rfl)
  rw [lg_entry_eq]
  generalize (lg_sl ([.ref (f 4), .int (nI n)]) ++ List.replicate (2 - (lg_sl ([.ref (f 4), .int (nI n)])).length) Slot.unset).toArray = ls at hl ⊢
  have hl : lv_has ls 2 [(0, .ref (f 4)), (1, .int (nI n))] := hl
  refine lv_aload_n hx hb d_TM_rightOf_0 rfl (lv_at hl 0 rfl) ?_
  refine va_get (D := D) (ci := 2) (v := .ref (f 6)) (C := rn_TM) (T := fl_TM) (N := 8) hx hb hG in_TM hown hK hP 0 rfl rfl 1 (by decide) (hG _ k_163) (fun _ h9 => h9) rfl d_TM_rightOf_1 ?_
  refine lv_iload_n hx hb d_TM_rightOf_4 rfl (lv_at hl 1 rfl) ?_
  refine va_lald hx hb hK hP 2 1 rfl rfl (vp_in_nI (n := n) (N := 1024) (by omega) (by omega)) d_TM_rightOf_5 ?_
  refine lv_topl (fun w_1 ew_1 => ?_)
  have hw_1 : wfw 1024 w_1 := by rw [ew_1]; exact hri _
  exact em_lret hx hb hr hlocks hP hD hK hS () [0, 1, 2, 3, 4, 5, 6] (by decide) rfl ⟨_, rfl, hw_1⟩ d_TM_rightOf_6
set_option maxHeartbeats 8000000 in
set_option maxRecDepth 100000 in
theorem tm_listed (l : Launch) (D : va_G) (cI cL cZ cC : ClassId) (f : Nat → Nat) (fs : Nat) (tb : Int32) (le : Nat → Int64) (ri : Nat → Int64) (wo : Nat → Int64) (fr : Nat → Int32) (od : Nat → Int32) (ha : Nat → Int32) (n : Nat) (sz : Nat) (hfs : fs ≤ 1024) (htb : (tb = 0 ∨ tb = 1)) (hle : wfa 1024 le) (hri : wfa 1024 ri) (hwo : wfa 1024 wo) (hfr : rng 1024 fr) (hod : rng 1024 od) (hha : bln ha) (hn : n < 1024) (hnt : l.stackTraces = false) : em_Met l y_TM_listed (wz y_TM_listed b_TM_listed 2 (some .int)) ({ frames := 0, cells := 0, slots := 0, locals := 0 }) (va_Pc [.ref (f 4), .int (nI n)] (tw_pre D (tys4 cI cL cZ cC) [((f 4), .inr (2, [.ref (f 5), .ref (f 6), .ref (f 7), .int (nI fs), .ref (f 8), .ref (f 9), .ref (f 10), .int tb])), ((f 5), .inl (cL, 1024, .inr (.inl le))), ((f 6), .inl (cL, 1024, .inr (.inl ri))), ((f 7), .inl (cI, 1024, .inl fr)), ((f 8), .inl (cI, 1024, .inl od)), ((f 9), .inl (cZ, 1024, .inl ha)), ((f 10), .inl (cL, 1024, .inr (.inl wo)))] sz)) D (tys4 cI cL cZ cC) (va_A [((f 4), .inr (2, [.ref (f 5), .ref (f 6), .ref (f 7), .int (nI fs), .ref (f 8), .ref (f 9), .ref (f 10), .int tb])), ((f 5), .inl (cL, 1024, .inr (.inl le))), ((f 6), .inl (cL, 1024, .inr (.inl ri))), ((f 7), .inl (cI, 1024, .inl fr)), ((f 8), .inl (cI, 1024, .inl od)), ((f 9), .inl (cZ, 1024, .inl ha)), ((f 10), .inl (cL, 1024, .inr (.inl wo)))] sz) (fun (_ : Unit) => [((f 4), .inr (2, [.ref (f 5), .ref (f 6), .ref (f 7), .int (nI fs), .ref (f 8), .ref (f 9), .ref (f 10), .int tb])), ((f 5), .inl (cL, 1024, .inr (.inl le))), ((f 6), .inl (cL, 1024, .inr (.inl ri))), ((f 7), .inl (cI, 1024, .inl fr)), ((f 8), .inl (cI, 1024, .inl od)), ((f 9), .inl (cZ, 1024, .inl ha)), ((f 10), .inl (cL, 1024, .inr (.inl wo)))]) (fun v (_ : Unit) => ∃ r : Int32, v = some (.int r) ∧ ((∃ j : Nat, j < 1024 ∧ r = nI j))) (fun C (_ : Unit) => False) 0 0 := by
  refine em_Met.ofW (cc := b_TM_listed) (maxL := 2) (ret := (some .int)) (by decide) rfl ?_
  intro p e s m args below meth c s₁ B hml hv hno
  obtain ⟨rfl, ⟨hsz, hP, hK, hD0⟩, hE⟩ := hv
  have hx := B.exec
  have hb := B.bytes
  have hr := B.returns
  have hts := atoms_spec (ws := wz y_TM_listed b_TM_listed 2 (some .int)) B.pre
  have hG := wz_G hts
  have hown : s.vm.findClass rn_TM = some m.cls := findClass_of_methodNamed B.named
  have hlocks := B.notSynchronized
  subst hsz
  have hD := hD0.self (sz := s.heap.size)
  have hst := tw_st hP
  generalize hAe : va_A [((f 4), .inr (2, [.ref (f 5), .ref (f 6), .ref (f 7), .int (nI fs), .ref (f 8), .ref (f 9), .ref (f 10), .int tb])), ((f 5), .inl (cL, 1024, .inr (.inl le))), ((f 6), .inl (cL, 1024, .inr (.inl ri))), ((f 7), .inl (cI, 1024, .inl fr)), ((f 8), .inl (cI, 1024, .inl od)), ((f 9), .inl (cZ, 1024, .inl ha)), ((f 10), .inl (cL, 1024, .inr (.inl wo)))] s.heap.size = A at hD hst ⊢
  have hA : ∀ q : Nat, s.heap.size ≤ q → A q := fun q h => by rw [← hAe]; exact Or.inr h
  have hS : va_S A s.heap s.heap [] := va_S.rf
  have hl := lv_entry ([.ref (f 4), .int (nI n)]) (n := 2) (Nat.le_of_ble_eq_true rfl)
  rw [lg_entry_eq]
  generalize (lg_sl ([.ref (f 4), .int (nI n)]) ++ List.replicate (2 - (lg_sl ([.ref (f 4), .int (nI n)])).length) Slot.unset).toArray = ls at hl ⊢
  have hl : lv_has ls 2 [(0, .ref (f 4)), (1, .int (nI n))] := hl
  refine lv_aload_n hx hb d_TM_listed_0 rfl (lv_at hl 0 rfl) ?_
  refine va_get (D := D) (ci := 2) (v := .ref (f 8)) (C := rn_TM) (T := fl_TM) (N := 8) hx hb hG in_TM hown hK hP 0 rfl rfl 4 (by decide) (hG _ k_166) (fun _ h9 => h9) rfl d_TM_listed_1 ?_
  refine lv_iload_n hx hb d_TM_listed_4 rfl (lv_at hl 1 rfl) ?_
  refine va_iald hx hb hK hP 4 0 rfl rfl (vp_in_nI (n := n) (N := 1024) (by omega) (by omega)) d_TM_listed_5 ?_
  obtain ⟨j_1, hj_1, ej_1⟩ := hod ((nI n).toNatClampNeg)
  refine W.eq (g2 := F0 m 6 ls [.int (nI j_1)]) (by rw [ej_1]) ?_
  exact em_iret hx hb hr hlocks hP hD hK hS () [0, 1, 2, 3, 4, 5, 6] (by decide) rfl ⟨_, rfl, ⟨j_1, (by omega), rfl⟩⟩ d_TM_listed_6
set_option maxHeartbeats 8000000 in
set_option maxRecDepth 100000 in
theorem tm_listSide (l : Launch) (D : va_G) (cI cL cZ cC : ClassId) (f : Nat → Nat) (fs : Nat) (tb : Int32) (le : Nat → Int64) (ri : Nat → Int64) (wo : Nat → Int64) (fr : Nat → Int32) (od : Nat → Int32) (ha : Nat → Int32) (a : Int64) (n : Nat) (sz : Nat) (hfs : fs ≤ 1024) (htb : (tb = 0 ∨ tb = 1)) (hle : wfa 1024 le) (hri : wfa 1024 ri) (hwo : wfa 1024 wo) (hfr : rng 1024 fr) (hod : rng 1024 od) (hha : bln ha) (hwa : wfw 1024 a) (hn : n ≤ 1024) (hnt : l.stackTraces = false) : em_Met l y_TM_listSide (wz y_TM_listSide b_TM_listSide 4 (some .int)) ({ frames := 1, cells := 0, slots := 0, locals := 21 }) (va_Pc [.ref (f 4), .long a, .int (nI n)] (tw_pre D (tys4 cI cL cZ cC) [((f 4), .inr (2, [.ref (f 5), .ref (f 6), .ref (f 7), .int (nI fs), .ref (f 8), .ref (f 9), .ref (f 10), .int tb])), ((f 5), .inl (cL, 1024, .inr (.inl le))), ((f 6), .inl (cL, 1024, .inr (.inl ri))), ((f 7), .inl (cI, 1024, .inl fr)), ((f 8), .inl (cI, 1024, .inl od)), ((f 9), .inl (cZ, 1024, .inl ha)), ((f 10), .inl (cL, 1024, .inr (.inl wo)))] sz)) D (tys4 cI cL cZ cC) (va_A [((f 4), .inr (2, [.ref (f 5), .ref (f 6), .ref (f 7), .int (nI fs), .ref (f 8), .ref (f 9), .ref (f 10), .int tb])), ((f 5), .inl (cL, 1024, .inr (.inl le))), ((f 6), .inl (cL, 1024, .inr (.inl ri))), ((f 7), .inl (cI, 1024, .inl fr)), ((f 8), .inl (cI, 1024, .inl od)), ((f 9), .inl (cZ, 1024, .inl ha)), ((f 10), .inl (cL, 1024, .inr (.inl wo)))] sz) (fun (u : Nat × Int32 × (Nat → Int64) × (Nat → Int64) × (Nat → Int64) × (Nat → Int32) × (Nat → Int32) × (Nat → Int32)) => [((f 4), .inr (2, [.ref (f 5), .ref (f 6), .ref (f 7), .int (nI u.1), .ref (f 8), .ref (f 9), .ref (f 10), .int u.2.1])), ((f 5), .inl (cL, 1024, .inr (.inl u.2.2.1))), ((f 6), .inl (cL, 1024, .inr (.inl u.2.2.2.1))), ((f 7), .inl (cI, 1024, .inl u.2.2.2.2.2.1)), ((f 8), .inl (cI, 1024, .inl u.2.2.2.2.2.2.1)), ((f 9), .inl (cZ, 1024, .inl u.2.2.2.2.2.2.2)), ((f 10), .inl (cL, 1024, .inr (.inl u.2.2.2.2.1)))]) (fun v (u : Nat × Int32 × (Nat → Int64) × (Nat → Int64) × (Nat → Int64) × (Nat → Int32) × (Nat → Int32) × (Nat → Int32)) => ∃ r : Int32, v = some (.int r) ∧ (u.1 ≤ 1024 ∧ (u.2.1 = 0 ∨ u.2.1 = 1) ∧ wfa 1024 u.2.2.1 ∧ wfa 1024 u.2.2.2.1 ∧ wfa 1024 u.2.2.2.2.1 ∧ rng 1024 u.2.2.2.2.2.1 ∧ rng 1024 u.2.2.2.2.2.2.1 ∧ bln u.2.2.2.2.2.2.2 ∧ (∃ j : Nat, j ≤ 1024 ∧ r = nI j))) (fun C (u : Nat × Int32 × (Nat → Int64) × (Nat → Int64) × (Nat → Int64) × (Nat → Int32) × (Nat → Int32) × (Nat → Int32)) => False) 0 0 := by
  refine em_Met.ofW (cc := b_TM_listSide) (maxL := 4) (ret := (some .int)) (by decide) rfl ?_
  intro p e s m args below meth c s₁ B hml hv hno
  obtain ⟨rfl, ⟨hsz, hP, hK, hD0⟩, hE⟩ := hv
  have hx := B.exec
  have hb := B.bytes
  have hr := B.returns
  have hts := atoms_spec (ws := wz y_TM_listSide b_TM_listSide 4 (some .int)) B.pre
  have hG := wz_G hts
  have hown : s.vm.findClass rn_TM = some m.cls := findClass_of_methodNamed B.named
  have hlocks := B.notSynchronized
  subst hsz
  have hD := hD0.self (sz := s.heap.size)
  have hst := tw_st hP
  generalize hAe : va_A [((f 4), .inr (2, [.ref (f 5), .ref (f 6), .ref (f 7), .int (nI fs), .ref (f 8), .ref (f 9), .ref (f 10), .int tb])), ((f 5), .inl (cL, 1024, .inr (.inl le))), ((f 6), .inl (cL, 1024, .inr (.inl ri))), ((f 7), .inl (cI, 1024, .inl fr)), ((f 8), .inl (cI, 1024, .inl od)), ((f 9), .inl (cZ, 1024, .inl ha)), ((f 10), .inl (cL, 1024, .inr (.inl wo)))] s.heap.size = A at hD hst ⊢
  have hA : ∀ q : Nat, s.heap.size ≤ q → A q := fun q h => by rw [← hAe]; exact Or.inr h
  have hS : va_S A s.heap s.heap [] := va_S.rf
  have hl := lv_entry ([.ref (f 4), .long a, .int (nI n)]) (n := 4) (Nat.le_of_ble_eq_true rfl)
  rw [lg_entry_eq]
  generalize (lg_sl ([.ref (f 4), .long a, .int (nI n)]) ++ List.replicate (4 - (lg_sl ([.ref (f 4), .long a, .int (nI n)])).length) Slot.unset).toArray = ls at hl ⊢
  have hl : lv_has ls 4 [(0, .ref (f 4)), (1, .long a), (3, .int (nI n))] := hl
  refine lv_lload_n hx hb d_TM_listSide_0 rfl (lv_at hl 1 rfl) ?_
  refine W.callR (W.runS (As := [.long a]) (rest := []) ⟨hx, hb, hml, hown, hG⟩ (wd_isCell l D cI cL cZ cC a ) (va_cwS 1 hG (gd_T k_752 k_753 k_127 k_754) rfl rfl rfl (by decide +kernel) ⟨Nat.le_of_ble_eq_true rfl, Nat.le_of_ble_eq_true rfl⟩) (wq_S hP hK [] rfl) rfl rfl hl.1 rfl (lv_room (Nat.le_of_ble_eq_true rfl)) d_TM_listSide_1 ⟨Nat.le_of_ble_eq_true rfl, Nat.le_of_ble_eq_true rfl⟩) ?_
  refine W.eq (g2 := F0 m 4 ls [.int (wcell a)]) rfl ?_
  refine lv_if_eq (tgt := 14) hx hb d_TM_listSide_4 (by decide) (fun hb_1 => ?_) (fun hb_1 => ?_)
  · skip
    refine lv_iload_n hx hb d_TM_listSide_14 rfl (lv_at hl 2 rfl) ?_
    exact em_iret hx hb hr hlocks hP hD hK hS (fs, tb, le, ri, wo, fr, od, ha) [0, 1, 2, 3, 4, 5, 6] (by decide) rfl ⟨_, rfl, ⟨(by omega), htb, hle, hri, hwo, hfr, hod, hha, ⟨n, (by omega), rfl⟩⟩⟩ d_TM_listSide_15
  · skip
    obtain ⟨j_2, hj_2, ej_2⟩ := wcell_t hwa hb_1
    refine lv_iload_n hx hb d_TM_listSide_7 rfl (lv_at hl 2 rfl) ?_
    refine lv_sipush (v := 1024) hx hb d_TM_listSide_8 (by decide) ?_
    refine lv_icmp_lt (tgt := 16) hx hb d_TM_listSide_11 (by decide) (fun hb_3 => ?_) (fun hb_3 => ?_)
    · skip
      have hn_4 : n < 1024 := (nI_ltI (a := n) (b := 1024) (by omega) (by omega)).mp hb_3
      refine lv_aload_n hx hb d_TM_listSide_16 rfl (lv_at hl 0 rfl) ?_
      refine va_get (D := D) (ci := 2) (v := .ref (f 8)) (C := rn_TM) (T := fl_TM) (N := 8) hx hb hG in_TM hown hK hP 0 rfl rfl 4 (by decide) (hG _ k_166) (fun _ h9 => h9) rfl d_TM_listSide_17 ?_
      refine lv_iload_n hx hb d_TM_listSide_20 rfl (lv_at hl 2 rfl) ?_
      refine lv_lload_n hx hb d_TM_listSide_21 rfl (lv_at hl 1 rfl) ?_
      refine W.callR (W.runS (As := [.long a]) (rest := [.int (nI n), .ref (f 8)]) ⟨hx, hb, hml, hown, hG⟩ (wd_number l D cI cL cZ cC a ) (va_cwS 1 hG (gd_T k_755 k_756 k_127 k_757) rfl rfl rfl (by decide +kernel) ⟨Nat.le_of_ble_eq_true rfl, Nat.le_of_ble_eq_true rfl⟩) (wq_S hP hK [] rfl) rfl rfl hl.1 rfl (lv_room (Nat.le_of_ble_eq_true rfl)) d_TM_listSide_22 ⟨Nat.le_of_ble_eq_true rfl, Nat.le_of_ble_eq_true rfl⟩) ?_
      refine W.eq (g2 := F0 m 25 ls [.int a.toInt32, .int (nI n), .ref (f 8)]) rfl ?_
      refine W.eq (g2 := F0 m 25 ls [.int (nI j_2), .int (nI n), .ref (f 8)]) (by rw [ej_2]) ?_
      refine va_iast hx hb hK hP hD hS 4 0 rfl rfl (vp_in_nI (n := n) (N := 1024) (by omega) (by omega)) d_TM_listSide_25 (fun H locs hP hD hS => ?_)
      have hP : va_P D classes [((f 4), .inr (2, [.ref (f 5), .ref (f 6), .ref (f 7), .int (nI fs), .ref (f 8), .ref (f 9), .ref (f 10), .int tb])), ((f 5), .inl (cL, 1024, .inr (.inl le))), ((f 6), .inl (cL, 1024, .inr (.inl ri))), ((f 7), .inl (cI, 1024, .inl fr)), ((f 8), .inl (cI, 1024, .inl (upd od (nI n).toNatClampNeg (nI j_2)))), ((f 9), .inl (cZ, 1024, .inl ha)), ((f 10), .inl (cL, 1024, .inr (.inl wo)))] H := hP
      have hD : va_D A [((f 4), .inr (2, [.ref (f 5), .ref (f 6), .ref (f 7), .int (nI fs), .ref (f 8), .ref (f 9), .ref (f 10), .int tb])), ((f 5), .inl (cL, 1024, .inr (.inl le))), ((f 6), .inl (cL, 1024, .inr (.inl ri))), ((f 7), .inl (cI, 1024, .inl fr)), ((f 8), .inl (cI, 1024, .inl (upd od (nI n).toNatClampNeg (nI j_2)))), ((f 9), .inl (cZ, 1024, .inl ha)), ((f 10), .inl (cL, 1024, .inr (.inl wo)))] := hD
      obtain ⟨g_5, eg_5⟩ : ∃ z, z = upd od (nI n).toNatClampNeg (nI j_2) := ⟨_, rfl⟩
      rw [← eg_5] at hP hD
      have hg_5 : rng 1024 g_5 := by rw [eg_5]; exact rng_up hod (by omega)
      refine lv_iload_n hx hb d_TM_listSide_26 rfl (lv_at hl 2 rfl) ?_
      refine lv_iconst (v := 1) hx hb d_TM_listSide_27 (by decide) ?_
      refine lw_iadd (a := n) (b := 1) hx hb d_TM_listSide_28 ?_
      exact em_iret hx hb hr hlocks hP hD hK hS (fs, tb, le, ri, wo, fr, g_5, ha) [0, 1, 2, 3, 4, 5, 6] (by decide) rfl ⟨_, rfl, ⟨(by omega), htb, hle, hri, hwo, hfr, hg_5, hha, ⟨n + 1, (by omega), rfl⟩⟩⟩ d_TM_listSide_29
    · skip
      have hn_6 : ¬ n < 1024 := fun h => hb_3 ((nI_ltI (a := n) (b := 1024) (by omega) (by omega)).mpr h)
      refine lv_iload_n hx hb d_TM_listSide_14 rfl (lv_at hl 2 rfl) ?_
      exact em_iret hx hb hr hlocks hP hD hK hS (fs, tb, le, ri, wo, fr, od, ha) [0, 1, 2, 3, 4, 5, 6] (by decide) rfl ⟨_, rfl, ⟨(by omega), htb, hle, hri, hwo, hfr, hod, hha, ⟨n, (by omega), rfl⟩⟩⟩ d_TM_listSide_15
set_option maxHeartbeats 8000000 in
set_option maxRecDepth 100000 in
theorem tm_list (l : Launch) (D : va_G) (cI cL cZ cC : ClassId) (f : Nat → Nat) (fs : Nat) (tb : Int32) (le : Nat → Int64) (ri : Nat → Int64) (wo : Nat → Int64) (fr : Nat → Int32) (od : Nat → Int32) (ha : Nat → Int32) (a : Int64) (sz : Nat) (hfs : fs ≤ 1024) (htb : (tb = 0 ∨ tb = 1)) (hle : wfa 1024 le) (hri : wfa 1024 ri) (hwo : wfa 1024 wo) (hfr : rng 1024 fr) (hod : rng 1024 od) (hha : bln ha) (hwa : wfw 1024 a) (hnt : l.stackTraces = false) : em_Met l y_TM_list (wz y_TM_list b_TM_list 5 (some .int)) ({ frames := 2, cells := 0, slots := 0, locals := 44 }) (va_Pc [.ref (f 4), .long a] (tw_pre D (tys4 cI cL cZ cC) [((f 4), .inr (2, [.ref (f 5), .ref (f 6), .ref (f 7), .int (nI fs), .ref (f 8), .ref (f 9), .ref (f 10), .int tb])), ((f 5), .inl (cL, 1024, .inr (.inl le))), ((f 6), .inl (cL, 1024, .inr (.inl ri))), ((f 7), .inl (cI, 1024, .inl fr)), ((f 8), .inl (cI, 1024, .inl od)), ((f 9), .inl (cZ, 1024, .inl ha)), ((f 10), .inl (cL, 1024, .inr (.inl wo)))] sz)) D (tys4 cI cL cZ cC) (va_A [((f 4), .inr (2, [.ref (f 5), .ref (f 6), .ref (f 7), .int (nI fs), .ref (f 8), .ref (f 9), .ref (f 10), .int tb])), ((f 5), .inl (cL, 1024, .inr (.inl le))), ((f 6), .inl (cL, 1024, .inr (.inl ri))), ((f 7), .inl (cI, 1024, .inl fr)), ((f 8), .inl (cI, 1024, .inl od)), ((f 9), .inl (cZ, 1024, .inl ha)), ((f 10), .inl (cL, 1024, .inr (.inl wo)))] sz) (fun (u : Nat × Int32 × (Nat → Int64) × (Nat → Int64) × (Nat → Int64) × (Nat → Int32) × (Nat → Int32) × (Nat → Int32)) => [((f 4), .inr (2, [.ref (f 5), .ref (f 6), .ref (f 7), .int (nI u.1), .ref (f 8), .ref (f 9), .ref (f 10), .int u.2.1])), ((f 5), .inl (cL, 1024, .inr (.inl u.2.2.1))), ((f 6), .inl (cL, 1024, .inr (.inl u.2.2.2.1))), ((f 7), .inl (cI, 1024, .inl u.2.2.2.2.2.1)), ((f 8), .inl (cI, 1024, .inl u.2.2.2.2.2.2.1)), ((f 9), .inl (cZ, 1024, .inl u.2.2.2.2.2.2.2)), ((f 10), .inl (cL, 1024, .inr (.inl u.2.2.2.2.1)))]) (fun v (u : Nat × Int32 × (Nat → Int64) × (Nat → Int64) × (Nat → Int64) × (Nat → Int32) × (Nat → Int32) × (Nat → Int32)) => ∃ r : Int32, v = some (.int r) ∧ (u.1 ≤ 1024 ∧ (u.2.1 = 0 ∨ u.2.1 = 1) ∧ wfa 1024 u.2.2.1 ∧ wfa 1024 u.2.2.2.1 ∧ wfa 1024 u.2.2.2.2.1 ∧ rng 1024 u.2.2.2.2.2.1 ∧ rng 1024 u.2.2.2.2.2.2.1 ∧ bln u.2.2.2.2.2.2.2 ∧ (∃ j : Nat, j ≤ 1024 ∧ r = nI j))) (fun C (u : Nat × Int32 × (Nat → Int64) × (Nat → Int64) × (Nat → Int64) × (Nat → Int32) × (Nat → Int32) × (Nat → Int32)) => False) 0 0 := by
  refine em_Met.ofW (cc := b_TM_list) (maxL := 5) (ret := (some .int)) (by decide) rfl ?_
  intro p e s m args below meth c s₁ B hml hv hno
  obtain ⟨rfl, ⟨hsz, hP, hK, hD0⟩, hE⟩ := hv
  have hx := B.exec
  have hb := B.bytes
  have hr := B.returns
  have hts := atoms_spec (ws := wz y_TM_list b_TM_list 5 (some .int)) B.pre
  have hG := wz_G hts
  have hown : s.vm.findClass rn_TM = some m.cls := findClass_of_methodNamed B.named
  have hlocks := B.notSynchronized
  subst hsz
  have hD := hD0.self (sz := s.heap.size)
  have hst := tw_st hP
  generalize hAe : va_A [((f 4), .inr (2, [.ref (f 5), .ref (f 6), .ref (f 7), .int (nI fs), .ref (f 8), .ref (f 9), .ref (f 10), .int tb])), ((f 5), .inl (cL, 1024, .inr (.inl le))), ((f 6), .inl (cL, 1024, .inr (.inl ri))), ((f 7), .inl (cI, 1024, .inl fr)), ((f 8), .inl (cI, 1024, .inl od)), ((f 9), .inl (cZ, 1024, .inl ha)), ((f 10), .inl (cL, 1024, .inr (.inl wo)))] s.heap.size = A at hD hst ⊢
  have hA : ∀ q : Nat, s.heap.size ≤ q → A q := fun q h => by rw [← hAe]; exact Or.inr h
  have hS : va_S A s.heap s.heap [] := va_S.rf
  have hl := lv_entry ([.ref (f 4), .long a]) (n := 5) (Nat.le_of_ble_eq_true rfl)
  rw [lg_entry_eq]
  generalize (lg_sl ([.ref (f 4), .long a]) ++ List.replicate (5 - (lg_sl ([.ref (f 4), .long a])).length) Slot.unset).toArray = ls at hl ⊢
  have hl : lv_has ls 5 [(0, .ref (f 4)), (1, .long a)] := hl
  have loop_2 : ∀ (k_1 : Nat) (i : Nat) (n : Nat) (g : Nat → Int32) (fs1 : Nat) (tb1 : Int32) (le1 : Nat → Int64) (ri1 : Nat → Int64) (wo1 : Nat → Int64) (fr1 : Nat → Int32) (ha1 : Nat → Int32) (H : Heap) (locs : List Loc) (ls : Array Slot), 1024 - i < k_1 → (i ≤ 1024) → (n ≤ 1024) → (rng 1024 g) → (fs1 ≤ 1024) → ((tb1 = 0 ∨ tb1 = 1)) → (wfa 1024 le1) → (wfa 1024 ri1) → (wfa 1024 wo1) → (rng 1024 fr1) → (bln ha1) → lv_has ls 5 [(0, .ref (f 4)), (1, .long a), (3, .int (nI n)), (4, .int (nI i))] → va_P D classes [((f 4), .inr (2, [.ref (f 5), .ref (f 6), .ref (f 7), .int (nI fs1), .ref (f 8), .ref (f 9), .ref (f 10), .int tb1])), ((f 5), .inl (cL, 1024, .inr (.inl le1))), ((f 6), .inl (cL, 1024, .inr (.inl ri1))), ((f 7), .inl (cI, 1024, .inl fr1)), ((f 8), .inl (cI, 1024, .inl g)), ((f 9), .inl (cZ, 1024, .inl ha1)), ((f 10), .inl (cL, 1024, .inr (.inl wo1)))] H → va_D A [((f 4), .inr (2, [.ref (f 5), .ref (f 6), .ref (f 7), .int (nI fs1), .ref (f 8), .ref (f 9), .ref (f 10), .int tb1])), ((f 5), .inl (cL, 1024, .inr (.inl le1))), ((f 6), .inl (cL, 1024, .inr (.inl ri1))), ((f 7), .inl (cI, 1024, .inl fr1)), ((f 8), .inl (cI, 1024, .inl g)), ((f 9), .inl (cZ, 1024, .inl ha1)), ((f 10), .inl (cL, 1024, .inr (.inl wo1)))] → va_S A s.heap H locs → W p l e (headSpec (wz y_TM_list b_TM_list 5 (some .int)) ({ frames := 2, cells := 0, slots := 0, locals := 44 })).room s m ([.ref (f 4), .long a] : List Value).toArray below meth c H locs 0 0 (em_MQ below D (tys4 cI cL cZ cC) A (fun (u : Nat × Int32 × (Nat → Int64) × (Nat → Int64) × (Nat → Int64) × (Nat → Int32) × (Nat → Int32) × (Nat → Int32)) => [((f 4), .inr (2, [.ref (f 5), .ref (f 6), .ref (f 7), .int (nI u.1), .ref (f 8), .ref (f 9), .ref (f 10), .int u.2.1])), ((f 5), .inl (cL, 1024, .inr (.inl u.2.2.1))), ((f 6), .inl (cL, 1024, .inr (.inl u.2.2.2.1))), ((f 7), .inl (cI, 1024, .inl u.2.2.2.2.2.1)), ((f 8), .inl (cI, 1024, .inl u.2.2.2.2.2.2.1)), ((f 9), .inl (cZ, 1024, .inl u.2.2.2.2.2.2.2)), ((f 10), .inl (cL, 1024, .inr (.inl u.2.2.2.2.1)))]) (fun v (u : Nat × Int32 × (Nat → Int64) × (Nat → Int64) × (Nat → Int64) × (Nat → Int32) × (Nat → Int32) × (Nat → Int32)) => ∃ r : Int32, v = some (.int r) ∧ (u.1 ≤ 1024 ∧ (u.2.1 = 0 ∨ u.2.1 = 1) ∧ wfa 1024 u.2.2.1 ∧ wfa 1024 u.2.2.2.1 ∧ wfa 1024 u.2.2.2.2.1 ∧ rng 1024 u.2.2.2.2.2.1 ∧ rng 1024 u.2.2.2.2.2.2.1 ∧ bln u.2.2.2.2.2.2.2 ∧ (∃ j : Nat, j ≤ 1024 ∧ r = nI j))) (fun C (u : Nat × Int32 × (Nat → Int64) × (Nat → Int64) × (Nat → Int64) × (Nat → Int32) × (Nat → Int32) × (Nat → Int32)) => False) s 0 0) (F0 m 25 ls []) := by
    intro k_1
    induction k_1 with
    | zero => intro i n g fs1 tb1 le1 ri1 wo1 fr1 ha1 H locs ls hm; exact absurd hm (Nat.not_lt_zero _)
    | succ k_1 ih_3 =>
      intro i n g fs1 tb1 le1 ri1 wo1 fr1 ha1 H locs ls hm hi hn hg hfs1 htb1 hle1 hri1 hwo1 hfr1 hha1 hl hP hD hS
      refine lv_iload hx hb d_TM_list_25 (lv_at hl 3 rfl) ?_
      refine lv_iload_n hx hb d_TM_list_27 rfl (lv_at hl 2 rfl) ?_
      refine lv_icmp_ge (tgt := 81) hx hb d_TM_list_28 (by decide) (fun hb_4 => ?_) (fun hb_4 => ?_)
      · skip
        have hn_5 : n ≤ i := (nI_leI (a := n) (b := i) (by omega) (by omega)).mp hb_4
        refine lv_iload_n hx hb d_TM_list_81 rfl (lv_at hl 2 rfl) ?_
        exact em_iret hx hb hr hlocks hP hD hK hS (fs1, tb1, le1, ri1, wo1, fr1, g, ha1) [0, 1, 2, 3, 4, 5, 6] (by decide) rfl ⟨_, rfl, ⟨(by omega), htb1, hle1, hri1, hwo1, hfr1, hg, hha1, ⟨n, (by omega), rfl⟩⟩⟩ d_TM_list_82
      · skip
        have hn_6 : ¬ n ≤ i := fun h => hb_4 ((nI_leI (a := n) (b := i) (by omega) (by omega)).mpr h)
        refine lv_iload hx hb d_TM_list_31 (lv_at hl 3 rfl) ?_
        refine lv_sipush (v := 1024) hx hb d_TM_list_33 (by decide) ?_
        refine lv_icmp_ge (tgt := 81) hx hb d_TM_list_36 (by decide) (fun hb_7 => ?_) (fun hb_7 => ?_)
        · skip
          have hn_8 : 1024 ≤ i := (nI_leI (a := 1024) (b := i) (by omega) (by omega)).mp hb_7
          refine lv_iload_n hx hb d_TM_list_81 rfl (lv_at hl 2 rfl) ?_
          exact em_iret hx hb hr hlocks hP hD hK hS (fs1, tb1, le1, ri1, wo1, fr1, g, ha1) [0, 1, 2, 3, 4, 5, 6] (by decide) rfl ⟨_, rfl, ⟨(by omega), htb1, hle1, hri1, hwo1, hfr1, hg, hha1, ⟨n, (by omega), rfl⟩⟩⟩ d_TM_list_82
        · skip
          have hn_9 : ¬ 1024 ≤ i := fun h => hb_7 ((nI_leI (a := 1024) (b := i) (by omega) (by omega)).mpr h)
          refine lv_aload_n hx hb d_TM_list_39 rfl (lv_at hl 0 rfl) ?_
          refine lv_aload_n hx hb d_TM_list_40 rfl (lv_at hl 0 rfl) ?_
          refine va_get (D := D) (ci := 2) (v := .ref (f 5)) (C := rn_TM) (T := fl_TM) (N := 8) hx hb hG in_TM hown hK hP 0 rfl rfl 0 (by decide) (hG _ k_162) (fun _ h9 => h9) rfl d_TM_list_41 ?_
          refine lv_aload_n hx hb d_TM_list_44 rfl (lv_at hl 0 rfl) ?_
          refine va_get (D := D) (ci := 2) (v := .ref (f 8)) (C := rn_TM) (T := fl_TM) (N := 8) hx hb hG in_TM hown hK hP 0 rfl rfl 4 (by decide) (hG _ k_166) (fun _ h9 => h9) rfl d_TM_list_45 ?_
          refine lv_iload hx hb d_TM_list_48 (lv_at hl 3 rfl) ?_
          refine va_iald hx hb hK hP 4 0 rfl rfl (vp_in_nI (n := i) (N := 1024) (by omega) (by omega)) d_TM_list_50 ?_
          obtain ⟨j_10, hj_10, ej_10⟩ := hg ((nI i).toNatClampNeg)
          refine W.eq (g2 := F0 m 51 ls [.int (nI j_10), .ref (f 5), .ref (f 4)]) (by rw [ej_10]) ?_
          refine va_lald hx hb hK hP 1 1 rfl rfl (vp_in_nI (n := j_10) (N := 1024) (by omega) (by omega)) d_TM_list_51 ?_
          refine lv_topl (fun w_11 ew_11 => ?_)
          have hw_11 : wfw 1024 w_11 := by rw [ew_11]; exact hle1 _
          refine lv_iload_n hx hb d_TM_list_52 rfl (lv_at hl 2 rfl) ?_
          refine em_call (wr := []) (em_runV (As := [.long w_11, .int (nI n)]) (rest := []) ⟨hx, hb, hml, hown, hG⟩ (tm_listSide l D cI cL cZ cC f fs1 tb1 le1 ri1 wo1 fr1 g ha1 w_11 n _ (by omega) htb1 hle1 hri1 hwo1 hfr1 hg hha1 hw_11 (by omega) hnt) (cwV 2 hG (gd_V k_758 k_760 k_12 k_109 k_761) rfl rfl rfl (by decide +kernel) ⟨Nat.le_of_ble_eq_true rfl, Nat.le_of_ble_eq_true rfl⟩) (tw_V (q0 := 0) hP hD hK hE hst hS rfl rfl [0, 1, 2, 3, 4, 5, 6] rfl (by decide)) rfl rfl hl.1 rfl (lv_room (Nat.le_of_ble_eq_true rfl)) d_TM_list_53 ⟨Nat.le_of_ble_eq_true rfl, Nat.le_of_ble_eq_true rfl⟩) hP hD hS hA [0, 1, 2, 3, 4, 5, 6] [] rfl rfl (by decide) (by decide) (fun v u H locs hok hP hD hS => ?_) (fun x C u H locs hbad hxx hP hD hS => ?_)
          · skip
            obtain ⟨fs_12, tb_13, le_14, ri_15, wo_16, fr_17, od_18, ha_19⟩ := u
            obtain ⟨r_20, rfl, hp_21⟩ := hok
            obtain ⟨hfs_22, htb_23, hle_24, hri_25, hwo_26, hfr_27, hod_28, hha_29, hres_30⟩ : fs_12 ≤ 1024 ∧ (tb_13 = 0 ∨ tb_13 = 1) ∧ wfa 1024 le_14 ∧ wfa 1024 ri_15 ∧ wfa 1024 wo_16 ∧ rng 1024 fr_17 ∧ rng 1024 od_18 ∧ bln ha_19 ∧ (∃ j : Nat, j ≤ 1024 ∧ r_20 = nI j) := hp_21
            obtain ⟨n_31, hn_31, rfl⟩ := hres_30
            have hP : va_P D classes [((f 4), .inr (2, [.ref (f 5), .ref (f 6), .ref (f 7), .int (nI fs_12), .ref (f 8), .ref (f 9), .ref (f 10), .int tb_13])), ((f 5), .inl (cL, 1024, .inr (.inl le_14))), ((f 6), .inl (cL, 1024, .inr (.inl ri_15))), ((f 7), .inl (cI, 1024, .inl fr_17)), ((f 8), .inl (cI, 1024, .inl od_18)), ((f 9), .inl (cZ, 1024, .inl ha_19)), ((f 10), .inl (cL, 1024, .inr (.inl wo_16)))] H := hP
            have hD : va_D A [((f 4), .inr (2, [.ref (f 5), .ref (f 6), .ref (f 7), .int (nI fs_12), .ref (f 8), .ref (f 9), .ref (f 10), .int tb_13])), ((f 5), .inl (cL, 1024, .inr (.inl le_14))), ((f 6), .inl (cL, 1024, .inr (.inl ri_15))), ((f 7), .inl (cI, 1024, .inl fr_17)), ((f 8), .inl (cI, 1024, .inl od_18)), ((f 9), .inl (cZ, 1024, .inl ha_19)), ((f 10), .inl (cL, 1024, .inr (.inl wo_16)))] := hD
            refine W.eq (g2 := F0 m 56 ls [.int (nI n_31)]) rfl ?_
            refine lv_istore_n (lv' := [(3, .int (nI n_31)), (0, .ref (f 4)), (1, .long a), (4, .int (nI i))]) hx hb d_TM_list_56 rfl hl (Nat.le_of_ble_eq_true rfl) rfl (fun ls hl => ?_)
            refine lv_aload_n hx hb d_TM_list_57 rfl (lv_at hl 1 rfl) ?_
            refine lv_aload_n hx hb d_TM_list_58 rfl (lv_at hl 1 rfl) ?_
            refine va_get (D := D) (ci := 2) (v := .ref (f 6)) (C := rn_TM) (T := fl_TM) (N := 8) hx hb hG in_TM hown hK hP 0 rfl rfl 1 (by decide) (hG _ k_163) (fun _ h9 => h9) rfl d_TM_list_59 ?_
            refine lv_aload_n hx hb d_TM_list_62 rfl (lv_at hl 1 rfl) ?_
            refine va_get (D := D) (ci := 2) (v := .ref (f 8)) (C := rn_TM) (T := fl_TM) (N := 8) hx hb hG in_TM hown hK hP 0 rfl rfl 4 (by decide) (hG _ k_166) (fun _ h9 => h9) rfl d_TM_list_63 ?_
            refine lv_iload hx hb d_TM_list_66 (lv_at hl 3 rfl) ?_
            refine va_iald hx hb hK hP 4 0 rfl rfl (vp_in_nI (n := i) (N := 1024) (by omega) (by omega)) d_TM_list_68 ?_
            obtain ⟨j_32, hj_32, ej_32⟩ := hod_28 ((nI i).toNatClampNeg)
            refine W.eq (g2 := F0 m 69 ls [.int (nI j_32), .ref (f 6), .ref (f 4)]) (by rw [ej_32]) ?_
            refine va_lald hx hb hK hP 2 1 rfl rfl (vp_in_nI (n := j_32) (N := 1024) (by omega) (by omega)) d_TM_list_69 ?_
            refine lv_topl (fun w_33 ew_33 => ?_)
            have hw_33 : wfw 1024 w_33 := by rw [ew_33]; exact hri_25 _
            refine lv_iload_n hx hb d_TM_list_70 rfl (lv_at hl 0 rfl) ?_
            refine em_call (wr := []) (em_runV (As := [.long w_33, .int (nI n_31)]) (rest := []) ⟨hx, hb, hml, hown, hG⟩ (tm_listSide l D cI cL cZ cC f fs_12 tb_13 le_14 ri_15 wo_16 fr_17 od_18 ha_19 w_33 n_31 _ (by omega) htb_23 hle_24 hri_25 hwo_26 hfr_27 hod_28 hha_29 hw_33 (by omega) hnt) (cwV 2 hG (gd_V k_758 k_760 k_12 k_109 k_761) rfl rfl rfl (by decide +kernel) ⟨Nat.le_of_ble_eq_true rfl, Nat.le_of_ble_eq_true rfl⟩) (tw_V (q0 := 0) hP hD hK hE hst hS rfl rfl [0, 1, 2, 3, 4, 5, 6] rfl (by decide)) rfl rfl hl.1 rfl (lv_room (Nat.le_of_ble_eq_true rfl)) d_TM_list_71 ⟨Nat.le_of_ble_eq_true rfl, Nat.le_of_ble_eq_true rfl⟩) hP hD hS hA [0, 1, 2, 3, 4, 5, 6] [] rfl rfl (by decide) (by decide) (fun v u H locs hok hP hD hS => ?_) (fun x C u H locs hbad hxx hP hD hS => ?_)
            · skip
              obtain ⟨fs_34, tb_35, le_36, ri_37, wo_38, fr_39, od_40, ha_41⟩ := u
              obtain ⟨r_42, rfl, hp_43⟩ := hok
              obtain ⟨hfs_44, htb_45, hle_46, hri_47, hwo_48, hfr_49, hod_50, hha_51, hres_52⟩ : fs_34 ≤ 1024 ∧ (tb_35 = 0 ∨ tb_35 = 1) ∧ wfa 1024 le_36 ∧ wfa 1024 ri_37 ∧ wfa 1024 wo_38 ∧ rng 1024 fr_39 ∧ rng 1024 od_40 ∧ bln ha_41 ∧ (∃ j : Nat, j ≤ 1024 ∧ r_42 = nI j) := hp_43
              obtain ⟨n_53, hn_53, rfl⟩ := hres_52
              have hP : va_P D classes [((f 4), .inr (2, [.ref (f 5), .ref (f 6), .ref (f 7), .int (nI fs_34), .ref (f 8), .ref (f 9), .ref (f 10), .int tb_35])), ((f 5), .inl (cL, 1024, .inr (.inl le_36))), ((f 6), .inl (cL, 1024, .inr (.inl ri_37))), ((f 7), .inl (cI, 1024, .inl fr_39)), ((f 8), .inl (cI, 1024, .inl od_40)), ((f 9), .inl (cZ, 1024, .inl ha_41)), ((f 10), .inl (cL, 1024, .inr (.inl wo_38)))] H := hP
              have hD : va_D A [((f 4), .inr (2, [.ref (f 5), .ref (f 6), .ref (f 7), .int (nI fs_34), .ref (f 8), .ref (f 9), .ref (f 10), .int tb_35])), ((f 5), .inl (cL, 1024, .inr (.inl le_36))), ((f 6), .inl (cL, 1024, .inr (.inl ri_37))), ((f 7), .inl (cI, 1024, .inl fr_39)), ((f 8), .inl (cI, 1024, .inl od_40)), ((f 9), .inl (cZ, 1024, .inl ha_41)), ((f 10), .inl (cL, 1024, .inr (.inl wo_38)))] := hD
              refine W.eq (g2 := F0 m 74 ls [.int (nI n_53)]) rfl ?_
              refine lv_istore_n (lv' := [(3, .int (nI n_53)), (0, .ref (f 4)), (1, .long a), (4, .int (nI i))]) hx hb d_TM_list_74 rfl hl (Nat.le_of_ble_eq_true rfl) rfl (fun ls hl => ?_)
              refine lv_iinc (k := 3) (v := nI (i + 1)) (lv' := [(4, .int (nI (i + 1))), (3, .int (nI n_53)), (0, .ref (f 4)), (1, .long a)]) hx hb d_TM_list_75 hl rfl (lw_inc i 1) (Nat.le_of_ble_eq_true rfl) rfl (fun ls hl => ?_)
              refine lv_goto (tgt := 25) hx hb d_TM_list_78 (by decide) ?_
              have hl := lv_sub (l' := [(0, .ref (f 4)), (1, .long a), (3, .int (nI n_53)), (4, .int (nI (i + 1)))]) hl [2, 3, 1, 0] rfl
              exact ih_3 (i + 1) n_53 od_40 fs_34 tb_35 le_36 ri_37 wo_38 fr_39 ha_41 _ _ _ (by omega) (by omega) (by omega) hod_50 (by omega) htb_45 hle_46 hri_47 hwo_48 hfr_49 hha_51 hl hP hD hS
            · skip
              exact hbad.elim
          · skip
            exact hbad.elim
  refine lv_iconst (v := 0) hx hb d_TM_list_0 (by decide) ?_
  refine lv_istore_n (lv' := [(3, .int 0), (0, .ref (f 4)), (1, .long a)]) hx hb d_TM_list_1 rfl hl (Nat.le_of_ble_eq_true rfl) rfl (fun ls hl => ?_)
  refine lv_lload_n hx hb d_TM_list_2 rfl (lv_at hl 2 rfl) ?_
  refine W.callR (W.runS (As := [.long a]) (rest := []) ⟨hx, hb, hml, hown, hG⟩ (wd_isCell l D cI cL cZ cC a ) (va_cwS 1 hG (gd_T k_752 k_753 k_127 k_754) rfl rfl rfl (by decide +kernel) ⟨Nat.le_of_ble_eq_true rfl, Nat.le_of_ble_eq_true rfl⟩) (wq_S hP hK [] rfl) rfl rfl hl.1 rfl (lv_room (Nat.le_of_ble_eq_true rfl)) d_TM_list_3 ⟨Nat.le_of_ble_eq_true rfl, Nat.le_of_ble_eq_true rfl⟩) ?_
  refine W.eq (g2 := F0 m 6 ls [.int (wcell a)]) rfl ?_
  refine lv_if_eq (tgt := 22) hx hb d_TM_list_6 (by decide) (fun hb_54 => ?_) (fun hb_54 => ?_)
  · skip
    refine lv_iconst (v := 0) hx hb d_TM_list_22 (by decide) ?_
    refine lv_istore (lv' := [(4, .int 0), (3, .int 0), (0, .ref (f 4)), (1, .long a)]) hx hb d_TM_list_23 hl (Nat.le_of_ble_eq_true rfl) rfl (fun ls hl => ?_)
    have hl := lv_sub (l' := [(0, .ref (f 4)), (1, .long a), (3, .int 0), (4, .int 0)]) hl [2, 3, 1, 0] rfl
    exact loop_2 _ 0 0 od fs tb le ri wo fr ha _ _ _ (Nat.lt_succ_self _) (by omega) (by omega) hod (by omega) htb hle hri hwo hfr hha hl hP hD hS
  · skip
    obtain ⟨j_55, hj_55, ej_55⟩ := wcell_t hwa hb_54
    refine lv_aload_n hx hb d_TM_list_9 rfl (lv_at hl 1 rfl) ?_
    refine va_get (D := D) (ci := 2) (v := .ref (f 8)) (C := rn_TM) (T := fl_TM) (N := 8) hx hb hG in_TM hown hK hP 0 rfl rfl 4 (by decide) (hG _ k_166) (fun _ h9 => h9) rfl d_TM_list_10 ?_
    refine lv_iload_n hx hb d_TM_list_13 rfl (lv_at hl 0 rfl) ?_
    refine lv_lload_n hx hb d_TM_list_14 rfl (lv_at hl 2 rfl) ?_
    refine W.callR (W.runS (As := [.long a]) (rest := [.int 0, .ref (f 8)]) ⟨hx, hb, hml, hown, hG⟩ (wd_number l D cI cL cZ cC a ) (va_cwS 1 hG (gd_T k_755 k_756 k_127 k_757) rfl rfl rfl (by decide +kernel) ⟨Nat.le_of_ble_eq_true rfl, Nat.le_of_ble_eq_true rfl⟩) (wq_S hP hK [] rfl) rfl rfl hl.1 rfl (lv_room (Nat.le_of_ble_eq_true rfl)) d_TM_list_15 ⟨Nat.le_of_ble_eq_true rfl, Nat.le_of_ble_eq_true rfl⟩) ?_
    refine W.eq (g2 := F0 m 18 ls [.int a.toInt32, .int 0, .ref (f 8)]) rfl ?_
    refine W.eq (g2 := F0 m 18 ls [.int (nI j_55), .int 0, .ref (f 8)]) (by rw [ej_55]) ?_
    refine va_iast hx hb hK hP hD hS 4 0 rfl rfl (vp_in_nI (n := 0) (N := 1024) (by omega) (by omega)) d_TM_list_18 (fun H locs hP hD hS => ?_)
    have hP : va_P D classes [((f 4), .inr (2, [.ref (f 5), .ref (f 6), .ref (f 7), .int (nI fs), .ref (f 8), .ref (f 9), .ref (f 10), .int tb])), ((f 5), .inl (cL, 1024, .inr (.inl le))), ((f 6), .inl (cL, 1024, .inr (.inl ri))), ((f 7), .inl (cI, 1024, .inl fr)), ((f 8), .inl (cI, 1024, .inl (upd od (0 : Int32).toNatClampNeg (nI j_55)))), ((f 9), .inl (cZ, 1024, .inl ha)), ((f 10), .inl (cL, 1024, .inr (.inl wo)))] H := hP
    have hD : va_D A [((f 4), .inr (2, [.ref (f 5), .ref (f 6), .ref (f 7), .int (nI fs), .ref (f 8), .ref (f 9), .ref (f 10), .int tb])), ((f 5), .inl (cL, 1024, .inr (.inl le))), ((f 6), .inl (cL, 1024, .inr (.inl ri))), ((f 7), .inl (cI, 1024, .inl fr)), ((f 8), .inl (cI, 1024, .inl (upd od (0 : Int32).toNatClampNeg (nI j_55)))), ((f 9), .inl (cZ, 1024, .inl ha)), ((f 10), .inl (cL, 1024, .inr (.inl wo)))] := hD
    obtain ⟨g_56, eg_56⟩ : ∃ z, z = upd od (0 : Int32).toNatClampNeg (nI j_55) := ⟨_, rfl⟩
    rw [← eg_56] at hP hD
    have hg_56 : rng 1024 g_56 := by rw [eg_56]; exact rng_up hod (by omega)
    refine lv_iinc (k := 0) (v := nI (0 + 1)) (lv' := [(3, .int (nI (0 + 1))), (0, .ref (f 4)), (1, .long a)]) hx hb d_TM_list_19 hl rfl (lw_inc 0 1) (Nat.le_of_ble_eq_true rfl) rfl (fun ls hl => ?_)
    refine lv_iconst (v := 0) hx hb d_TM_list_22 (by decide) ?_
    refine lv_istore (lv' := [(4, .int 0), (3, .int (nI (0 + 1))), (0, .ref (f 4)), (1, .long a)]) hx hb d_TM_list_23 hl (Nat.le_of_ble_eq_true rfl) rfl (fun ls hl => ?_)
    have hl := lv_sub (l' := [(0, .ref (f 4)), (1, .long a), (3, .int (nI (0 + 1))), (4, .int 0)]) hl [2, 3, 1, 0] rfl
    exact loop_2 _ 0 (0 + 1) g_56 fs tb le ri wo fr ha _ _ _ (Nat.lt_succ_self _) (by omega) (by omega) hg_56 (by omega) htb hle hri hwo hfr hha hl hP hD hS
