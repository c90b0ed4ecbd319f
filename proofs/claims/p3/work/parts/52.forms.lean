theorem up_dn (k : Nat) : nI k - 1 + 1 = nI k := by
  rw [Int32.sub_add_cancel]

set_option maxHeartbeats 8000000 in
set_option maxRecDepth 100000 in
theorem fm_of (l : Launch) (D : va_G) (cI cL cZ cC : ClassId) (f : Nat → Nat) (an : Nat → Int32) (k : Nat) (w : Nat) (sz : Nat) (hk : k ≤ 8) (hw : w < 3) (hnt : l.stackTraces = false) : em_Met l y_FM_of (wz y_FM_of b_FM_of 3 (some .int)) ({ frames := 0, cells := 0, slots := 0, locals := 0 }) (va_Pc [.ref (f 16), .int (nI k - 1), .int (nI w)] (tw_pre D (tys4 cI cL cZ cC) [((f 16), .inr (4, [.ref (f 17)])), ((f 17), .inl (cI, 27, .inl an))] sz)) D (tys4 cI cL cZ cC) (va_A [((f 16), .inr (4, [.ref (f 17)])), ((f 17), .inl (cI, 27, .inl an))] sz) (fun (_ : Unit) => [((f 16), .inr (4, [.ref (f 17)])), ((f 17), .inl (cI, 27, .inl an))]) (fun v (_ : Unit) => ∃ r : Int32, v = some (.int r) ∧ (True)) (fun C (_ : Unit) => False) 0 0 := by
  refine em_Met.ofW (cc := b_FM_of) (maxL := 3) (ret := (some .int)) (by decide) rfl ?_
  intro p e s m args below meth c s₁ B hml hv hno
  obtain ⟨rfl, ⟨hsz, hP, hK, hD0⟩, hE⟩ := hv
  have hx := B.exec
  have hb := B.bytes
  have hr := B.returns
  have hts := atoms_spec (ws := wz y_FM_of b_FM_of 3 (some .int)) B.pre
  have hG := wz_G hts
  have hown : s.vm.findClass rn_FM = some m.cls := findClass_of_methodNamed B.named
  have hlocks := B.notSynchronized
  subst hsz
  have hD := hD0.self (sz := s.heap.size)
  have hst := tw_st hP
  generalize hAe : va_A [((f 16), .inr (4, [.ref (f 17)])), ((f 17), .inl (cI, 27, .inl an))] s.heap.size = A at hD hst ⊢
  have hA : ∀ q : Nat, s.heap.size ≤ q → A q := fun q h => by rw [← hAe]; exact Or.inr h
  have hS : va_S A s.heap s.heap [] := va_S.rf
  have hl := lv_entry ([.ref (f 16), .int (nI k - 1), .int (nI w)]) (n := 3) (Nat.le_of_ble_eq_true rfl)
  rw [lg_entry_eq]
  generalize (lg_sl ([.ref (f 16), .int (nI k - 1), .int (nI w)]) ++ List.replicate (3 - (lg_sl ([.ref (f 16), .int (nI k - 1), .int (nI w)])).length) Slot.unset).toArray = ls at hl ⊢
  have hl : lv_has ls 3 [(0, .ref (f 16)), (1, .int (nI k - 1)), (2, .int (nI w))] := hl
  refine lv_aload_n hx hb d_FM_of_0 rfl (lv_at hl 0 rfl) ?_
  refine va_get (D := D) (ci := 4) (v := .ref (f 17)) (C := rn_FM) (T := fl_FM) (N := 1) hx hb hG in_FM hown hK hP 0 rfl rfl 0 (by decide) (hG _ k_238) (fun _ h9 => h9) rfl d_FM_of_1 ?_
  refine lv_iload_n hx hb d_FM_of_4 rfl (lv_at hl 1 rfl) ?_
  refine lv_iconst (v := 1) hx hb d_FM_of_5 (by decide) ?_
  refine lv_iadd hx hb d_FM_of_6 ?_
  refine W.eq (g2 := F0 m 7 ls [.int (nI k), .ref (f 17)]) (by rw [up_dn]) ?_
  refine lv_iconst (v := 3) hx hb d_FM_of_7 (by decide) ?_
  refine lw_imul (a := k) (b := 3) hx hb d_FM_of_8 ?_
  refine lv_iload_n hx hb d_FM_of_9 rfl (lv_at hl 2 rfl) ?_
  refine lw_iadd (a := k * 3) (b := w) hx hb d_FM_of_10 ?_
  refine va_iald hx hb hK hP 1 0 rfl rfl (vp_in_nI (n := (k * 3) + w) (N := 27) (by omega) (by omega)) d_FM_of_11 ?_
  refine lv_topi (fun v_1 ev_1 => ?_)
  exact em_iret hx hb hr hlocks hP hD hK hS () [0, 1] (by decide) rfl ⟨_, rfl, trivial⟩ d_FM_of_12
set_option maxHeartbeats 8000000 in
set_option maxRecDepth 100000 in
theorem fm_note (l : Launch) (D : va_G) (cI cL cZ cC : ClassId) (f : Nat → Nat) (fs : Nat) (tb : Int32) (le : Nat → Int64) (ri : Nat → Int64) (wo : Nat → Int64) (fr : Nat → Int32) (od : Nat → Int32) (ha : Nat → Int32) (an : Nat → Int32) (k : Nat) (a : Int64) (sz : Nat) (hfs : fs ≤ 1024) (htb : (tb = 0 ∨ tb = 1)) (hle : wfa 1024 le) (hri : wfa 1024 ri) (hwo : wfa 1024 wo) (hfr : rng 1024 fr) (hod : rng 1024 od) (hha : bln ha) (hk : k ≤ 8) (hwa : wfw 1024 a) (hnt : l.stackTraces = false) : em_Met l y_FM_note (wz y_FM_note b_FM_note 10 none) ({ frames := 3, cells := 0, slots := 0, locals := 68 }) (va_Pc [.ref (f 16), .int (nI k - 1), .ref (f 4), .long a] (tw_pre D (tys4 cI cL cZ cC) [((f 4), .inr (2, [.ref (f 5), .ref (f 6), .ref (f 7), .int (nI fs), .ref (f 8), .ref (f 9), .ref (f 10), .int tb])), ((f 5), .inl (cL, 1024, .inr (.inl le))), ((f 6), .inl (cL, 1024, .inr (.inl ri))), ((f 10), .inl (cL, 1024, .inr (.inl wo))), ((f 7), .inl (cI, 1024, .inl fr)), ((f 8), .inl (cI, 1024, .inl od)), ((f 9), .inl (cZ, 1024, .inl ha)), ((f 16), .inr (4, [.ref (f 17)])), ((f 17), .inl (cI, 27, .inl an))] sz)) D (tys4 cI cL cZ cC) (va_A [((f 4), .inr (2, [.ref (f 5), .ref (f 6), .ref (f 7), .int (nI fs), .ref (f 8), .ref (f 9), .ref (f 10), .int tb])), ((f 5), .inl (cL, 1024, .inr (.inl le))), ((f 6), .inl (cL, 1024, .inr (.inl ri))), ((f 10), .inl (cL, 1024, .inr (.inl wo))), ((f 7), .inl (cI, 1024, .inl fr)), ((f 8), .inl (cI, 1024, .inl od)), ((f 9), .inl (cZ, 1024, .inl ha)), ((f 16), .inr (4, [.ref (f 17)])), ((f 17), .inl (cI, 27, .inl an))] sz) (fun (u : Nat × Int32 × (Nat → Int64) × (Nat → Int64) × (Nat → Int64) × (Nat → Int32) × (Nat → Int32) × (Nat → Int32) × (Nat → Int32)) => [((f 4), .inr (2, [.ref (f 5), .ref (f 6), .ref (f 7), .int (nI u.1), .ref (f 8), .ref (f 9), .ref (f 10), .int u.2.1])), ((f 5), .inl (cL, 1024, .inr (.inl u.2.2.1))), ((f 6), .inl (cL, 1024, .inr (.inl u.2.2.2.1))), ((f 10), .inl (cL, 1024, .inr (.inl u.2.2.2.2.1))), ((f 7), .inl (cI, 1024, .inl u.2.2.2.2.2.1)), ((f 8), .inl (cI, 1024, .inl u.2.2.2.2.2.2.1)), ((f 9), .inl (cZ, 1024, .inl u.2.2.2.2.2.2.2.1)), ((f 16), .inr (4, [.ref (f 17)])), ((f 17), .inl (cI, 27, .inl u.2.2.2.2.2.2.2.2))]) (fun v (u : Nat × Int32 × (Nat → Int64) × (Nat → Int64) × (Nat → Int64) × (Nat → Int32) × (Nat → Int32) × (Nat → Int32) × (Nat → Int32)) => v = none ∧ (u.1 ≤ 1024 ∧ (u.2.1 = 0 ∨ u.2.1 = 1) ∧ wfa 1024 u.2.2.1 ∧ wfa 1024 u.2.2.2.1 ∧ wfa 1024 u.2.2.2.2.1 ∧ rng 1024 u.2.2.2.2.2.1 ∧ rng 1024 u.2.2.2.2.2.2.1 ∧ bln u.2.2.2.2.2.2.2.1)) (fun C (u : Nat × Int32 × (Nat → Int64) × (Nat → Int64) × (Nat → Int64) × (Nat → Int32) × (Nat → Int32) × (Nat → Int32) × (Nat → Int32)) => False) 0 0 := by
  refine em_Met.ofW (cc := b_FM_note) (maxL := 10) (ret := none) (by decide) rfl ?_
  intro p e s m args below meth c s₁ B hml hv hno
  obtain ⟨rfl, ⟨hsz, hP, hK, hD0⟩, hE⟩ := hv
  have hx := B.exec
  have hb := B.bytes
  have hr := B.returns
  have hts := atoms_spec (ws := wz y_FM_note b_FM_note 10 none) B.pre
  have hG := wz_G hts
  have hown : s.vm.findClass rn_FM = some m.cls := findClass_of_methodNamed B.named
  have hlocks := B.notSynchronized
  subst hsz
  have hD := hD0.self (sz := s.heap.size)
  have hst := tw_st hP
  generalize hAe : va_A [((f 4), .inr (2, [.ref (f 5), .ref (f 6), .ref (f 7), .int (nI fs), .ref (f 8), .ref (f 9), .ref (f 10), .int tb])), ((f 5), .inl (cL, 1024, .inr (.inl le))), ((f 6), .inl (cL, 1024, .inr (.inl ri))), ((f 10), .inl (cL, 1024, .inr (.inl wo))), ((f 7), .inl (cI, 1024, .inl fr)), ((f 8), .inl (cI, 1024, .inl od)), ((f 9), .inl (cZ, 1024, .inl ha)), ((f 16), .inr (4, [.ref (f 17)])), ((f 17), .inl (cI, 27, .inl an))] s.heap.size = A at hD hst ⊢
  have hA : ∀ q : Nat, s.heap.size ≤ q → A q := fun q h => by rw [← hAe]; exact Or.inr h
  have hS : va_S A s.heap s.heap [] := va_S.rf
  have hl := lv_entry ([.ref (f 16), .int (nI k - 1), .ref (f 4), .long a]) (n := 10) (Nat.le_of_ble_eq_true rfl)
  rw [lg_entry_eq]
  generalize (lg_sl ([.ref (f 16), .int (nI k - 1), .ref (f 4), .long a]) ++ List.replicate (10 - (lg_sl ([.ref (f 16), .int (nI k - 1), .ref (f 4), .long a])).length) Slot.unset).toArray = ls at hl ⊢
  have hl : lv_has ls 10 [(0, .ref (f 16)), (1, .int (nI k - 1)), (2, .ref (f 4)), (3, .long a)] := hl
  have loop_2 : ∀ (k_1 : Nat) (i : Nat) (x1 : Int64) (j : Nat) (fs1 : Nat) (tb1 : Int32) (le1 : Nat → Int64) (ri1 : Nat → Int64) (wo1 : Nat → Int64) (fr1 : Nat → Int32) (od1 : Nat → Int32) (ha1 : Nat → Int32) (an1 : Nat → Int32) (H : Heap) (locs : List Loc) (ls : Array Slot), j - i < k_1 → (j ≤ 1024) → (i ≤ j) → (wfw 1024 x1) → (fs1 ≤ 1024) → ((tb1 = 0 ∨ tb1 = 1)) → (wfa 1024 le1) → (wfa 1024 ri1) → (wfa 1024 wo1) → (rng 1024 fr1) → (rng 1024 od1) → (bln ha1) → lv_has ls 10 [(0, .ref (f 16)), (2, .ref (f 4)), (5, .int (nI (k * 3))), (6, .int (nI j)), (7, .int (nI i)), (8, .long x1)] → va_P D classes [((f 4), .inr (2, [.ref (f 5), .ref (f 6), .ref (f 7), .int (nI fs1), .ref (f 8), .ref (f 9), .ref (f 10), .int tb1])), ((f 5), .inl (cL, 1024, .inr (.inl le1))), ((f 6), .inl (cL, 1024, .inr (.inl ri1))), ((f 10), .inl (cL, 1024, .inr (.inl wo1))), ((f 7), .inl (cI, 1024, .inl fr1)), ((f 8), .inl (cI, 1024, .inl od1)), ((f 9), .inl (cZ, 1024, .inl ha1)), ((f 16), .inr (4, [.ref (f 17)])), ((f 17), .inl (cI, 27, .inl an1))] H → va_D A [((f 4), .inr (2, [.ref (f 5), .ref (f 6), .ref (f 7), .int (nI fs1), .ref (f 8), .ref (f 9), .ref (f 10), .int tb1])), ((f 5), .inl (cL, 1024, .inr (.inl le1))), ((f 6), .inl (cL, 1024, .inr (.inl ri1))), ((f 10), .inl (cL, 1024, .inr (.inl wo1))), ((f 7), .inl (cI, 1024, .inl fr1)), ((f 8), .inl (cI, 1024, .inl od1)), ((f 9), .inl (cZ, 1024, .inl ha1)), ((f 16), .inr (4, [.ref (f 17)])), ((f 17), .inl (cI, 27, .inl an1))] → va_S A s.heap H locs → W p l e (headSpec (wz y_FM_note b_FM_note 10 none) ({ frames := 3, cells := 0, slots := 0, locals := 68 })).room s m ([.ref (f 16), .int (nI k - 1), .ref (f 4), .long a] : List Value).toArray below meth c H locs 0 0 (em_MQ below D (tys4 cI cL cZ cC) A (fun (u : Nat × Int32 × (Nat → Int64) × (Nat → Int64) × (Nat → Int64) × (Nat → Int32) × (Nat → Int32) × (Nat → Int32) × (Nat → Int32)) => [((f 4), .inr (2, [.ref (f 5), .ref (f 6), .ref (f 7), .int (nI u.1), .ref (f 8), .ref (f 9), .ref (f 10), .int u.2.1])), ((f 5), .inl (cL, 1024, .inr (.inl u.2.2.1))), ((f 6), .inl (cL, 1024, .inr (.inl u.2.2.2.1))), ((f 10), .inl (cL, 1024, .inr (.inl u.2.2.2.2.1))), ((f 7), .inl (cI, 1024, .inl u.2.2.2.2.2.1)), ((f 8), .inl (cI, 1024, .inl u.2.2.2.2.2.2.1)), ((f 9), .inl (cZ, 1024, .inl u.2.2.2.2.2.2.2.1)), ((f 16), .inr (4, [.ref (f 17)])), ((f 17), .inl (cI, 27, .inl u.2.2.2.2.2.2.2.2))]) (fun v (u : Nat × Int32 × (Nat → Int64) × (Nat → Int64) × (Nat → Int64) × (Nat → Int32) × (Nat → Int32) × (Nat → Int32) × (Nat → Int32)) => v = none ∧ (u.1 ≤ 1024 ∧ (u.2.1 = 0 ∨ u.2.1 = 1) ∧ wfa 1024 u.2.2.1 ∧ wfa 1024 u.2.2.2.1 ∧ wfa 1024 u.2.2.2.2.1 ∧ rng 1024 u.2.2.2.2.2.1 ∧ rng 1024 u.2.2.2.2.2.2.1 ∧ bln u.2.2.2.2.2.2.2.1)) (fun C (u : Nat × Int32 × (Nat → Int64) × (Nat → Int64) × (Nat → Int64) × (Nat → Int32) × (Nat → Int32) × (Nat → Int32) × (Nat → Int32)) => False) s 0 0) (F0 m 20 ls []) := by
    intro k_1
    induction k_1 with
    | zero => intro i x1 j fs1 tb1 le1 ri1 wo1 fr1 od1 ha1 an1 H locs ls hm; exact absurd hm (Nat.not_lt_zero _)
    | succ k_1 ih_3 =>
      intro i x1 j fs1 tb1 le1 ri1 wo1 fr1 od1 ha1 an1 H locs ls hm hj hi hx1 hfs1 htb1 hle1 hri1 hwo1 hfr1 hod1 hha1 hl hP hD hS
      refine lv_iload hx hb d_FM_note_20 (lv_at hl 4 rfl) ?_
      refine lv_iload hx hb d_FM_note_22 (lv_at hl 3 rfl) ?_
      refine lv_icmp_ge (tgt := 52) hx hb d_FM_note_24 (by decide) (fun hb_4 => ?_) (fun hb_4 => ?_)
      · skip
        have hn_5 : j ≤ i := (nI_leI (a := j) (b := i) (by omega) (by omega)).mp hb_4
        refine lv_aload_n hx hb d_FM_note_52 rfl (lv_at hl 0 rfl) ?_
        refine va_get (D := D) (ci := 4) (v := .ref (f 17)) (C := rn_FM) (T := fl_FM) (N := 1) hx hb hG in_FM hown hK hP 7 rfl rfl 0 (by decide) (hG _ k_238) (fun _ h9 => h9) rfl d_FM_note_53 ?_
        refine lv_iload hx hb d_FM_note_56 (lv_at hl 2 rfl) ?_
        refine lv_iload hx hb d_FM_note_58 (lv_at hl 3 rfl) ?_
        refine va_iast hx hb hK hP hD hS 8 0 rfl rfl (vp_in_nI (n := k * 3) (N := 27) (by omega) (by omega)) d_FM_note_60 (fun H locs hP hD hS => ?_)
        have hP : va_P D classes [((f 4), .inr (2, [.ref (f 5), .ref (f 6), .ref (f 7), .int (nI fs1), .ref (f 8), .ref (f 9), .ref (f 10), .int tb1])), ((f 5), .inl (cL, 1024, .inr (.inl le1))), ((f 6), .inl (cL, 1024, .inr (.inl ri1))), ((f 10), .inl (cL, 1024, .inr (.inl wo1))), ((f 7), .inl (cI, 1024, .inl fr1)), ((f 8), .inl (cI, 1024, .inl od1)), ((f 9), .inl (cZ, 1024, .inl ha1)), ((f 16), .inr (4, [.ref (f 17)])), ((f 17), .inl (cI, 27, .inl (upd an1 (nI (k * 3)).toNatClampNeg (nI j))))] H := hP
        have hD : va_D A [((f 4), .inr (2, [.ref (f 5), .ref (f 6), .ref (f 7), .int (nI fs1), .ref (f 8), .ref (f 9), .ref (f 10), .int tb1])), ((f 5), .inl (cL, 1024, .inr (.inl le1))), ((f 6), .inl (cL, 1024, .inr (.inl ri1))), ((f 10), .inl (cL, 1024, .inr (.inl wo1))), ((f 7), .inl (cI, 1024, .inl fr1)), ((f 8), .inl (cI, 1024, .inl od1)), ((f 9), .inl (cZ, 1024, .inl ha1)), ((f 16), .inr (4, [.ref (f 17)])), ((f 17), .inl (cI, 27, .inl (upd an1 (nI (k * 3)).toNatClampNeg (nI j))))] := hD
        obtain ⟨g_6, eg_6⟩ : ∃ z, z = upd an1 (nI (k * 3)).toNatClampNeg (nI j) := ⟨_, rfl⟩
        rw [← eg_6] at hP hD
        refine lv_aload_n hx hb d_FM_note_61 rfl (lv_at hl 0 rfl) ?_
        refine va_get (D := D) (ci := 4) (v := .ref (f 17)) (C := rn_FM) (T := fl_FM) (N := 1) hx hb hG in_FM hown hK hP 7 rfl rfl 0 (by decide) (hG _ k_238) (fun _ h9 => h9) rfl d_FM_note_62 ?_
        refine lv_iload hx hb d_FM_note_65 (lv_at hl 2 rfl) ?_
        refine lv_iconst (v := 1) hx hb d_FM_note_67 (by decide) ?_
        refine lw_iadd (a := k * 3) (b := 1) hx hb d_FM_note_68 ?_
        refine lv_iload hx hb d_FM_note_69 (lv_at hl 4 rfl) ?_
        refine va_iast hx hb hK hP hD hS 8 0 rfl rfl (vp_in_nI (n := (k * 3) + 1) (N := 27) (by omega) (by omega)) d_FM_note_71 (fun H locs hP hD hS => ?_)
        have hP : va_P D classes [((f 4), .inr (2, [.ref (f 5), .ref (f 6), .ref (f 7), .int (nI fs1), .ref (f 8), .ref (f 9), .ref (f 10), .int tb1])), ((f 5), .inl (cL, 1024, .inr (.inl le1))), ((f 6), .inl (cL, 1024, .inr (.inl ri1))), ((f 10), .inl (cL, 1024, .inr (.inl wo1))), ((f 7), .inl (cI, 1024, .inl fr1)), ((f 8), .inl (cI, 1024, .inl od1)), ((f 9), .inl (cZ, 1024, .inl ha1)), ((f 16), .inr (4, [.ref (f 17)])), ((f 17), .inl (cI, 27, .inl (upd g_6 (nI ((k * 3) + 1)).toNatClampNeg (nI i))))] H := hP
        have hD : va_D A [((f 4), .inr (2, [.ref (f 5), .ref (f 6), .ref (f 7), .int (nI fs1), .ref (f 8), .ref (f 9), .ref (f 10), .int tb1])), ((f 5), .inl (cL, 1024, .inr (.inl le1))), ((f 6), .inl (cL, 1024, .inr (.inl ri1))), ((f 10), .inl (cL, 1024, .inr (.inl wo1))), ((f 7), .inl (cI, 1024, .inl fr1)), ((f 8), .inl (cI, 1024, .inl od1)), ((f 9), .inl (cZ, 1024, .inl ha1)), ((f 16), .inr (4, [.ref (f 17)])), ((f 17), .inl (cI, 27, .inl (upd g_6 (nI ((k * 3) + 1)).toNatClampNeg (nI i))))] := hD
        obtain ⟨g_7, eg_7⟩ : ∃ z, z = upd g_6 (nI ((k * 3) + 1)).toNatClampNeg (nI i) := ⟨_, rfl⟩
        rw [← eg_7] at hP hD
        refine lv_aload_n hx hb d_FM_note_72 rfl (lv_at hl 0 rfl) ?_
        refine va_get (D := D) (ci := 4) (v := .ref (f 17)) (C := rn_FM) (T := fl_FM) (N := 1) hx hb hG in_FM hown hK hP 7 rfl rfl 0 (by decide) (hG _ k_238) (fun _ h9 => h9) rfl d_FM_note_73 ?_
        refine lv_iload hx hb d_FM_note_76 (lv_at hl 2 rfl) ?_
        refine lv_iconst (v := 2) hx hb d_FM_note_78 (by decide) ?_
        refine lw_iadd (a := k * 3) (b := 2) hx hb d_FM_note_79 ?_
        refine lv_lload hx hb d_FM_note_80 (lv_at hl 5 rfl) ?_
        refine W.callR (W.runS (As := [.long x1]) (rest := [.int (nI ((k * 3) + 2)), .ref (f 17)]) ⟨hx, hb, hml, hown, hG⟩ (wd_kind l D cI cL cZ cC x1 ) (va_cwS 1 hG (gd_T k_921 k_922 k_127 k_923) rfl rfl rfl (by decide +kernel) ⟨Nat.le_of_ble_eq_true rfl, Nat.le_of_ble_eq_true rfl⟩) (wq_S hP hK [] rfl) rfl rfl hl.1 rfl (lv_room (Nat.le_of_ble_eq_true rfl)) d_FM_note_82 ⟨Nat.le_of_ble_eq_true rfl, Nat.le_of_ble_eq_true rfl⟩) ?_
        refine W.eq (g2 := F0 m 85 ls [.int (wkind x1), .int (nI ((k * 3) + 2)), .ref (f 17)]) rfl ?_
        refine va_iast hx hb hK hP hD hS 8 0 rfl rfl (vp_in_nI (n := (k * 3) + 2) (N := 27) (by omega) (by omega)) d_FM_note_85 (fun H locs hP hD hS => ?_)
        have hP : va_P D classes [((f 4), .inr (2, [.ref (f 5), .ref (f 6), .ref (f 7), .int (nI fs1), .ref (f 8), .ref (f 9), .ref (f 10), .int tb1])), ((f 5), .inl (cL, 1024, .inr (.inl le1))), ((f 6), .inl (cL, 1024, .inr (.inl ri1))), ((f 10), .inl (cL, 1024, .inr (.inl wo1))), ((f 7), .inl (cI, 1024, .inl fr1)), ((f 8), .inl (cI, 1024, .inl od1)), ((f 9), .inl (cZ, 1024, .inl ha1)), ((f 16), .inr (4, [.ref (f 17)])), ((f 17), .inl (cI, 27, .inl (upd g_7 (nI ((k * 3) + 2)).toNatClampNeg (wkind x1))))] H := hP
        have hD : va_D A [((f 4), .inr (2, [.ref (f 5), .ref (f 6), .ref (f 7), .int (nI fs1), .ref (f 8), .ref (f 9), .ref (f 10), .int tb1])), ((f 5), .inl (cL, 1024, .inr (.inl le1))), ((f 6), .inl (cL, 1024, .inr (.inl ri1))), ((f 10), .inl (cL, 1024, .inr (.inl wo1))), ((f 7), .inl (cI, 1024, .inl fr1)), ((f 8), .inl (cI, 1024, .inl od1)), ((f 9), .inl (cZ, 1024, .inl ha1)), ((f 16), .inr (4, [.ref (f 17)])), ((f 17), .inl (cI, 27, .inl (upd g_7 (nI ((k * 3) + 2)).toNatClampNeg (wkind x1))))] := hD
        obtain ⟨g_8, eg_8⟩ : ∃ z, z = upd g_7 (nI ((k * 3) + 2)).toNatClampNeg (wkind x1) := ⟨_, rfl⟩
        rw [← eg_8] at hP hD
        exact em_vret hx hb hr hlocks hP hD hK hS (fs1, tb1, le1, ri1, wo1, fr1, od1, ha1, g_8) [0, 1, 2, 3, 4, 5, 6, 7, 8] (by decide) rfl ⟨rfl, ⟨(show fs1 ≤ 1024 by omega), htb1, hle1, hri1, hwo1, hfr1, hod1, hha1⟩⟩ d_FM_note_86
      · skip
        have hn_9 : ¬ j ≤ i := fun h => hb_4 ((nI_leI (a := j) (b := i) (by omega) (by omega)).mpr h)
        refine lv_lload hx hb d_FM_note_27 (lv_at hl 5 rfl) ?_
        refine W.callR (W.runS (As := [.long x1]) (rest := []) ⟨hx, hb, hml, hown, hG⟩ (wd_isCell l D cI cL cZ cC x1 ) (va_cwS 1 hG (gd_T k_915 k_753 k_127 k_754) rfl rfl rfl (by decide +kernel) ⟨Nat.le_of_ble_eq_true rfl, Nat.le_of_ble_eq_true rfl⟩) (wq_S hP hK [] rfl) rfl rfl hl.1 rfl (lv_room (Nat.le_of_ble_eq_true rfl)) d_FM_note_29 ⟨Nat.le_of_ble_eq_true rfl, Nat.le_of_ble_eq_true rfl⟩) ?_
        refine W.eq (g2 := F0 m 32 ls [.int (wcell x1)]) rfl ?_
        refine lv_if_eq (tgt := 52) hx hb d_FM_note_32 (by decide) (fun hb_10 => ?_) (fun hb_10 => ?_)
        · skip
          refine lv_aload_n hx hb d_FM_note_52 rfl (lv_at hl 0 rfl) ?_
          refine va_get (D := D) (ci := 4) (v := .ref (f 17)) (C := rn_FM) (T := fl_FM) (N := 1) hx hb hG in_FM hown hK hP 7 rfl rfl 0 (by decide) (hG _ k_238) (fun _ h9 => h9) rfl d_FM_note_53 ?_
          refine lv_iload hx hb d_FM_note_56 (lv_at hl 2 rfl) ?_
          refine lv_iload hx hb d_FM_note_58 (lv_at hl 3 rfl) ?_
          refine va_iast hx hb hK hP hD hS 8 0 rfl rfl (vp_in_nI (n := k * 3) (N := 27) (by omega) (by omega)) d_FM_note_60 (fun H locs hP hD hS => ?_)
          have hP : va_P D classes [((f 4), .inr (2, [.ref (f 5), .ref (f 6), .ref (f 7), .int (nI fs1), .ref (f 8), .ref (f 9), .ref (f 10), .int tb1])), ((f 5), .inl (cL, 1024, .inr (.inl le1))), ((f 6), .inl (cL, 1024, .inr (.inl ri1))), ((f 10), .inl (cL, 1024, .inr (.inl wo1))), ((f 7), .inl (cI, 1024, .inl fr1)), ((f 8), .inl (cI, 1024, .inl od1)), ((f 9), .inl (cZ, 1024, .inl ha1)), ((f 16), .inr (4, [.ref (f 17)])), ((f 17), .inl (cI, 27, .inl (upd an1 (nI (k * 3)).toNatClampNeg (nI j))))] H := hP
          have hD : va_D A [((f 4), .inr (2, [.ref (f 5), .ref (f 6), .ref (f 7), .int (nI fs1), .ref (f 8), .ref (f 9), .ref (f 10), .int tb1])), ((f 5), .inl (cL, 1024, .inr (.inl le1))), ((f 6), .inl (cL, 1024, .inr (.inl ri1))), ((f 10), .inl (cL, 1024, .inr (.inl wo1))), ((f 7), .inl (cI, 1024, .inl fr1)), ((f 8), .inl (cI, 1024, .inl od1)), ((f 9), .inl (cZ, 1024, .inl ha1)), ((f 16), .inr (4, [.ref (f 17)])), ((f 17), .inl (cI, 27, .inl (upd an1 (nI (k * 3)).toNatClampNeg (nI j))))] := hD
          obtain ⟨g_11, eg_11⟩ : ∃ z, z = upd an1 (nI (k * 3)).toNatClampNeg (nI j) := ⟨_, rfl⟩
          rw [← eg_11] at hP hD
          refine lv_aload_n hx hb d_FM_note_61 rfl (lv_at hl 0 rfl) ?_
          refine va_get (D := D) (ci := 4) (v := .ref (f 17)) (C := rn_FM) (T := fl_FM) (N := 1) hx hb hG in_FM hown hK hP 7 rfl rfl 0 (by decide) (hG _ k_238) (fun _ h9 => h9) rfl d_FM_note_62 ?_
          refine lv_iload hx hb d_FM_note_65 (lv_at hl 2 rfl) ?_
          refine lv_iconst (v := 1) hx hb d_FM_note_67 (by decide) ?_
          refine lw_iadd (a := k * 3) (b := 1) hx hb d_FM_note_68 ?_
          refine lv_iload hx hb d_FM_note_69 (lv_at hl 4 rfl) ?_
          refine va_iast hx hb hK hP hD hS 8 0 rfl rfl (vp_in_nI (n := (k * 3) + 1) (N := 27) (by omega) (by omega)) d_FM_note_71 (fun H locs hP hD hS => ?_)
          have hP : va_P D classes [((f 4), .inr (2, [.ref (f 5), .ref (f 6), .ref (f 7), .int (nI fs1), .ref (f 8), .ref (f 9), .ref (f 10), .int tb1])), ((f 5), .inl (cL, 1024, .inr (.inl le1))), ((f 6), .inl (cL, 1024, .inr (.inl ri1))), ((f 10), .inl (cL, 1024, .inr (.inl wo1))), ((f 7), .inl (cI, 1024, .inl fr1)), ((f 8), .inl (cI, 1024, .inl od1)), ((f 9), .inl (cZ, 1024, .inl ha1)), ((f 16), .inr (4, [.ref (f 17)])), ((f 17), .inl (cI, 27, .inl (upd g_11 (nI ((k * 3) + 1)).toNatClampNeg (nI i))))] H := hP
          have hD : va_D A [((f 4), .inr (2, [.ref (f 5), .ref (f 6), .ref (f 7), .int (nI fs1), .ref (f 8), .ref (f 9), .ref (f 10), .int tb1])), ((f 5), .inl (cL, 1024, .inr (.inl le1))), ((f 6), .inl (cL, 1024, .inr (.inl ri1))), ((f 10), .inl (cL, 1024, .inr (.inl wo1))), ((f 7), .inl (cI, 1024, .inl fr1)), ((f 8), .inl (cI, 1024, .inl od1)), ((f 9), .inl (cZ, 1024, .inl ha1)), ((f 16), .inr (4, [.ref (f 17)])), ((f 17), .inl (cI, 27, .inl (upd g_11 (nI ((k * 3) + 1)).toNatClampNeg (nI i))))] := hD
          obtain ⟨g_12, eg_12⟩ : ∃ z, z = upd g_11 (nI ((k * 3) + 1)).toNatClampNeg (nI i) := ⟨_, rfl⟩
          rw [← eg_12] at hP hD
          refine lv_aload_n hx hb d_FM_note_72 rfl (lv_at hl 0 rfl) ?_
          refine va_get (D := D) (ci := 4) (v := .ref (f 17)) (C := rn_FM) (T := fl_FM) (N := 1) hx hb hG in_FM hown hK hP 7 rfl rfl 0 (by decide) (hG _ k_238) (fun _ h9 => h9) rfl d_FM_note_73 ?_
          refine lv_iload hx hb d_FM_note_76 (lv_at hl 2 rfl) ?_
          refine lv_iconst (v := 2) hx hb d_FM_note_78 (by decide) ?_
          refine lw_iadd (a := k * 3) (b := 2) hx hb d_FM_note_79 ?_
          refine lv_lload hx hb d_FM_note_80 (lv_at hl 5 rfl) ?_
          refine W.callR (W.runS (As := [.long x1]) (rest := [.int (nI ((k * 3) + 2)), .ref (f 17)]) ⟨hx, hb, hml, hown, hG⟩ (wd_kind l D cI cL cZ cC x1 ) (va_cwS 1 hG (gd_T k_921 k_922 k_127 k_923) rfl rfl rfl (by decide +kernel) ⟨Nat.le_of_ble_eq_true rfl, Nat.le_of_ble_eq_true rfl⟩) (wq_S hP hK [] rfl) rfl rfl hl.1 rfl (lv_room (Nat.le_of_ble_eq_true rfl)) d_FM_note_82 ⟨Nat.le_of_ble_eq_true rfl, Nat.le_of_ble_eq_true rfl⟩) ?_
          refine W.eq (g2 := F0 m 85 ls [.int (wkind x1), .int (nI ((k * 3) + 2)), .ref (f 17)]) rfl ?_
          refine va_iast hx hb hK hP hD hS 8 0 rfl rfl (vp_in_nI (n := (k * 3) + 2) (N := 27) (by omega) (by omega)) d_FM_note_85 (fun H locs hP hD hS => ?_)
          have hP : va_P D classes [((f 4), .inr (2, [.ref (f 5), .ref (f 6), .ref (f 7), .int (nI fs1), .ref (f 8), .ref (f 9), .ref (f 10), .int tb1])), ((f 5), .inl (cL, 1024, .inr (.inl le1))), ((f 6), .inl (cL, 1024, .inr (.inl ri1))), ((f 10), .inl (cL, 1024, .inr (.inl wo1))), ((f 7), .inl (cI, 1024, .inl fr1)), ((f 8), .inl (cI, 1024, .inl od1)), ((f 9), .inl (cZ, 1024, .inl ha1)), ((f 16), .inr (4, [.ref (f 17)])), ((f 17), .inl (cI, 27, .inl (upd g_12 (nI ((k * 3) + 2)).toNatClampNeg (wkind x1))))] H := hP
          have hD : va_D A [((f 4), .inr (2, [.ref (f 5), .ref (f 6), .ref (f 7), .int (nI fs1), .ref (f 8), .ref (f 9), .ref (f 10), .int tb1])), ((f 5), .inl (cL, 1024, .inr (.inl le1))), ((f 6), .inl (cL, 1024, .inr (.inl ri1))), ((f 10), .inl (cL, 1024, .inr (.inl wo1))), ((f 7), .inl (cI, 1024, .inl fr1)), ((f 8), .inl (cI, 1024, .inl od1)), ((f 9), .inl (cZ, 1024, .inl ha1)), ((f 16), .inr (4, [.ref (f 17)])), ((f 17), .inl (cI, 27, .inl (upd g_12 (nI ((k * 3) + 2)).toNatClampNeg (wkind x1))))] := hD
          obtain ⟨g_13, eg_13⟩ : ∃ z, z = upd g_12 (nI ((k * 3) + 2)).toNatClampNeg (wkind x1) := ⟨_, rfl⟩
          rw [← eg_13] at hP hD
          exact em_vret hx hb hr hlocks hP hD hK hS (fs1, tb1, le1, ri1, wo1, fr1, od1, ha1, g_13) [0, 1, 2, 3, 4, 5, 6, 7, 8] (by decide) rfl ⟨rfl, ⟨(show fs1 ≤ 1024 by omega), htb1, hle1, hri1, hwo1, hfr1, hod1, hha1⟩⟩ d_FM_note_86
        · skip
          obtain ⟨j_14, hj_14, ej_14⟩ := wcell_t hx1 hb_10
          refine lv_aload_n hx hb d_FM_note_35 rfl (lv_at hl 1 rfl) ?_
          refine lv_lload hx hb d_FM_note_36 (lv_at hl 5 rfl) ?_
          refine W.callR (W.runS (As := [.long x1]) (rest := [.ref (f 4)]) ⟨hx, hb, hml, hown, hG⟩ (wd_number l D cI cL cZ cC x1 ) (va_cwS 1 hG (gd_T k_916 k_756 k_127 k_757) rfl rfl rfl (by decide +kernel) ⟨Nat.le_of_ble_eq_true rfl, Nat.le_of_ble_eq_true rfl⟩) (wq_S hP hK [] rfl) rfl rfl hl.1 rfl (lv_room (Nat.le_of_ble_eq_true rfl)) d_FM_note_38 ⟨Nat.le_of_ble_eq_true rfl, Nat.le_of_ble_eq_true rfl⟩) ?_
          refine W.eq (g2 := F0 m 41 ls [.int x1.toInt32, .ref (f 4)]) rfl ?_
          refine W.eq (g2 := F0 m 41 ls [.int (nI j_14), .ref (f 4)]) (by rw [ej_14]) ?_
          refine em_call (wr := [((f 16), .inr (4, [.ref (f 17)])), ((f 17), .inl (cI, 27, .inl an1))]) (em_runV (As := [.int (nI j_14)]) (rest := []) ⟨hx, hb, hml, hown, hG⟩ (tm_leftOf l D cI cL cZ cC f fs1 tb1 le1 ri1 wo1 fr1 od1 ha1 j_14 _ (by omega) htb1 hle1 hri1 hwo1 hfr1 hod1 hha1 (by omega) hnt) (cwV 1 hG (gd_V k_917 k_918 k_919 k_109 k_920) rfl rfl rfl (by decide +kernel) ⟨Nat.le_of_ble_eq_true rfl, Nat.le_of_ble_eq_true rfl⟩) (tw_V (q0 := 0) hP hD hK hE hst hS rfl rfl [0, 1, 2, 4, 5, 6, 3] rfl (by decide)) rfl rfl hl.1 rfl (lv_room (Nat.le_of_ble_eq_true rfl)) d_FM_note_41 ⟨Nat.le_of_ble_eq_true rfl, Nat.le_of_ble_eq_true rfl⟩) hP hD hS hA [0, 1, 2, 4, 5, 6, 3] [7, 8] rfl rfl (by decide) (by decide) (fun v u H locs hok hP hD hS => ?_) (fun x C u H locs hbad hxx hP hD hS => ?_)
          · skip
            obtain ⟨r_15, rfl, hp_16⟩ := hok
            have hp_16 : wfw 1024 r_15 := hp_16
            have hP : va_P D classes [((f 16), .inr (4, [.ref (f 17)])), ((f 17), .inl (cI, 27, .inl an1)), ((f 4), .inr (2, [.ref (f 5), .ref (f 6), .ref (f 7), .int (nI fs1), .ref (f 8), .ref (f 9), .ref (f 10), .int tb1])), ((f 5), .inl (cL, 1024, .inr (.inl le1))), ((f 6), .inl (cL, 1024, .inr (.inl ri1))), ((f 7), .inl (cI, 1024, .inl fr1)), ((f 8), .inl (cI, 1024, .inl od1)), ((f 9), .inl (cZ, 1024, .inl ha1)), ((f 10), .inl (cL, 1024, .inr (.inl wo1)))] H := hP
            have hD : va_D A [((f 16), .inr (4, [.ref (f 17)])), ((f 17), .inl (cI, 27, .inl an1)), ((f 4), .inr (2, [.ref (f 5), .ref (f 6), .ref (f 7), .int (nI fs1), .ref (f 8), .ref (f 9), .ref (f 10), .int tb1])), ((f 5), .inl (cL, 1024, .inr (.inl le1))), ((f 6), .inl (cL, 1024, .inr (.inl ri1))), ((f 7), .inl (cI, 1024, .inl fr1)), ((f 8), .inl (cI, 1024, .inl od1)), ((f 9), .inl (cZ, 1024, .inl ha1)), ((f 10), .inl (cL, 1024, .inr (.inl wo1)))] := hD
            refine W.eq (g2 := F0 m 44 ls [.long r_15]) rfl ?_
            refine lv_lstore (lv' := [(8, .long r_15), (0, .ref (f 16)), (2, .ref (f 4)), (5, .int (nI (k * 3))), (6, .int (nI j)), (7, .int (nI i))]) hx hb d_FM_note_44 hl (Nat.le_of_ble_eq_true rfl) rfl (fun ls hl => ?_)
            refine lv_iinc (k := 5) (v := nI (i + 1)) (lv' := [(7, .int (nI (i + 1))), (8, .long r_15), (0, .ref (f 16)), (2, .ref (f 4)), (5, .int (nI (k * 3))), (6, .int (nI j))]) hx hb d_FM_note_46 hl rfl (lw_inc i 1) (Nat.le_of_ble_eq_true rfl) rfl (fun ls hl => ?_)
            refine lv_goto (tgt := 20) hx hb d_FM_note_49 (by decide) ?_
            have hl := lv_sub (l' := [(0, .ref (f 16)), (2, .ref (f 4)), (5, .int (nI (k * 3))), (6, .int (nI j)), (7, .int (nI (i + 1))), (8, .long r_15)]) hl [2, 3, 4, 5, 0, 1] rfl
            have hP : va_P D classes [((f 4), .inr (2, [.ref (f 5), .ref (f 6), .ref (f 7), .int (nI fs1), .ref (f 8), .ref (f 9), .ref (f 10), .int tb1])), ((f 5), .inl (cL, 1024, .inr (.inl le1))), ((f 6), .inl (cL, 1024, .inr (.inl ri1))), ((f 10), .inl (cL, 1024, .inr (.inl wo1))), ((f 7), .inl (cI, 1024, .inl fr1)), ((f 8), .inl (cI, 1024, .inl od1)), ((f 9), .inl (cZ, 1024, .inl ha1)), ((f 16), .inr (4, [.ref (f 17)])), ((f 17), .inl (cI, 27, .inl an1))] _ := hP.sub [2, 3, 4, 8, 5, 6, 7, 0, 1] (wp_fm rfl)
            have hD : va_D A [((f 4), .inr (2, [.ref (f 5), .ref (f 6), .ref (f 7), .int (nI fs1), .ref (f 8), .ref (f 9), .ref (f 10), .int tb1])), ((f 5), .inl (cL, 1024, .inr (.inl le1))), ((f 6), .inl (cL, 1024, .inr (.inl ri1))), ((f 10), .inl (cL, 1024, .inr (.inl wo1))), ((f 7), .inl (cI, 1024, .inl fr1)), ((f 8), .inl (cI, 1024, .inl od1)), ((f 9), .inl (cZ, 1024, .inl ha1)), ((f 16), .inr (4, [.ref (f 17)])), ((f 17), .inl (cI, 27, .inl an1))] := hD.sub [2, 3, 4, 8, 5, 6, 7, 0, 1] (by decide) rfl
            exact ih_3 (i + 1) r_15 j fs1 tb1 le1 ri1 wo1 fr1 od1 ha1 an1 _ _ _ (by omega) (by omega) (by omega) hp_16 (by omega) htb1 hle1 hri1 hwo1 hfr1 hod1 hha1 hl hP hD hS
          · skip
            exact hbad.elim
  refine lv_iload_n hx hb d_FM_note_0 rfl (lv_at hl 1 rfl) ?_
  refine lv_iconst (v := 1) hx hb d_FM_note_1 (by decide) ?_
  refine lv_iadd hx hb d_FM_note_2 ?_
  refine W.eq (g2 := F0 m 3 ls [.int (nI k)]) (by rw [up_dn]) ?_
  refine lv_iconst (v := 3) hx hb d_FM_note_3 (by decide) ?_
  refine lw_imul (a := k) (b := 3) hx hb d_FM_note_4 ?_
  refine lv_istore (lv' := [(5, .int (nI (k * 3))), (0, .ref (f 16)), (1, .int (nI k - 1)), (2, .ref (f 4)), (3, .long a)]) hx hb d_FM_note_5 hl (Nat.le_of_ble_eq_true rfl) rfl (fun ls hl => ?_)
  refine lv_aload_n hx hb d_FM_note_7 rfl (lv_at hl 3 rfl) ?_
  refine lv_lload_n hx hb d_FM_note_8 rfl (lv_at hl 4 rfl) ?_
  refine em_call (wr := [((f 16), .inr (4, [.ref (f 17)])), ((f 17), .inl (cI, 27, .inl an))]) (em_runV (As := [.long a]) (rest := []) ⟨hx, hb, hml, hown, hG⟩ (tm_list l D cI cL cZ cC f fs tb le ri wo fr od ha a _ (by omega) htb hle hri hwo hfr hod hha hwa hnt) (cwV 1 hG (gd_V k_914 k_749 k_750 k_109 k_751) rfl rfl rfl (by decide +kernel) ⟨Nat.le_of_ble_eq_true rfl, Nat.le_of_ble_eq_true rfl⟩) (tw_V (q0 := 0) hP hD hK hE hst hS rfl rfl [0, 1, 2, 4, 5, 6, 3] rfl (by decide)) rfl rfl hl.1 rfl (lv_room (Nat.le_of_ble_eq_true rfl)) d_FM_note_9 ⟨Nat.le_of_ble_eq_true rfl, Nat.le_of_ble_eq_true rfl⟩) hP hD hS hA [0, 1, 2, 4, 5, 6, 3] [7, 8] rfl rfl (by decide) (by decide) (fun v u H locs hok hP hD hS => ?_) (fun x C u H locs hbad hxx hP hD hS => ?_)
  · skip
    obtain ⟨fs_17, tb_18, le_19, ri_20, wo_21, fr_22, od_23, ha_24⟩ := u
    obtain ⟨r_25, rfl, hp_26⟩ := hok
    obtain ⟨hfs_27, htb_28, hle_29, hri_30, hwo_31, hfr_32, hod_33, hha_34, hres_35⟩ : fs_17 ≤ 1024 ∧ (tb_18 = 0 ∨ tb_18 = 1) ∧ wfa 1024 le_19 ∧ wfa 1024 ri_20 ∧ wfa 1024 wo_21 ∧ rng 1024 fr_22 ∧ rng 1024 od_23 ∧ bln ha_24 ∧ (∃ j : Nat, j ≤ 1024 ∧ r_25 = nI j) := hp_26
    obtain ⟨n_36, hn_36, rfl⟩ := hres_35
    have hP : va_P D classes [((f 16), .inr (4, [.ref (f 17)])), ((f 17), .inl (cI, 27, .inl an)), ((f 4), .inr (2, [.ref (f 5), .ref (f 6), .ref (f 7), .int (nI fs_17), .ref (f 8), .ref (f 9), .ref (f 10), .int tb_18])), ((f 5), .inl (cL, 1024, .inr (.inl le_19))), ((f 6), .inl (cL, 1024, .inr (.inl ri_20))), ((f 7), .inl (cI, 1024, .inl fr_22)), ((f 8), .inl (cI, 1024, .inl od_23)), ((f 9), .inl (cZ, 1024, .inl ha_24)), ((f 10), .inl (cL, 1024, .inr (.inl wo_21)))] H := hP
    have hD : va_D A [((f 16), .inr (4, [.ref (f 17)])), ((f 17), .inl (cI, 27, .inl an)), ((f 4), .inr (2, [.ref (f 5), .ref (f 6), .ref (f 7), .int (nI fs_17), .ref (f 8), .ref (f 9), .ref (f 10), .int tb_18])), ((f 5), .inl (cL, 1024, .inr (.inl le_19))), ((f 6), .inl (cL, 1024, .inr (.inl ri_20))), ((f 7), .inl (cI, 1024, .inl fr_22)), ((f 8), .inl (cI, 1024, .inl od_23)), ((f 9), .inl (cZ, 1024, .inl ha_24)), ((f 10), .inl (cL, 1024, .inr (.inl wo_21)))] := hD
    refine W.eq (g2 := F0 m 12 ls [.int (nI n_36)]) rfl ?_
    refine lv_istore (lv' := [(6, .int (nI n_36)), (5, .int (nI (k * 3))), (0, .ref (f 16)), (1, .int (nI k - 1)), (2, .ref (f 4)), (3, .long a)]) hx hb d_FM_note_12 hl (Nat.le_of_ble_eq_true rfl) rfl (fun ls hl => ?_)
    refine lv_iconst (v := 0) hx hb d_FM_note_14 (by decide) ?_
    refine lv_istore (lv' := [(7, .int 0), (6, .int (nI n_36)), (5, .int (nI (k * 3))), (0, .ref (f 16)), (1, .int (nI k - 1)), (2, .ref (f 4)), (3, .long a)]) hx hb d_FM_note_15 hl (Nat.le_of_ble_eq_true rfl) rfl (fun ls hl => ?_)
    refine lv_lload_n hx hb d_FM_note_17 rfl (lv_at hl 6 rfl) ?_
    refine lv_lstore (lv' := [(8, .long a), (7, .int 0), (6, .int (nI n_36)), (5, .int (nI (k * 3))), (0, .ref (f 16)), (1, .int (nI k - 1)), (2, .ref (f 4)), (3, .long a)]) hx hb d_FM_note_18 hl (Nat.le_of_ble_eq_true rfl) rfl (fun ls hl => ?_)
    have hl := lv_sub (l' := [(0, .ref (f 16)), (2, .ref (f 4)), (5, .int (nI (k * 3))), (6, .int (nI n_36)), (7, .int 0), (8, .long a)]) hl [4, 6, 3, 2, 1, 0] rfl
    have hP : va_P D classes [((f 4), .inr (2, [.ref (f 5), .ref (f 6), .ref (f 7), .int (nI fs_17), .ref (f 8), .ref (f 9), .ref (f 10), .int tb_18])), ((f 5), .inl (cL, 1024, .inr (.inl le_19))), ((f 6), .inl (cL, 1024, .inr (.inl ri_20))), ((f 10), .inl (cL, 1024, .inr (.inl wo_21))), ((f 7), .inl (cI, 1024, .inl fr_22)), ((f 8), .inl (cI, 1024, .inl od_23)), ((f 9), .inl (cZ, 1024, .inl ha_24)), ((f 16), .inr (4, [.ref (f 17)])), ((f 17), .inl (cI, 27, .inl an))] _ := hP.sub [2, 3, 4, 8, 5, 6, 7, 0, 1] (wp_fm rfl)
    have hD : va_D A [((f 4), .inr (2, [.ref (f 5), .ref (f 6), .ref (f 7), .int (nI fs_17), .ref (f 8), .ref (f 9), .ref (f 10), .int tb_18])), ((f 5), .inl (cL, 1024, .inr (.inl le_19))), ((f 6), .inl (cL, 1024, .inr (.inl ri_20))), ((f 10), .inl (cL, 1024, .inr (.inl wo_21))), ((f 7), .inl (cI, 1024, .inl fr_22)), ((f 8), .inl (cI, 1024, .inl od_23)), ((f 9), .inl (cZ, 1024, .inl ha_24)), ((f 16), .inr (4, [.ref (f 17)])), ((f 17), .inl (cI, 27, .inl an))] := hD.sub [2, 3, 4, 8, 5, 6, 7, 0, 1] (by decide) rfl
    exact loop_2 _ 0 a n_36 fs_17 tb_18 le_19 ri_20 wo_21 fr_22 od_23 ha_24 an _ _ _ (Nat.lt_succ_self _) (by omega) (by omega) hwa (by omega) htb_28 hle_29 hri_30 hwo_31 hfr_32 hod_33 hha_34 hl hP hD hS
  · skip
    exact hbad.elim
