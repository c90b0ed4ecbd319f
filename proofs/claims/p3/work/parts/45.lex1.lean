theorem ge0_nI {i : Int32} (h : 0 ≤ i) : ∃ j : Nat, j < 2 ^ 31 ∧ i = nI j := by
  have h1 : (0 : Int) ≤ i.toInt := Int32.le_iff_toInt_le.mp h
  have h2 : i.toInt < 2 ^ 31 := i.toInt_lt
  refine ⟨i.toInt.toNat, by omega, ?_⟩
  apply Int32.toInt_inj.mp
  rw [show (nI i.toInt.toNat) = Int32.ofNat i.toInt.toNat from rfl, Int32.toInt_ofNat_of_lt (by omega)]
  omega
def lxa (g : Nat → Int32) (n : Nat) (i : Int32) : Int32 := if i < 0 then 0 else if nI n ≤ i then 0 else g i.toNatClampNeg
theorem ix_nat {i : Int32} {n : Nat} (hn : n < 2 ^ 31) (h0 : ¬ i < 0) (h1 : ¬ nI n ≤ i) : ∃ j : Nat, j < n ∧ i = nI j := by
  have h2 : (0 : Int32) ≤ i := Int32.not_lt.mp h0
  obtain ⟨j, hj, e⟩ := ge0_nI h2
  refine ⟨j, ?_, e⟩
  subst e
  exact Nat.lt_of_not_le (fun q => h1 ((nI_leI hn hj).mpr q))
def isLet (c : Int32) : Int32 := if c < 97 then 0 else if 122 < c then 0 else 1
def isDig (c : Int32) : Int32 := if c < 48 then 0 else if 57 < c then 0 else 1

set_option maxHeartbeats 8000000 in
set_option maxRecDepth 100000 in
theorem lx_size (l : Launch) (D : va_G) (cI cL cZ cC : ClassId) (f : Nat → Nat) (lz : Nat) (lk : Nat → Int32) (lv : Nat → Int32) (hlz : lz ≤ 100) : Met l y_LX_size (wz y_LX_size b_LX_size 1 (some .int)) ({ frames := 0, cells := 0, slots := 0, locals := 0 }) (va_Pc [.ref (f 1)] (wq_pre D (tys4 cI cL cZ cC) [((f 1), .inr (1, [.ref (f 2), .ref (f 3), .int (nI lz)])), ((f 2), .inl (cI, 100, .inl lk)), ((f 3), .inl (cI, 100, .inl lv))])) (QcRead (nI lz)) 0 0 (fun _ => False) := by
  refine Met.ofW (cc := b_LX_size) (maxL := 1) (ret := (some .int)) (by decide) rfl ?_
  intro p e s m args below meth c s₁ B hml hv
  obtain ⟨rfl, hP, hK⟩ := hv
  have hx := B.exec
  have hb := B.bytes
  have hr := B.returns
  have hts := atoms_spec (ws := wz y_LX_size b_LX_size 1 (some .int)) B.pre
  have hG := wz_G hts
  have hown : s.vm.findClass rn_LX = some m.cls := findClass_of_methodNamed B.named
  have hlocks := B.notSynchronized
  have hl := lv_entry ([.ref (f 1)]) (n := 1) (Nat.le_of_ble_eq_true rfl)
  rw [lg_entry_eq]
  generalize (lg_sl ([.ref (f 1)]) ++ List.replicate (1 - (lg_sl ([.ref (f 1)])).length) Slot.unset).toArray = ls at hl ⊢
  have hl : lv_has ls 1 [(0, .ref (f 1))] := hl
  refine lv_aload_n hx hb d_LX_size_0 rfl (lv_at hl 0 rfl) ?_
  refine va_get (D := D) (ci := 1) (v := .int (nI lz)) (C := rn_LX) (T := fl_LX) (N := 3) hx hb hG in_LX hown hK hP 0 rfl rfl 2 (by decide) (hG _ k_146) (fun _ h9 => h9) rfl d_LX_size_1 ?_
  exact W.iret hx hb hr (fun t ht hW => ⟨rfl, ht⟩) (fun q h => by cases h) d_LX_size_4 hlocks
set_option maxHeartbeats 8000000 in
set_option maxRecDepth 100000 in
theorem lx_kind (l : Launch) (D : va_G) (cI cL cZ cC : ClassId) (f : Nat → Nat) (lz : Nat) (lk : Nat → Int32) (lv : Nat → Int32) (i : Int32) (hlz : lz ≤ 100) : Met l y_LX_kind (wz y_LX_kind b_LX_kind 2 (some .int)) ({ frames := 0, cells := 0, slots := 0, locals := 0 }) (va_Pc [.ref (f 1), .int i] (wq_pre D (tys4 cI cL cZ cC) [((f 1), .inr (1, [.ref (f 2), .ref (f 3), .int (nI lz)])), ((f 2), .inl (cI, 100, .inl lk)), ((f 3), .inl (cI, 100, .inl lv))])) (QcRead (lxa lk lz i)) 0 0 (fun _ => False) := by
  refine Met.ofW (cc := b_LX_kind) (maxL := 2) (ret := (some .int)) (by decide) rfl ?_
  intro p e s m args below meth c s₁ B hml hv
  obtain ⟨rfl, hP, hK⟩ := hv
  have hx := B.exec
  have hb := B.bytes
  have hr := B.returns
  have hts := atoms_spec (ws := wz y_LX_kind b_LX_kind 2 (some .int)) B.pre
  have hG := wz_G hts
  have hown : s.vm.findClass rn_LX = some m.cls := findClass_of_methodNamed B.named
  have hlocks := B.notSynchronized
  have hl := lv_entry ([.ref (f 1), .int i]) (n := 2) (Nat.le_of_ble_eq_true rfl)
  rw [lg_entry_eq]
  generalize (lg_sl ([.ref (f 1), .int i]) ++ List.replicate (2 - (lg_sl ([.ref (f 1), .int i])).length) Slot.unset).toArray = ls at hl ⊢
  have hl : lv_has ls 2 [(0, .ref (f 1)), (1, .int i)] := hl
  refine lv_iload_n hx hb d_LX_kind_0 rfl (lv_at hl 1 rfl) ?_
  refine lv_if_lt (tgt := 21) hx hb d_LX_kind_1 (by decide) (fun hb_1 => ?_) (fun hb_1 => ?_)
  · skip
    refine lv_iconst (v := 0) hx hb d_LX_kind_21 (by decide) ?_
    exact W.iret hx hb hr (fun t ht hW => ⟨by rw [show lxa lk lz i = 0 from (by unfold lxa; rw [if_pos hb_1])], ht⟩) (fun q h => by cases h) d_LX_kind_22 hlocks
  · skip
    refine lv_iload_n hx hb d_LX_kind_4 rfl (lv_at hl 1 rfl) ?_
    refine lv_aload_n hx hb d_LX_kind_5 rfl (lv_at hl 0 rfl) ?_
    refine va_get (D := D) (ci := 1) (v := .int (nI lz)) (C := rn_LX) (T := fl_LX) (N := 3) hx hb hG in_LX hown hK hP 0 rfl rfl 2 (by decide) (hG _ k_146) (fun _ h9 => h9) rfl d_LX_kind_6 ?_
    refine lv_icmp_ge (tgt := 21) hx hb d_LX_kind_9 (by decide) (fun hb_2 => ?_) (fun hb_2 => ?_)
    · skip
      refine lv_iconst (v := 0) hx hb d_LX_kind_21 (by decide) ?_
      exact W.iret hx hb hr (fun t ht hW => ⟨by rw [show lxa lk lz i = 0 from (by unfold lxa; rw [if_neg hb_1, if_pos hb_2])], ht⟩) (fun q h => by cases h) d_LX_kind_22 hlocks
    · skip
      refine lv_aload_n hx hb d_LX_kind_12 rfl (lv_at hl 0 rfl) ?_
      refine va_get (D := D) (ci := 1) (v := .ref (f 2)) (C := rn_LX) (T := fl_LX) (N := 3) hx hb hG in_LX hown hK hP 0 rfl rfl 0 (by decide) (hG _ k_144) (fun _ h9 => h9) rfl d_LX_kind_13 ?_
      refine lv_iload_n hx hb d_LX_kind_16 rfl (lv_at hl 1 rfl) ?_
      obtain ⟨j_3, hj_3, ej_3⟩ := ix_nat (by omega) hb_1 hb_2
      refine va_iald hx hb hK hP 1 0 rfl rfl (by rw [ej_3]; exact vp_in_nI (n := j_3) (N := 100) (by omega) (by omega)) d_LX_kind_17 ?_
      refine lv_goto (tgt := 22) hx hb d_LX_kind_18 (by decide) ?_
      exact W.iret hx hb hr (fun t ht hW => ⟨by rw [show lxa lk lz i = lk (i.toNatClampNeg) from (by unfold lxa; rw [if_neg hb_1, if_neg hb_2])], ht⟩) (fun q h => by cases h) d_LX_kind_22 hlocks
set_option maxHeartbeats 8000000 in
set_option maxRecDepth 100000 in
theorem lx_value (l : Launch) (D : va_G) (cI cL cZ cC : ClassId) (f : Nat → Nat) (lz : Nat) (lk : Nat → Int32) (lv : Nat → Int32) (i : Int32) (hlz : lz ≤ 100) : Met l y_LX_value (wz y_LX_value b_LX_value 2 (some .int)) ({ frames := 0, cells := 0, slots := 0, locals := 0 }) (va_Pc [.ref (f 1), .int i] (wq_pre D (tys4 cI cL cZ cC) [((f 1), .inr (1, [.ref (f 2), .ref (f 3), .int (nI lz)])), ((f 2), .inl (cI, 100, .inl lk)), ((f 3), .inl (cI, 100, .inl lv))])) (QcRead (lxa lv lz i)) 0 0 (fun _ => False) := by
  refine Met.ofW (cc := b_LX_value) (maxL := 2) (ret := (some .int)) (by decide) rfl ?_
  intro p e s m args below meth c s₁ B hml hv
  obtain ⟨rfl, hP, hK⟩ := hv
  have hx := B.exec
  have hb := B.bytes
  have hr := B.returns
  have hts := atoms_spec (ws := wz y_LX_value b_LX_value 2 (some .int)) B.pre
  have hG := wz_G hts
  have hown : s.vm.findClass rn_LX = some m.cls := findClass_of_methodNamed B.named
  have hlocks := B.notSynchronized
  have hl := lv_entry ([.ref (f 1), .int i]) (n := 2) (Nat.le_of_ble_eq_true rfl)
  rw [lg_entry_eq]
  generalize (lg_sl ([.ref (f 1), .int i]) ++ List.replicate (2 - (lg_sl ([.ref (f 1), .int i])).length) Slot.unset).toArray = ls at hl ⊢
  have hl : lv_has ls 2 [(0, .ref (f 1)), (1, .int i)] := hl
  refine lv_iload_n hx hb d_LX_value_0 rfl (lv_at hl 1 rfl) ?_
  refine lv_if_lt (tgt := 21) hx hb d_LX_value_1 (by decide) (fun hb_1 => ?_) (fun hb_1 => ?_)
  · skip
    refine lv_iconst (v := 0) hx hb d_LX_value_21 (by decide) ?_
    exact W.iret hx hb hr (fun t ht hW => ⟨by rw [show lxa lv lz i = 0 from (by unfold lxa; rw [if_pos hb_1])], ht⟩) (fun q h => by cases h) d_LX_value_22 hlocks
  · skip
    refine lv_iload_n hx hb d_LX_value_4 rfl (lv_at hl 1 rfl) ?_
    refine lv_aload_n hx hb d_LX_value_5 rfl (lv_at hl 0 rfl) ?_
    refine va_get (D := D) (ci := 1) (v := .int (nI lz)) (C := rn_LX) (T := fl_LX) (N := 3) hx hb hG in_LX hown hK hP 0 rfl rfl 2 (by decide) (hG _ k_146) (fun _ h9 => h9) rfl d_LX_value_6 ?_
    refine lv_icmp_ge (tgt := 21) hx hb d_LX_value_9 (by decide) (fun hb_2 => ?_) (fun hb_2 => ?_)
    · skip
      refine lv_iconst (v := 0) hx hb d_LX_value_21 (by decide) ?_
      exact W.iret hx hb hr (fun t ht hW => ⟨by rw [show lxa lv lz i = 0 from (by unfold lxa; rw [if_neg hb_1, if_pos hb_2])], ht⟩) (fun q h => by cases h) d_LX_value_22 hlocks
    · skip
      refine lv_aload_n hx hb d_LX_value_12 rfl (lv_at hl 0 rfl) ?_
      refine va_get (D := D) (ci := 1) (v := .ref (f 3)) (C := rn_LX) (T := fl_LX) (N := 3) hx hb hG in_LX hown hK hP 0 rfl rfl 1 (by decide) (hG _ k_145) (fun _ h9 => h9) rfl d_LX_value_13 ?_
      refine lv_iload_n hx hb d_LX_value_16 rfl (lv_at hl 1 rfl) ?_
      obtain ⟨j_3, hj_3, ej_3⟩ := ix_nat (by omega) hb_1 hb_2
      refine va_iald hx hb hK hP 2 0 rfl rfl (by rw [ej_3]; exact vp_in_nI (n := j_3) (N := 100) (by omega) (by omega)) d_LX_value_17 ?_
      refine lv_goto (tgt := 22) hx hb d_LX_value_18 (by decide) ?_
      exact W.iret hx hb hr (fun t ht hW => ⟨by rw [show lxa lv lz i = lv (i.toNatClampNeg) from (by unfold lxa; rw [if_neg hb_1, if_neg hb_2])], ht⟩) (fun q h => by cases h) d_LX_value_22 hlocks
set_option maxHeartbeats 8000000 in
set_option maxRecDepth 100000 in
theorem lx_isLetter (l : Launch) (D : va_G) (cI cL cZ cC : ClassId) (f : Nat → Nat) (i : Int32) : Met l y_LX_isLetter (wz y_LX_isLetter b_LX_isLetter 1 (some .boolean)) ({ frames := 0, cells := 0, slots := 0, locals := 0 }) (va_Pc [.int i] (wq_pre D (tys4 cI cL cZ cC) [])) (QcRead (isLet i)) 0 0 (fun _ => False) := by
  refine Met.ofW (cc := b_LX_isLetter) (maxL := 1) (ret := (some .boolean)) (by decide) rfl ?_
  intro p e s m args below meth c s₁ B hml hv
  obtain ⟨rfl, hP, hK⟩ := hv
  have hx := B.exec
  have hb := B.bytes
  have hr := B.returns
  have hts := atoms_spec (ws := wz y_LX_isLetter b_LX_isLetter 1 (some .boolean)) B.pre
  have hG := wz_G hts
  have hown : s.vm.findClass rn_LX = some m.cls := findClass_of_methodNamed B.named
  have hlocks := B.notSynchronized
  have hl := lv_entry ([.int i]) (n := 1) (Nat.le_of_ble_eq_true rfl)
  rw [lg_entry_eq]
  generalize (lg_sl ([.int i]) ++ List.replicate (1 - (lg_sl ([.int i])).length) Slot.unset).toArray = ls at hl ⊢
  have hl : lv_has ls 1 [(0, .int i)] := hl
  refine lv_iload_n hx hb d_LX_isLetter_0 rfl (lv_at hl 0 rfl) ?_
  refine lv_bipush (v := 97) hx hb d_LX_isLetter_1 (by decide) ?_
  refine lv_icmp_lt (tgt := 16) hx hb d_LX_isLetter_3 (by decide) (fun hb_1 => ?_) (fun hb_1 => ?_)
  · skip
    refine lv_iconst (v := 0) hx hb d_LX_isLetter_16 (by decide) ?_
    exact W.zret hx hb hr rfl (fun t ht hW => ⟨by rw [show isLet i = 0 from (by unfold isLet; rw [if_pos hb_1])], ht⟩) (fun q h => by cases h) d_LX_isLetter_17 hlocks
  · skip
    refine lv_iload_n hx hb d_LX_isLetter_6 rfl (lv_at hl 0 rfl) ?_
    refine lv_bipush (v := 122) hx hb d_LX_isLetter_7 (by decide) ?_
    refine lv_icmp_gt (tgt := 16) hx hb d_LX_isLetter_9 (by decide) (fun hb_2 => ?_) (fun hb_2 => ?_)
    · skip
      refine lv_iconst (v := 0) hx hb d_LX_isLetter_16 (by decide) ?_
      exact W.zret hx hb hr rfl (fun t ht hW => ⟨by rw [show isLet i = 0 from (by unfold isLet; rw [if_neg hb_1, if_pos hb_2])], ht⟩) (fun q h => by cases h) d_LX_isLetter_17 hlocks
    · skip
      refine lv_iconst (v := 1) hx hb d_LX_isLetter_12 (by decide) ?_
      refine lv_goto (tgt := 17) hx hb d_LX_isLetter_13 (by decide) ?_
      exact W.zret hx hb hr rfl (fun t ht hW => ⟨by rw [show isLet i = 1 from (by unfold isLet; rw [if_neg hb_1, if_neg hb_2])], ht⟩) (fun q h => by cases h) d_LX_isLetter_17 hlocks
set_option maxHeartbeats 8000000 in
set_option maxRecDepth 100000 in
theorem lx_isDigit (l : Launch) (D : va_G) (cI cL cZ cC : ClassId) (f : Nat → Nat) (i : Int32) : Met l y_LX_isDigit (wz y_LX_isDigit b_LX_isDigit 1 (some .boolean)) ({ frames := 0, cells := 0, slots := 0, locals := 0 }) (va_Pc [.int i] (wq_pre D (tys4 cI cL cZ cC) [])) (QcRead (isDig i)) 0 0 (fun _ => False) := by
  refine Met.ofW (cc := b_LX_isDigit) (maxL := 1) (ret := (some .boolean)) (by decide) rfl ?_
  intro p e s m args below meth c s₁ B hml hv
  obtain ⟨rfl, hP, hK⟩ := hv
  have hx := B.exec
  have hb := B.bytes
  have hr := B.returns
  have hts := atoms_spec (ws := wz y_LX_isDigit b_LX_isDigit 1 (some .boolean)) B.pre
  have hG := wz_G hts
  have hown : s.vm.findClass rn_LX = some m.cls := findClass_of_methodNamed B.named
  have hlocks := B.notSynchronized
  have hl := lv_entry ([.int i]) (n := 1) (Nat.le_of_ble_eq_true rfl)
  rw [lg_entry_eq]
  generalize (lg_sl ([.int i]) ++ List.replicate (1 - (lg_sl ([.int i])).length) Slot.unset).toArray = ls at hl ⊢
  have hl : lv_has ls 1 [(0, .int i)] := hl
  refine lv_iload_n hx hb d_LX_isDigit_0 rfl (lv_at hl 0 rfl) ?_
  refine lv_bipush (v := 48) hx hb d_LX_isDigit_1 (by decide) ?_
  refine lv_icmp_lt (tgt := 16) hx hb d_LX_isDigit_3 (by decide) (fun hb_1 => ?_) (fun hb_1 => ?_)
  · skip
    refine lv_iconst (v := 0) hx hb d_LX_isDigit_16 (by decide) ?_
    exact W.zret hx hb hr rfl (fun t ht hW => ⟨by rw [show isDig i = 0 from (by unfold isDig; rw [if_pos hb_1])], ht⟩) (fun q h => by cases h) d_LX_isDigit_17 hlocks
  · skip
    refine lv_iload_n hx hb d_LX_isDigit_6 rfl (lv_at hl 0 rfl) ?_
    refine lv_bipush (v := 57) hx hb d_LX_isDigit_7 (by decide) ?_
    refine lv_icmp_gt (tgt := 16) hx hb d_LX_isDigit_9 (by decide) (fun hb_2 => ?_) (fun hb_2 => ?_)
    · skip
      refine lv_iconst (v := 0) hx hb d_LX_isDigit_16 (by decide) ?_
      exact W.zret hx hb hr rfl (fun t ht hW => ⟨by rw [show isDig i = 0 from (by unfold isDig; rw [if_neg hb_1, if_pos hb_2])], ht⟩) (fun q h => by cases h) d_LX_isDigit_17 hlocks
    · skip
      refine lv_iconst (v := 1) hx hb d_LX_isDigit_12 (by decide) ?_
      refine lv_goto (tgt := 17) hx hb d_LX_isDigit_13 (by decide) ?_
      exact W.zret hx hb hr rfl (fun t ht hW => ⟨by rw [show isDig i = 1 from (by unfold isDig; rw [if_neg hb_1, if_neg hb_2])], ht⟩) (fun q h => by cases h) d_LX_isDigit_17 hlocks
