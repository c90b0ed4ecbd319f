def by8 (x : Int64) (i : Int32) : Int32 := (x.toUInt64 >>> ((8 * i).toInt64.toUInt64 &&& Int64.toUInt64 63)).toInt64.toInt32 &&& 255
def isCh (c : Int32) : Int32 := if c = 10 then 1 else if c < 32 then 0 else if 126 < c then 0 else 1
def wi (v a b : Int32) : Int32 := if v < a then 0 else if b < v then 0 else 1
set_option maxHeartbeats 4000000 in
set_option maxRecDepth 100000 in
theorem c_TH_byteOf (l : Launch) (D : va_G) (cI cL cZ cC : ClassId) (x : Int64) (i : Int32) : Met l y_TH_byteOf (wz y_TH_byteOf b_TH_byteOf 3 (some .int)) ({ frames := 0, cells := 0, slots := 0, locals := 0 }) (va_Pc [.long x, .int i] (wq_pre D (tys4 cI cL cZ cC) [])) (QcRead (by8 x i)) 0 0 (fun _ => False) := by
  refine Met.ofW (cc := b_TH_byteOf) (maxL := 3) (ret := (some .int)) (by decide) rfl ?_
  intro p e s m args below meth c s₁ B hml hv
  obtain ⟨rfl, hP, hK⟩ := hv
  have hx := B.exec
  have hb := B.bytes
  have hr := B.returns
  have hts := atoms_spec (ws := wz y_TH_byteOf b_TH_byteOf 3 (some .int)) B.pre
  have hG := wz_G hts
  have hown : s.vm.findClass rn_TH = some m.cls := findClass_of_methodNamed B.named
  have hlocks := B.notSynchronized
  have hl := lv_entry ([.long x, .int i]) (n := 3) (Nat.le_of_ble_eq_true rfl)
  rw [lg_entry_eq]
  generalize (lg_sl ([.long x, .int i]) ++ List.replicate (3 - (lg_sl ([.long x, .int i])).length) Slot.unset).toArray = ls at hl ⊢
  have hl : lv_has ls 3 [(0, .long x), (2, .int i)] := hl
  refine lv_lload_n hx hb d_TH_byteOf_0 rfl (lv_at hl 0 rfl) ?_
  refine lv_bipush (v := 8) hx hb d_TH_byteOf_1 (by decide) ?_
  refine lv_iload_n hx hb d_TH_byteOf_3 rfl (lv_at hl 1 rfl) ?_
  refine lv_imul hx hb d_TH_byteOf_4 ?_
  refine lv_lushr hx hb d_TH_byteOf_5 rfl ?_
  refine lv_l2i hx hb d_TH_byteOf_6 rfl ?_
  refine lv_sipush (v := 255) hx hb d_TH_byteOf_7 (by decide) ?_
  refine lv_iand hx hb d_TH_byteOf_10 ?_
  exact W.iret hx hb hr (fun t ht hW => ⟨rfl, ht⟩) (fun q h => by cases h) d_TH_byteOf_11 hlocks
set_option maxHeartbeats 4000000 in
set_option maxRecDepth 100000 in
theorem c_TH_isCharacter (l : Launch) (D : va_G) (cI cL cZ cC : ClassId) (x : Int32) : Met l y_TH_isCharacter (wz y_TH_isCharacter b_TH_isCharacter 1 (some .boolean)) ({ frames := 0, cells := 0, slots := 0, locals := 0 }) (va_Pc [.int x] (wq_pre D (tys4 cI cL cZ cC) [])) (QcRead (isCh x)) 0 0 (fun _ => False) := by
  refine Met.ofW (cc := b_TH_isCharacter) (maxL := 1) (ret := (some .boolean)) (by decide) rfl ?_
  intro p e s m args below meth c s₁ B hml hv
  obtain ⟨rfl, hP, hK⟩ := hv
  have hx := B.exec
  have hb := B.bytes
  have hr := B.returns
  have hts := atoms_spec (ws := wz y_TH_isCharacter b_TH_isCharacter 1 (some .boolean)) B.pre
  have hG := wz_G hts
  have hown : s.vm.findClass rn_TH = some m.cls := findClass_of_methodNamed B.named
  have hlocks := B.notSynchronized
  have hl := lv_entry ([.int x]) (n := 1) (Nat.le_of_ble_eq_true rfl)
  rw [lg_entry_eq]
  generalize (lg_sl ([.int x]) ++ List.replicate (1 - (lg_sl ([.int x])).length) Slot.unset).toArray = ls at hl ⊢
  have hl : lv_has ls 1 [(0, .int x)] := hl
  refine lv_iload_n hx hb d_TH_isCharacter_0 rfl (lv_at hl 0 rfl) ?_
  refine lv_bipush (v := 10) hx hb d_TH_isCharacter_1 (by decide) ?_
  refine lv_icmp_eq (tgt := 18) hx hb d_TH_isCharacter_3 (by decide) (fun h1 => ?_) (fun h1 => ?_)
  · skip
    refine lv_iconst (v := 1) hx hb d_TH_isCharacter_18 (by decide) ?_
    refine lv_goto (tgt := 23) hx hb d_TH_isCharacter_19 (by decide) ?_
    exact W.zret hx hb hr rfl (fun t ht hW => ⟨(by first | simp [isCh, h1, h2, h3] | simp [isCh, h1, h2] | simp [isCh, h1]), ht⟩) (fun q h => by cases h) d_TH_isCharacter_23 hlocks
  · skip
    refine lv_iload_n hx hb d_TH_isCharacter_6 rfl (lv_at hl 0 rfl) ?_
    refine lv_bipush (v := 32) hx hb d_TH_isCharacter_7 (by decide) ?_
    refine lv_icmp_lt (tgt := 22) hx hb d_TH_isCharacter_9 (by decide) (fun h2 => ?_) (fun h2 => ?_)
    · skip
      refine lv_iconst (v := 0) hx hb d_TH_isCharacter_22 (by decide) ?_
      exact W.zret hx hb hr rfl (fun t ht hW => ⟨(by first | simp [isCh, h1, h2, h3] | simp [isCh, h1, h2] | simp [isCh, h1]), ht⟩) (fun q h => by cases h) d_TH_isCharacter_23 hlocks
    · skip
      refine lv_iload_n hx hb d_TH_isCharacter_12 rfl (lv_at hl 0 rfl) ?_
      refine lv_bipush (v := 126) hx hb d_TH_isCharacter_13 (by decide) ?_
      refine lv_icmp_gt (tgt := 22) hx hb d_TH_isCharacter_15 (by decide) (fun h3 => ?_) (fun h3 => ?_)
      · skip
        refine lv_iconst (v := 0) hx hb d_TH_isCharacter_22 (by decide) ?_
        exact W.zret hx hb hr rfl (fun t ht hW => ⟨(by first | simp [isCh, h1, h2, h3] | simp [isCh, h1, h2] | simp [isCh, h1]), ht⟩) (fun q h => by cases h) d_TH_isCharacter_23 hlocks
      · skip
        refine lv_iconst (v := 1) hx hb d_TH_isCharacter_18 (by decide) ?_
        refine lv_goto (tgt := 23) hx hb d_TH_isCharacter_19 (by decide) ?_
        exact W.zret hx hb hr rfl (fun t ht hW => ⟨(by first | simp [isCh, h1, h2, h3] | simp [isCh, h1, h2] | simp [isCh, h1]), ht⟩) (fun q h => by cases h) d_TH_isCharacter_23 hlocks
set_option maxHeartbeats 4000000 in
set_option maxRecDepth 100000 in
theorem c_MO_within (l : Launch) (D : va_G) (cI cL cZ cC : ClassId) (x : Int32) (a : Int32) (b : Int32) : Met l y_MO_within (wz y_MO_within b_MO_within 3 (some .boolean)) ({ frames := 0, cells := 0, slots := 0, locals := 0 }) (va_Pc [.int x, .int a, .int b] (wq_pre D (tys4 cI cL cZ cC) [])) (QcRead (wi x a b)) 0 0 (fun _ => False) := by
  refine Met.ofW (cc := b_MO_within) (maxL := 3) (ret := (some .boolean)) (by decide) rfl ?_
  intro p e s m args below meth c s₁ B hml hv
  obtain ⟨rfl, hP, hK⟩ := hv
  have hx := B.exec
  have hb := B.bytes
  have hr := B.returns
  have hts := atoms_spec (ws := wz y_MO_within b_MO_within 3 (some .boolean)) B.pre
  have hG := wz_G hts
  have hown : s.vm.findClass rn_MO = some m.cls := findClass_of_methodNamed B.named
  have hlocks := B.notSynchronized
  have hl := lv_entry ([.int x, .int a, .int b]) (n := 3) (Nat.le_of_ble_eq_true rfl)
  rw [lg_entry_eq]
  generalize (lg_sl ([.int x, .int a, .int b]) ++ List.replicate (3 - (lg_sl ([.int x, .int a, .int b])).length) Slot.unset).toArray = ls at hl ⊢
  have hl : lv_has ls 3 [(0, .int x), (1, .int a), (2, .int b)] := hl
  refine lv_iload_n hx hb d_MO_within_0 rfl (lv_at hl 0 rfl) ?_
  refine lv_iload_n hx hb d_MO_within_1 rfl (lv_at hl 1 rfl) ?_
  refine lv_icmp_lt (tgt := 14) hx hb d_MO_within_2 (by decide) (fun h1 => ?_) (fun h1 => ?_)
  · skip
    refine lv_iconst (v := 0) hx hb d_MO_within_14 (by decide) ?_
    exact W.zret hx hb hr rfl (fun t ht hW => ⟨(by first | simp [wi, h1, h2, h3] | simp [wi, h1, h2] | simp [wi, h1]), ht⟩) (fun q h => by cases h) d_MO_within_15 hlocks
  · skip
    refine lv_iload_n hx hb d_MO_within_5 rfl (lv_at hl 0 rfl) ?_
    refine lv_iload_n hx hb d_MO_within_6 rfl (lv_at hl 2 rfl) ?_
    refine lv_icmp_gt (tgt := 14) hx hb d_MO_within_7 (by decide) (fun h2 => ?_) (fun h2 => ?_)
    · skip
      refine lv_iconst (v := 0) hx hb d_MO_within_14 (by decide) ?_
      exact W.zret hx hb hr rfl (fun t ht hW => ⟨(by first | simp [wi, h1, h2, h3] | simp [wi, h1, h2] | simp [wi, h1]), ht⟩) (fun q h => by cases h) d_MO_within_15 hlocks
    · skip
      refine lv_iconst (v := 1) hx hb d_MO_within_10 (by decide) ?_
      refine lv_goto (tgt := 15) hx hb d_MO_within_11 (by decide) ?_
      exact W.zret hx hb hr rfl (fun t ht hW => ⟨(by first | simp [wi, h1, h2, h3] | simp [wi, h1, h2] | simp [wi, h1]), ht⟩) (fun q h => by cases h) d_MO_within_15 hlocks
