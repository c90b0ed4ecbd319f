def rk (o : Int32) : Int32 := if o = 16 then 1 else if o = 14 ∨ o = 15 then 2 else if o = 13 then 4 else 3

set_option maxHeartbeats 8000000 in
set_option maxRecDepth 100000 in
theorem mo_rank (l : Launch) (D : va_G) (cI cL cZ cC : ClassId) (o : Int32) : Met l y_MO_rank (wz y_MO_rank b_MO_rank 1 (some .int)) ({ frames := 0, cells := 0, slots := 0, locals := 0 }) (va_Pc [.int o] (wq_pre D (tys4 cI cL cZ cC) [])) (QcRead (rk o)) 0 0 (fun _ => False) := by
  refine Met.ofW (cc := b_MO_rank) (maxL := 1) (ret := (some .int)) (by decide) rfl ?_
  intro p e s m args below meth c s₁ B hml hv
  obtain ⟨rfl, hP, hK⟩ := hv
  have hx := B.exec
  have hb := B.bytes
  have hr := B.returns
  have hts := atoms_spec (ws := wz y_MO_rank b_MO_rank 1 (some .int)) B.pre
  have hG := wz_G hts
  have hown : s.vm.findClass rn_MO = some m.cls := findClass_of_methodNamed B.named
  have hlocks := B.notSynchronized
  have hl := lv_entry ([.int o]) (n := 1) (Nat.le_of_ble_eq_true rfl)
  rw [lg_entry_eq]
  generalize (lg_sl ([.int o]) ++ List.replicate (1 - (lg_sl ([.int o])).length) Slot.unset).toArray = ls at hl ⊢
  have hl : lv_has ls 1 [(0, .int o)] := hl
  refine lv_iload_n hx hb d_MO_rank_0 rfl (lv_at hl 0 rfl) ?_
  refine lv_bipush (v := 16) hx hb d_MO_rank_1 (by decide) ?_
  refine lv_icmp_ne (tgt := 10) hx hb d_MO_rank_3 (by decide) (fun hb_1 => ?_) (fun hb_1 => ?_)
  · skip
    refine lv_iload_n hx hb d_MO_rank_10 rfl (lv_at hl 0 rfl) ?_
    refine lv_bipush (v := 14) hx hb d_MO_rank_11 (by decide) ?_
    refine lv_icmp_eq (tgt := 22) hx hb d_MO_rank_13 (by decide) (fun hb_2 => ?_) (fun hb_2 => ?_)
    · skip
      refine lv_iconst (v := 2) hx hb d_MO_rank_22 (by decide) ?_
      refine lv_goto (tgt := 37) hx hb d_MO_rank_23 (by decide) ?_
      exact W.iret hx hb hr (fun t ht hW => ⟨by rw [show rk o = 2 by simp [rk, *]], ht⟩) (fun q h => by cases h) d_MO_rank_37 hlocks
    · skip
      refine lv_iload_n hx hb d_MO_rank_16 rfl (lv_at hl 0 rfl) ?_
      refine lv_bipush (v := 15) hx hb d_MO_rank_17 (by decide) ?_
      refine lv_icmp_ne (tgt := 26) hx hb d_MO_rank_19 (by decide) (fun hb_3 => ?_) (fun hb_3 => ?_)
      · skip
        refine lv_iload_n hx hb d_MO_rank_26 rfl (lv_at hl 0 rfl) ?_
        refine lv_bipush (v := 13) hx hb d_MO_rank_27 (by decide) ?_
        refine lv_icmp_ne (tgt := 36) hx hb d_MO_rank_29 (by decide) (fun hb_4 => ?_) (fun hb_4 => ?_)
        · skip
          refine lv_iconst (v := 3) hx hb d_MO_rank_36 (by decide) ?_
          exact W.iret hx hb hr (fun t ht hW => ⟨by rw [show rk o = 3 by simp [rk, *]], ht⟩) (fun q h => by cases h) d_MO_rank_37 hlocks
        · skip
          refine lv_iconst (v := 4) hx hb d_MO_rank_32 (by decide) ?_
          refine lv_goto (tgt := 37) hx hb d_MO_rank_33 (by decide) ?_
          exact W.iret hx hb hr (fun t ht hW => ⟨by rw [show rk o = 4 by simp [rk, *]], ht⟩) (fun q h => by cases h) d_MO_rank_37 hlocks
      · skip
        refine lv_iconst (v := 2) hx hb d_MO_rank_22 (by decide) ?_
        refine lv_goto (tgt := 37) hx hb d_MO_rank_23 (by decide) ?_
        exact W.iret hx hb hr (fun t ht hW => ⟨by rw [show rk o = 2 by simp [rk, *]], ht⟩) (fun q h => by cases h) d_MO_rank_37 hlocks
  · skip
    refine lv_iconst (v := 1) hx hb d_MO_rank_6 (by decide) ?_
    refine lv_goto (tgt := 37) hx hb d_MO_rank_7 (by decide) ?_
    exact W.iret hx hb hr (fun t ht hW => ⟨by rw [show rk o = 1 by simp [rk, *]], ht⟩) (fun q h => by cases h) d_MO_rank_37 hlocks
set_option maxHeartbeats 8000000 in
set_option maxRecDepth 100000 in
theorem mo_operator (l : Launch) (D : va_G) (cI cL cZ cC : ClassId) (f : Nat → Nat) (h0 : Nat) (tn : Int32) (rm : Nat) (ln : Nat) (lx : Nat) (at_ : Nat) (bd : Int32) (fs : Nat) (dp : Nat) (on : Nat) (os : Nat) (bn : Nat) (df : Nat) (th : Int32) (tp : Nat) (mo_ : Int32) (ev : Nat) (ss : Int32) (so : Int32) (lk : Int64) (rs : Int64) (pt : Int32) (ot : Nat) (cl : Int32) (le : Nat → Int64) (ri : Nat → Int64) (opd : Nat → Int64) (opr : Nat → Int32) (rdy : Nat → Int32) (fr : Nat → Int32) (srt : Nat → Int32) (bas : Nat → Int32) (fst : Nat → Int32) (Bc : Nat → Nat) (le0 : Nat → Int64) (ri0 : Nat → Int64) (Q : Nat → Int64 → Prop) (b0 : Nat) (St : Nat → Tr) (m1 : Nat) (ob : Nat) (v : Nat) (sz : Nat) (hrdy : bln rdy) (hfr : rng 2000 fr) (hRX : RX Bc le0 ri0 Q b0 srt bas fst rdy opr opd le ri fr fs on os bn St (dp - 1) m1 ob 1) (hB : ∀ c, Bc c ≤ 1) (hdp1 : 1 ≤ dp) (hdp2 : dp ≤ 9) (hon : on ≤ 101) (hos : os ≤ 101) (hv1 : 11 ≤ v) (hv2 : v ≤ 16) (hQ : ∀ (b c : Nat), 2 ≤ c → c ≤ 22 → Q b (wof 2 (nI c))) (hbo : bdo bd) (hnt : l.stackTraces = false) : em_Met l y_MO_operator (wz y_MO_operator b_MO_operator 4 none) ({ frames := 4, cells := 0, slots := 0, locals := 90 }) (va_Pc [.ref h0, .int (nI v)] (tw_pre D (tys4 cI cL cZ cC) [(h0, .inr (8, mS f tn rm ln lx at_ bd fs dp on os bn df th tp mo_ ev ss so lk rs pt ot cl)), ((f 3), .inl (cL, 2000, .inr (.inl le))), ((f 4), .inl (cL, 2000, .inr (.inl ri))), ((f 14), .inl (cL, 120, .inr (.inl opd))), ((f 15), .inl (cI, 120, .inl opr)), ((f 12), .inl (cZ, 9, .inl rdy)), ((f 5), .inl (cI, 2000, .inl fr)), ((f 9), .inl (cI, 9, .inl srt)), ((f 10), .inl (cI, 9, .inl bas)), ((f 11), .inl (cI, 9, .inl fst))] sz)) D (tys4 cI cL cZ cC) (va_A [(h0, .inr (8, mS f tn rm ln lx at_ bd fs dp on os bn df th tp mo_ ev ss so lk rs pt ot cl)), ((f 3), .inl (cL, 2000, .inr (.inl le))), ((f 4), .inl (cL, 2000, .inr (.inl ri))), ((f 14), .inl (cL, 120, .inr (.inl opd))), ((f 15), .inl (cI, 120, .inl opr)), ((f 12), .inl (cZ, 9, .inl rdy)), ((f 5), .inl (cI, 2000, .inl fr)), ((f 9), .inl (cI, 9, .inl srt)), ((f 10), .inl (cI, 9, .inl bas)), ((f 11), .inl (cI, 9, .inl fst))] sz) (fun (u : Int32 × Nat × Nat × Nat × Nat × (Nat → Int64) × (Nat → Int64) × (Nat → Int64) × (Nat → Int32) × (Nat → Int32)) => [(h0, .inr (8, mS f tn rm ln lx u.2.2.2.2.1 u.1 u.2.1 dp u.2.2.1 u.2.2.2.1 bn df th tp mo_ ev ss so lk rs pt ot cl)), ((f 3), .inl (cL, 2000, .inr (.inl u.2.2.2.2.2.1))), ((f 4), .inl (cL, 2000, .inr (.inl u.2.2.2.2.2.2.1))), ((f 14), .inl (cL, 120, .inr (.inl u.2.2.2.2.2.2.2.1))), ((f 15), .inl (cI, 120, .inl u.2.2.2.2.2.2.2.2.1)), ((f 12), .inl (cZ, 9, .inl u.2.2.2.2.2.2.2.2.2)), ((f 5), .inl (cI, 2000, .inl fr)), ((f 9), .inl (cI, 9, .inl srt)), ((f 10), .inl (cI, 9, .inl bas)), ((f 11), .inl (cI, 9, .inl fst))]) (fun v (u : Int32 × Nat × Nat × Nat × Nat × (Nat → Int64) × (Nat → Int64) × (Nat → Int64) × (Nat → Int32) × (Nat → Int32)) => v = none ∧ ((bln u.2.2.2.2.2.2.2.2.2) ∧ (u.1 = 0 → bd = 0) ∧ (bdo u.1) ∧ (u.2.2.2.2.1 = at_ + 1) ∧ (u.2.2.1 ≤ on) ∧ (u.2.2.2.1 ≤ os + 1) ∧ (∃ St' : Nat → Tr, RX Bc le0 ri0 Q b0 srt bas fst u.2.2.2.2.2.2.2.2.2 u.2.2.2.2.2.2.2.2.1 u.2.2.2.2.2.2.2.1 u.2.2.2.2.2.1 u.2.2.2.2.2.2.1 fr u.2.1 u.2.2.1 u.2.2.2.1 bn St' (dp - 1) m1 ob 0))) (fun C (u : Int32 × Nat × Nat × Nat × Nat × (Nat → Int64) × (Nat → Int64) × (Nat → Int64) × (Nat → Int32) × (Nat → Int32)) => False) 0 0 := by
  refine em_Met.ofW (cc := b_MO_operator) (maxL := 4) (ret := none) (by decide) rfl ?_
  intro p e s m args below meth c s₁ B hml hv hno
  obtain ⟨rfl, ⟨hsz, hP, hK, hD0⟩, hE⟩ := hv
  have hx := B.exec
  have hb := B.bytes
  have hr := B.returns
  have hts := atoms_spec (ws := wz y_MO_operator b_MO_operator 4 none) B.pre
  have hG := wz_G hts
  have hown : s.vm.findClass rn_MO = some m.cls := findClass_of_methodNamed B.named
  have hlocks := B.notSynchronized
  subst hsz
  have hD := hD0.self (sz := s.heap.size)
  have hst := tw_st hP
  generalize hAe : va_A [(h0, .inr (8, mS f tn rm ln lx at_ bd fs dp on os bn df th tp mo_ ev ss so lk rs pt ot cl)), ((f 3), .inl (cL, 2000, .inr (.inl le))), ((f 4), .inl (cL, 2000, .inr (.inl ri))), ((f 14), .inl (cL, 120, .inr (.inl opd))), ((f 15), .inl (cI, 120, .inl opr)), ((f 12), .inl (cZ, 9, .inl rdy)), ((f 5), .inl (cI, 2000, .inl fr)), ((f 9), .inl (cI, 9, .inl srt)), ((f 10), .inl (cI, 9, .inl bas)), ((f 11), .inl (cI, 9, .inl fst))] s.heap.size = A at hD hst ⊢
  have hA : ∀ q : Nat, s.heap.size ≤ q → A q := fun q h => by rw [← hAe]; exact Or.inr h
  have hS : va_S A s.heap s.heap [] := va_S.rf
  have hl := lv_entry ([.ref h0, .int (nI v)]) (n := 4) (Nat.le_of_ble_eq_true rfl)
  rw [lg_entry_eq]
  generalize (lg_sl ([.ref h0, .int (nI v)]) ++ List.replicate (4 - (lg_sl ([.ref h0, .int (nI v)])).length) Slot.unset).toArray = ls at hl ⊢
  have hl : lv_has ls 4 [(0, .ref h0), (1, .int (nI v))] := hl
  obtain ⟨hPS, hOT, hAC, hAG, hOP⟩ := id hRX
  obtain ⟨hLv, hn1, hn2, hn3, hn4, hn5⟩ := id hPS
  have loop_2 : ∀ (k_1 : Nat) (bd1 : Int32) (fs1 : Nat) (on1 : Nat) (os1 : Nat) (le1 : Nat → Int64) (ri1 : Nat → Int64) (opd1 : Nat → Int64) (H : Heap) (locs : List Loc) (ls : Array Slot), os1 < k_1 → (on1 ≤ on) → (os1 ≤ os) → (ob ≤ os1) → (bd1 = 0 → bd = 0) → (bdo bd1) → (∃ St1, RX Bc le0 ri0 Q b0 srt bas fst rdy opr opd1 le1 ri1 fr fs1 on1 os1 bn St1 (dp - 1) m1 ob 1) → lv_has ls 4 [(0, .ref h0), (1, .int (nI v)), (2, .int (nI (dp - 1))), (3, .int (rk (nI v)))] → va_P D classes [(h0, .inr (8, mS f tn rm ln lx at_ bd1 fs1 dp on1 os1 bn df th tp mo_ ev ss so lk rs pt ot cl)), ((f 3), .inl (cL, 2000, .inr (.inl le1))), ((f 4), .inl (cL, 2000, .inr (.inl ri1))), ((f 14), .inl (cL, 120, .inr (.inl opd1))), ((f 15), .inl (cI, 120, .inl opr)), ((f 12), .inl (cZ, 9, .inl rdy)), ((f 5), .inl (cI, 2000, .inl fr)), ((f 9), .inl (cI, 9, .inl srt)), ((f 10), .inl (cI, 9, .inl bas)), ((f 11), .inl (cI, 9, .inl fst))] H → va_D A [(h0, .inr (8, mS f tn rm ln lx at_ bd1 fs1 dp on1 os1 bn df th tp mo_ ev ss so lk rs pt ot cl)), ((f 3), .inl (cL, 2000, .inr (.inl le1))), ((f 4), .inl (cL, 2000, .inr (.inl ri1))), ((f 14), .inl (cL, 120, .inr (.inl opd1))), ((f 15), .inl (cI, 120, .inl opr)), ((f 12), .inl (cZ, 9, .inl rdy)), ((f 5), .inl (cI, 2000, .inl fr)), ((f 9), .inl (cI, 9, .inl srt)), ((f 10), .inl (cI, 9, .inl bas)), ((f 11), .inl (cI, 9, .inl fst))] → va_S A s.heap H locs → W p l e (headSpec (wz y_MO_operator b_MO_operator 4 none) ({ frames := 4, cells := 0, slots := 0, locals := 90 })).room s m ([.ref h0, .int (nI v)] : List Value).toArray below meth c H locs 0 0 (em_MQ below D (tys4 cI cL cZ cC) A (fun (u : Int32 × Nat × Nat × Nat × Nat × (Nat → Int64) × (Nat → Int64) × (Nat → Int64) × (Nat → Int32) × (Nat → Int32)) => [(h0, .inr (8, mS f tn rm ln lx u.2.2.2.2.1 u.1 u.2.1 dp u.2.2.1 u.2.2.2.1 bn df th tp mo_ ev ss so lk rs pt ot cl)), ((f 3), .inl (cL, 2000, .inr (.inl u.2.2.2.2.2.1))), ((f 4), .inl (cL, 2000, .inr (.inl u.2.2.2.2.2.2.1))), ((f 14), .inl (cL, 120, .inr (.inl u.2.2.2.2.2.2.2.1))), ((f 15), .inl (cI, 120, .inl u.2.2.2.2.2.2.2.2.1)), ((f 12), .inl (cZ, 9, .inl u.2.2.2.2.2.2.2.2.2)), ((f 5), .inl (cI, 2000, .inl fr)), ((f 9), .inl (cI, 9, .inl srt)), ((f 10), .inl (cI, 9, .inl bas)), ((f 11), .inl (cI, 9, .inl fst))]) (fun v (u : Int32 × Nat × Nat × Nat × Nat × (Nat → Int64) × (Nat → Int64) × (Nat → Int64) × (Nat → Int32) × (Nat → Int32)) => v = none ∧ ((bln u.2.2.2.2.2.2.2.2.2) ∧ (u.1 = 0 → bd = 0) ∧ (bdo u.1) ∧ (u.2.2.2.2.1 = at_ + 1) ∧ (u.2.2.1 ≤ on) ∧ (u.2.2.2.1 ≤ os + 1) ∧ (∃ St' : Nat → Tr, RX Bc le0 ri0 Q b0 srt bas fst u.2.2.2.2.2.2.2.2.2 u.2.2.2.2.2.2.2.2.1 u.2.2.2.2.2.2.2.1 u.2.2.2.2.2.1 u.2.2.2.2.2.2.1 fr u.2.1 u.2.2.1 u.2.2.2.1 bn St' (dp - 1) m1 ob 0))) (fun C (u : Int32 × Nat × Nat × Nat × Nat × (Nat → Int64) × (Nat → Int64) × (Nat → Int64) × (Nat → Int32) × (Nat → Int32)) => False) s 0 0) (F0 m 12 ls []) := by
    intro k_1
    induction k_1 with
    | zero => intro bd1 fs1 on1 os1 le1 ri1 opd1 H locs ls hm; exact absurd hm (Nat.not_lt_zero _)
    | succ k_1 ih_3 =>
      intro bd1 fs1 on1 os1 le1 ri1 opd1 H locs ls hm hon1 hos1 hob1 hbz1 hbo1 hR hl hP hD hS
      obtain ⟨St1, hRX1⟩ := hR
      refine lv_aload_n hx hb d_MO_operator_12 rfl (lv_at hl 0 rfl) ?_
      refine va_get (D := D) (ci := 8) (v := .int (nI os1)) (C := rn_MO) (T := fl_MO) (N := 55) hx hb hG in_MO hown hK hP 0 rfl rfl 18 (by decide) (hG _ k_1209) (fun _ h9 => h9) rfl d_MO_operator_13 ?_
      refine lv_aload_n hx hb d_MO_operator_16 rfl (lv_at hl 0 rfl) ?_
      refine va_get (D := D) (ci := 8) (v := .ref (f 10)) (C := rn_MO) (T := fl_MO) (N := 55) hx hb hG in_MO hown hK hP 0 rfl rfl 21 (by decide) (hG _ k_1212) (fun _ h9 => h9) rfl d_MO_operator_17 ?_
      refine lv_iload_n hx hb d_MO_operator_20 rfl (lv_at hl 2 rfl) ?_
      refine va_iald hx hb hK hP 8 0 rfl rfl (vp_in_nI (n := dp - 1) (N := 9) (by omega) (by omega)) d_MO_operator_21 ?_
      refine W.eq (g2 := F0 m 22 ls [.int (nI ob), .int (nI os1)]) (by rw [nI_clamp (n := dp - 1) (by omega)]; rw [PS_bas hPS]) ?_
      refine lv_icmp_le (tgt := 73) hx hb d_MO_operator_22 (by decide) (fun hb_4 => ?_) (fun hb_4 => ?_)
      · skip
        have hn_5 : os1 ≤ ob := (nI_leI (a := os1) (b := ob) (by omega) (by omega)).mp hb_4
        refine lv_iload_n hx hb d_MO_operator_73 rfl (lv_at hl 3 rfl) ?_
        refine lv_iconst (v := 2) hx hb d_MO_operator_74 (by decide) ?_
        refine lv_icmp_ne (tgt := 114) hx hb d_MO_operator_75 (by decide) (fun hb_6 => ?_) (fun hb_6 => ?_)
        · skip
          refine lv_aload_n hx hb d_MO_operator_114 rfl (lv_at hl 0 rfl) ?_
          refine va_get (D := D) (ci := 8) (v := .ref (f 15)) (C := rn_MO) (T := fl_MO) (N := 55) hx hb hG in_MO hown hK hP 0 rfl rfl 26 (by decide) (hG _ k_1217) (fun _ h9 => h9) rfl d_MO_operator_115 ?_
          refine lv_aload_n hx hb d_MO_operator_118 rfl (lv_at hl 0 rfl) ?_
          refine va_get (D := D) (ci := 8) (v := .int (nI os1)) (C := rn_MO) (T := fl_MO) (N := 55) hx hb hG in_MO hown hK hP 0 rfl rfl 18 (by decide) (hG _ k_1209) (fun _ h9 => h9) rfl d_MO_operator_119 ?_
          refine lv_iload_n hx hb d_MO_operator_122 rfl (lv_at hl 1 rfl) ?_
          refine va_iast hx hb hK hP hD hS 4 0 rfl rfl (vp_in_nI (n := os1) (N := 120) (by omega) (by omega)) d_MO_operator_123 (fun H locs hP hD hS => ?_)
          have hP : va_P D classes [(h0, .inr (8, mS f tn rm ln lx at_ bd1 fs1 dp on1 os1 bn df th tp mo_ ev ss so lk rs pt ot cl)), ((f 3), .inl (cL, 2000, .inr (.inl le1))), ((f 4), .inl (cL, 2000, .inr (.inl ri1))), ((f 14), .inl (cL, 120, .inr (.inl opd1))), ((f 15), .inl (cI, 120, .inl (upd opr (nI os1).toNatClampNeg (nI v)))), ((f 12), .inl (cZ, 9, .inl rdy)), ((f 5), .inl (cI, 2000, .inl fr)), ((f 9), .inl (cI, 9, .inl srt)), ((f 10), .inl (cI, 9, .inl bas)), ((f 11), .inl (cI, 9, .inl fst))] H := hP
          have hD : va_D A [(h0, .inr (8, mS f tn rm ln lx at_ bd1 fs1 dp on1 os1 bn df th tp mo_ ev ss so lk rs pt ot cl)), ((f 3), .inl (cL, 2000, .inr (.inl le1))), ((f 4), .inl (cL, 2000, .inr (.inl ri1))), ((f 14), .inl (cL, 120, .inr (.inl opd1))), ((f 15), .inl (cI, 120, .inl (upd opr (nI os1).toNatClampNeg (nI v)))), ((f 12), .inl (cZ, 9, .inl rdy)), ((f 5), .inl (cI, 2000, .inl fr)), ((f 9), .inl (cI, 9, .inl srt)), ((f 10), .inl (cI, 9, .inl bas)), ((f 11), .inl (cI, 9, .inl fst))] := hD
          obtain ⟨g_7, eg_7⟩ : ∃ z, z = upd opr os1 (nI v) := ⟨_, rfl⟩
          rw [nI_clamp (n := os1) (by omega), ← eg_7] at hP hD
          refine lv_aload_n hx hb d_MO_operator_124 rfl (lv_at hl 0 rfl) ?_
          refine lv_dup hx hb d_MO_operator_125 rfl ?_
          refine va_get (D := D) (ci := 8) (v := .int (nI os1)) (C := rn_MO) (T := fl_MO) (N := 55) hx hb hG in_MO hown hK hP 0 rfl rfl 18 (by decide) (hG _ k_1209) (fun _ h9 => h9) rfl d_MO_operator_126 ?_
          refine lv_iconst (v := 1) hx hb d_MO_operator_129 (by decide) ?_
          refine lw_iadd (a := os1) (b := 1) hx hb d_MO_operator_130 ?_
          refine va_put (D := D) (ci := 8) (v := .int (nI (os1 + 1))) (ty := .int) (C := rn_MO) (T := fl_MO) (N := 55) hx hb hG in_MO tt_MO tk_MO nn_MO hown hK hP hD hS 0 rfl rfl 18 (by decide) (hG _ k_1209) (fun _ h9 => h9) rfl (by decide +kernel) rfl rfl (Nat.le_of_ble_eq_true rfl) d_MO_operator_131 (fun H locs hP hD hS => ?_)
          have hP : va_P D classes [(h0, .inr (8, mS f tn rm ln lx at_ bd1 fs1 dp on1 (os1 + 1) bn df th tp mo_ ev ss so lk rs pt ot cl)), ((f 3), .inl (cL, 2000, .inr (.inl le1))), ((f 4), .inl (cL, 2000, .inr (.inl ri1))), ((f 14), .inl (cL, 120, .inr (.inl opd1))), ((f 15), .inl (cI, 120, .inl g_7)), ((f 12), .inl (cZ, 9, .inl rdy)), ((f 5), .inl (cI, 2000, .inl fr)), ((f 9), .inl (cI, 9, .inl srt)), ((f 10), .inl (cI, 9, .inl bas)), ((f 11), .inl (cI, 9, .inl fst))] H := hP
          have hD : va_D A [(h0, .inr (8, mS f tn rm ln lx at_ bd1 fs1 dp on1 (os1 + 1) bn df th tp mo_ ev ss so lk rs pt ot cl)), ((f 3), .inl (cL, 2000, .inr (.inl le1))), ((f 4), .inl (cL, 2000, .inr (.inl ri1))), ((f 14), .inl (cL, 120, .inr (.inl opd1))), ((f 15), .inl (cI, 120, .inl g_7)), ((f 12), .inl (cZ, 9, .inl rdy)), ((f 5), .inl (cI, 2000, .inl fr)), ((f 9), .inl (cI, 9, .inl srt)), ((f 10), .inl (cI, 9, .inl bas)), ((f 11), .inl (cI, 9, .inl fst))] := hD
          refine lv_aload_n hx hb d_MO_operator_134 rfl (lv_at hl 0 rfl) ?_
          refine va_get (D := D) (ci := 8) (v := .ref (f 12)) (C := rn_MO) (T := fl_MO) (N := 55) hx hb hG in_MO hown hK hP 0 rfl rfl 23 (by decide) (hG _ k_1214) (fun _ h9 => h9) rfl d_MO_operator_135 ?_
          refine lv_iload_n hx hb d_MO_operator_138 rfl (lv_at hl 2 rfl) ?_
          refine lv_iconst (v := 0) hx hb d_MO_operator_139 (by decide) ?_
          refine va_zast hx hb hK hP hD hS 5 2 rfl rfl (vp_in_nI (n := dp - 1) (N := 9) (by omega) (by omega)) d_MO_operator_140 (fun H locs hP hD hS => ?_)
          have hP : va_P D classes [(h0, .inr (8, mS f tn rm ln lx at_ bd1 fs1 dp on1 (os1 + 1) bn df th tp mo_ ev ss so lk rs pt ot cl)), ((f 3), .inl (cL, 2000, .inr (.inl le1))), ((f 4), .inl (cL, 2000, .inr (.inl ri1))), ((f 14), .inl (cL, 120, .inr (.inl opd1))), ((f 15), .inl (cI, 120, .inl g_7)), ((f 12), .inl (cZ, 9, .inl (upd rdy (nI (dp - 1)).toNatClampNeg (vp_nar .boolean 0)))), ((f 5), .inl (cI, 2000, .inl fr)), ((f 9), .inl (cI, 9, .inl srt)), ((f 10), .inl (cI, 9, .inl bas)), ((f 11), .inl (cI, 9, .inl fst))] H := hP
          have hD : va_D A [(h0, .inr (8, mS f tn rm ln lx at_ bd1 fs1 dp on1 (os1 + 1) bn df th tp mo_ ev ss so lk rs pt ot cl)), ((f 3), .inl (cL, 2000, .inr (.inl le1))), ((f 4), .inl (cL, 2000, .inr (.inl ri1))), ((f 14), .inl (cL, 120, .inr (.inl opd1))), ((f 15), .inl (cI, 120, .inl g_7)), ((f 12), .inl (cZ, 9, .inl (upd rdy (nI (dp - 1)).toNatClampNeg (vp_nar .boolean 0)))), ((f 5), .inl (cI, 2000, .inl fr)), ((f 9), .inl (cI, 9, .inl srt)), ((f 10), .inl (cI, 9, .inl bas)), ((f 11), .inl (cI, 9, .inl fst))] := hD
          obtain ⟨g_8, eg_8⟩ : ∃ z, z = upd rdy (dp - 1) 0 := ⟨_, rfl⟩
          rw [nI_clamp (n := dp - 1) (by omega), nar_b (Or.inl rfl), ← eg_8] at hP hD
          have hg_8 : bln g_8 := by rw [eg_8]; exact bln_ub hrdy (Or.inl rfl)
          refine lv_aload_n hx hb d_MO_operator_141 rfl (lv_at hl 0 rfl) ?_
          refine lv_dup hx hb d_MO_operator_142 rfl ?_
          refine va_get (D := D) (ci := 8) (v := .int (nI at_)) (C := rn_MO) (T := fl_MO) (N := 55) hx hb hG in_MO hown hK hP 0 rfl rfl 5 (by decide) (hG _ k_1196) (fun _ h9 => h9) rfl d_MO_operator_143 ?_
          refine lv_iconst (v := 1) hx hb d_MO_operator_146 (by decide) ?_
          refine lw_iadd (a := at_) (b := 1) hx hb d_MO_operator_147 ?_
          refine va_put (D := D) (ci := 8) (v := .int (nI (at_ + 1))) (ty := .int) (C := rn_MO) (T := fl_MO) (N := 55) hx hb hG in_MO tt_MO tk_MO nn_MO hown hK hP hD hS 0 rfl rfl 5 (by decide) (hG _ k_1196) (fun _ h9 => h9) rfl (by decide +kernel) rfl rfl (Nat.le_of_ble_eq_true rfl) d_MO_operator_148 (fun H locs hP hD hS => ?_)
          have hP : va_P D classes [(h0, .inr (8, mS f tn rm ln lx (at_ + 1) bd1 fs1 dp on1 (os1 + 1) bn df th tp mo_ ev ss so lk rs pt ot cl)), ((f 3), .inl (cL, 2000, .inr (.inl le1))), ((f 4), .inl (cL, 2000, .inr (.inl ri1))), ((f 14), .inl (cL, 120, .inr (.inl opd1))), ((f 15), .inl (cI, 120, .inl g_7)), ((f 12), .inl (cZ, 9, .inl g_8)), ((f 5), .inl (cI, 2000, .inl fr)), ((f 9), .inl (cI, 9, .inl srt)), ((f 10), .inl (cI, 9, .inl bas)), ((f 11), .inl (cI, 9, .inl fst))] H := hP
          have hD : va_D A [(h0, .inr (8, mS f tn rm ln lx (at_ + 1) bd1 fs1 dp on1 (os1 + 1) bn df th tp mo_ ev ss so lk rs pt ot cl)), ((f 3), .inl (cL, 2000, .inr (.inl le1))), ((f 4), .inl (cL, 2000, .inr (.inl ri1))), ((f 14), .inl (cL, 120, .inr (.inl opd1))), ((f 15), .inl (cI, 120, .inl g_7)), ((f 12), .inl (cZ, 9, .inl g_8)), ((f 5), .inl (cI, 2000, .inl fr)), ((f 9), .inl (cI, 9, .inl srt)), ((f 10), .inl (cI, 9, .inl bas)), ((f 11), .inl (cI, 9, .inl fst))] := hD
          exact em_vret hx hb hr hlocks hP hD hK hS (bd1, fs1, on1, os1 + 1, at_ + 1, le1, ri1, opd1, g_7, g_8) [0, 1, 2, 3, 4, 5, 6, 7, 8, 9] (by decide) rfl ⟨rfl, ⟨hg_8, (show bd1 = 0 → bd = 0 from (by first | exact id | exact (fun q => absurd q (by assumption)) | exact (fun q => hbz1 q))), (show bdo bd1 from (by first | assumption | omega | exact Or.inl rfl)), (show (at_ + 1) = at_ + 1 from rfl), (show on1 ≤ on from (by first | assumption | omega | exact Or.inl rfl)), (show (os1 + 1) ≤ os + 1 from (by first | assumption | omega | exact Or.inl rfl)), (show ∃ St' : Nat → Tr, RX Bc le0 ri0 Q b0 srt bas fst g_8 g_7 opd1 le1 ri1 fr fs1 on1 (os1 + 1) bn St' (dp - 1) m1 ob 0 from (by subst eg_8 eg_7; exact ⟨St1, RX_op hRX1 (by omega) (by omega)⟩))⟩⟩ d_MO_operator_151
        · skip
          refine lv_aload_n hx hb d_MO_operator_78 rfl (lv_at hl 0 rfl) ?_
          refine va_get (D := D) (ci := 8) (v := .int (nI os1)) (C := rn_MO) (T := fl_MO) (N := 55) hx hb hG in_MO hown hK hP 0 rfl rfl 18 (by decide) (hG _ k_1209) (fun _ h9 => h9) rfl d_MO_operator_79 ?_
          refine lv_aload_n hx hb d_MO_operator_82 rfl (lv_at hl 0 rfl) ?_
          refine va_get (D := D) (ci := 8) (v := .ref (f 10)) (C := rn_MO) (T := fl_MO) (N := 55) hx hb hG in_MO hown hK hP 0 rfl rfl 21 (by decide) (hG _ k_1212) (fun _ h9 => h9) rfl d_MO_operator_83 ?_
          refine lv_iload_n hx hb d_MO_operator_86 rfl (lv_at hl 2 rfl) ?_
          refine va_iald hx hb hK hP 8 0 rfl rfl (vp_in_nI (n := dp - 1) (N := 9) (by omega) (by omega)) d_MO_operator_87 ?_
          refine W.eq (g2 := F0 m 88 ls [.int (nI ob), .int (nI os1)]) (by rw [nI_clamp (n := dp - 1) (by omega)]; rw [PS_bas hPS]) ?_
          refine lv_icmp_le (tgt := 114) hx hb d_MO_operator_88 (by decide) (fun hb_9 => ?_) (fun hb_9 => ?_)
          · skip
            have hn_10 : os1 ≤ ob := (nI_leI (a := os1) (b := ob) (by omega) (by omega)).mp hb_9
            refine lv_aload_n hx hb d_MO_operator_114 rfl (lv_at hl 0 rfl) ?_
            refine va_get (D := D) (ci := 8) (v := .ref (f 15)) (C := rn_MO) (T := fl_MO) (N := 55) hx hb hG in_MO hown hK hP 0 rfl rfl 26 (by decide) (hG _ k_1217) (fun _ h9 => h9) rfl d_MO_operator_115 ?_
            refine lv_aload_n hx hb d_MO_operator_118 rfl (lv_at hl 0 rfl) ?_
            refine va_get (D := D) (ci := 8) (v := .int (nI os1)) (C := rn_MO) (T := fl_MO) (N := 55) hx hb hG in_MO hown hK hP 0 rfl rfl 18 (by decide) (hG _ k_1209) (fun _ h9 => h9) rfl d_MO_operator_119 ?_
            refine lv_iload_n hx hb d_MO_operator_122 rfl (lv_at hl 1 rfl) ?_
            refine va_iast hx hb hK hP hD hS 4 0 rfl rfl (vp_in_nI (n := os1) (N := 120) (by omega) (by omega)) d_MO_operator_123 (fun H locs hP hD hS => ?_)
            have hP : va_P D classes [(h0, .inr (8, mS f tn rm ln lx at_ bd1 fs1 dp on1 os1 bn df th tp mo_ ev ss so lk rs pt ot cl)), ((f 3), .inl (cL, 2000, .inr (.inl le1))), ((f 4), .inl (cL, 2000, .inr (.inl ri1))), ((f 14), .inl (cL, 120, .inr (.inl opd1))), ((f 15), .inl (cI, 120, .inl (upd opr (nI os1).toNatClampNeg (nI v)))), ((f 12), .inl (cZ, 9, .inl rdy)), ((f 5), .inl (cI, 2000, .inl fr)), ((f 9), .inl (cI, 9, .inl srt)), ((f 10), .inl (cI, 9, .inl bas)), ((f 11), .inl (cI, 9, .inl fst))] H := hP
            have hD : va_D A [(h0, .inr (8, mS f tn rm ln lx at_ bd1 fs1 dp on1 os1 bn df th tp mo_ ev ss so lk rs pt ot cl)), ((f 3), .inl (cL, 2000, .inr (.inl le1))), ((f 4), .inl (cL, 2000, .inr (.inl ri1))), ((f 14), .inl (cL, 120, .inr (.inl opd1))), ((f 15), .inl (cI, 120, .inl (upd opr (nI os1).toNatClampNeg (nI v)))), ((f 12), .inl (cZ, 9, .inl rdy)), ((f 5), .inl (cI, 2000, .inl fr)), ((f 9), .inl (cI, 9, .inl srt)), ((f 10), .inl (cI, 9, .inl bas)), ((f 11), .inl (cI, 9, .inl fst))] := hD
            obtain ⟨g_11, eg_11⟩ : ∃ z, z = upd opr os1 (nI v) := ⟨_, rfl⟩
            rw [nI_clamp (n := os1) (by omega), ← eg_11] at hP hD
            refine lv_aload_n hx hb d_MO_operator_124 rfl (lv_at hl 0 rfl) ?_
            refine lv_dup hx hb d_MO_operator_125 rfl ?_
            refine va_get (D := D) (ci := 8) (v := .int (nI os1)) (C := rn_MO) (T := fl_MO) (N := 55) hx hb hG in_MO hown hK hP 0 rfl rfl 18 (by decide) (hG _ k_1209) (fun _ h9 => h9) rfl d_MO_operator_126 ?_
            refine lv_iconst (v := 1) hx hb d_MO_operator_129 (by decide) ?_
            refine lw_iadd (a := os1) (b := 1) hx hb d_MO_operator_130 ?_
            refine va_put (D := D) (ci := 8) (v := .int (nI (os1 + 1))) (ty := .int) (C := rn_MO) (T := fl_MO) (N := 55) hx hb hG in_MO tt_MO tk_MO nn_MO hown hK hP hD hS 0 rfl rfl 18 (by decide) (hG _ k_1209) (fun _ h9 => h9) rfl (by decide +kernel) rfl rfl (Nat.le_of_ble_eq_true rfl) d_MO_operator_131 (fun H locs hP hD hS => ?_)
            have hP : va_P D classes [(h0, .inr (8, mS f tn rm ln lx at_ bd1 fs1 dp on1 (os1 + 1) bn df th tp mo_ ev ss so lk rs pt ot cl)), ((f 3), .inl (cL, 2000, .inr (.inl le1))), ((f 4), .inl (cL, 2000, .inr (.inl ri1))), ((f 14), .inl (cL, 120, .inr (.inl opd1))), ((f 15), .inl (cI, 120, .inl g_11)), ((f 12), .inl (cZ, 9, .inl rdy)), ((f 5), .inl (cI, 2000, .inl fr)), ((f 9), .inl (cI, 9, .inl srt)), ((f 10), .inl (cI, 9, .inl bas)), ((f 11), .inl (cI, 9, .inl fst))] H := hP
            have hD : va_D A [(h0, .inr (8, mS f tn rm ln lx at_ bd1 fs1 dp on1 (os1 + 1) bn df th tp mo_ ev ss so lk rs pt ot cl)), ((f 3), .inl (cL, 2000, .inr (.inl le1))), ((f 4), .inl (cL, 2000, .inr (.inl ri1))), ((f 14), .inl (cL, 120, .inr (.inl opd1))), ((f 15), .inl (cI, 120, .inl g_11)), ((f 12), .inl (cZ, 9, .inl rdy)), ((f 5), .inl (cI, 2000, .inl fr)), ((f 9), .inl (cI, 9, .inl srt)), ((f 10), .inl (cI, 9, .inl bas)), ((f 11), .inl (cI, 9, .inl fst))] := hD
            refine lv_aload_n hx hb d_MO_operator_134 rfl (lv_at hl 0 rfl) ?_
            refine va_get (D := D) (ci := 8) (v := .ref (f 12)) (C := rn_MO) (T := fl_MO) (N := 55) hx hb hG in_MO hown hK hP 0 rfl rfl 23 (by decide) (hG _ k_1214) (fun _ h9 => h9) rfl d_MO_operator_135 ?_
            refine lv_iload_n hx hb d_MO_operator_138 rfl (lv_at hl 2 rfl) ?_
            refine lv_iconst (v := 0) hx hb d_MO_operator_139 (by decide) ?_
            refine va_zast hx hb hK hP hD hS 5 2 rfl rfl (vp_in_nI (n := dp - 1) (N := 9) (by omega) (by omega)) d_MO_operator_140 (fun H locs hP hD hS => ?_)
            have hP : va_P D classes [(h0, .inr (8, mS f tn rm ln lx at_ bd1 fs1 dp on1 (os1 + 1) bn df th tp mo_ ev ss so lk rs pt ot cl)), ((f 3), .inl (cL, 2000, .inr (.inl le1))), ((f 4), .inl (cL, 2000, .inr (.inl ri1))), ((f 14), .inl (cL, 120, .inr (.inl opd1))), ((f 15), .inl (cI, 120, .inl g_11)), ((f 12), .inl (cZ, 9, .inl (upd rdy (nI (dp - 1)).toNatClampNeg (vp_nar .boolean 0)))), ((f 5), .inl (cI, 2000, .inl fr)), ((f 9), .inl (cI, 9, .inl srt)), ((f 10), .inl (cI, 9, .inl bas)), ((f 11), .inl (cI, 9, .inl fst))] H := hP
            have hD : va_D A [(h0, .inr (8, mS f tn rm ln lx at_ bd1 fs1 dp on1 (os1 + 1) bn df th tp mo_ ev ss so lk rs pt ot cl)), ((f 3), .inl (cL, 2000, .inr (.inl le1))), ((f 4), .inl (cL, 2000, .inr (.inl ri1))), ((f 14), .inl (cL, 120, .inr (.inl opd1))), ((f 15), .inl (cI, 120, .inl g_11)), ((f 12), .inl (cZ, 9, .inl (upd rdy (nI (dp - 1)).toNatClampNeg (vp_nar .boolean 0)))), ((f 5), .inl (cI, 2000, .inl fr)), ((f 9), .inl (cI, 9, .inl srt)), ((f 10), .inl (cI, 9, .inl bas)), ((f 11), .inl (cI, 9, .inl fst))] := hD
            obtain ⟨g_12, eg_12⟩ : ∃ z, z = upd rdy (dp - 1) 0 := ⟨_, rfl⟩
            rw [nI_clamp (n := dp - 1) (by omega), nar_b (Or.inl rfl), ← eg_12] at hP hD
            have hg_12 : bln g_12 := by rw [eg_12]; exact bln_ub hrdy (Or.inl rfl)
            refine lv_aload_n hx hb d_MO_operator_141 rfl (lv_at hl 0 rfl) ?_
            refine lv_dup hx hb d_MO_operator_142 rfl ?_
            refine va_get (D := D) (ci := 8) (v := .int (nI at_)) (C := rn_MO) (T := fl_MO) (N := 55) hx hb hG in_MO hown hK hP 0 rfl rfl 5 (by decide) (hG _ k_1196) (fun _ h9 => h9) rfl d_MO_operator_143 ?_
            refine lv_iconst (v := 1) hx hb d_MO_operator_146 (by decide) ?_
            refine lw_iadd (a := at_) (b := 1) hx hb d_MO_operator_147 ?_
            refine va_put (D := D) (ci := 8) (v := .int (nI (at_ + 1))) (ty := .int) (C := rn_MO) (T := fl_MO) (N := 55) hx hb hG in_MO tt_MO tk_MO nn_MO hown hK hP hD hS 0 rfl rfl 5 (by decide) (hG _ k_1196) (fun _ h9 => h9) rfl (by decide +kernel) rfl rfl (Nat.le_of_ble_eq_true rfl) d_MO_operator_148 (fun H locs hP hD hS => ?_)
            have hP : va_P D classes [(h0, .inr (8, mS f tn rm ln lx (at_ + 1) bd1 fs1 dp on1 (os1 + 1) bn df th tp mo_ ev ss so lk rs pt ot cl)), ((f 3), .inl (cL, 2000, .inr (.inl le1))), ((f 4), .inl (cL, 2000, .inr (.inl ri1))), ((f 14), .inl (cL, 120, .inr (.inl opd1))), ((f 15), .inl (cI, 120, .inl g_11)), ((f 12), .inl (cZ, 9, .inl g_12)), ((f 5), .inl (cI, 2000, .inl fr)), ((f 9), .inl (cI, 9, .inl srt)), ((f 10), .inl (cI, 9, .inl bas)), ((f 11), .inl (cI, 9, .inl fst))] H := hP
            have hD : va_D A [(h0, .inr (8, mS f tn rm ln lx (at_ + 1) bd1 fs1 dp on1 (os1 + 1) bn df th tp mo_ ev ss so lk rs pt ot cl)), ((f 3), .inl (cL, 2000, .inr (.inl le1))), ((f 4), .inl (cL, 2000, .inr (.inl ri1))), ((f 14), .inl (cL, 120, .inr (.inl opd1))), ((f 15), .inl (cI, 120, .inl g_11)), ((f 12), .inl (cZ, 9, .inl g_12)), ((f 5), .inl (cI, 2000, .inl fr)), ((f 9), .inl (cI, 9, .inl srt)), ((f 10), .inl (cI, 9, .inl bas)), ((f 11), .inl (cI, 9, .inl fst))] := hD
            exact em_vret hx hb hr hlocks hP hD hK hS (bd1, fs1, on1, os1 + 1, at_ + 1, le1, ri1, opd1, g_11, g_12) [0, 1, 2, 3, 4, 5, 6, 7, 8, 9] (by decide) rfl ⟨rfl, ⟨hg_12, (show bd1 = 0 → bd = 0 from (by first | exact id | exact (fun q => absurd q (by assumption)) | exact (fun q => hbz1 q))), (show bdo bd1 from (by first | assumption | omega | exact Or.inl rfl)), (show (at_ + 1) = at_ + 1 from rfl), (show on1 ≤ on from (by first | assumption | omega | exact Or.inl rfl)), (show (os1 + 1) ≤ os + 1 from (by first | assumption | omega | exact Or.inl rfl)), (show ∃ St' : Nat → Tr, RX Bc le0 ri0 Q b0 srt bas fst g_12 g_11 opd1 le1 ri1 fr fs1 on1 (os1 + 1) bn St' (dp - 1) m1 ob 0 from (by subst eg_12 eg_11; exact ⟨St1, RX_op hRX1 (by omega) (by omega)⟩))⟩⟩ d_MO_operator_151
          · skip
            have hn_13 : ¬ os1 ≤ ob := fun h => hb_9 ((nI_leI (a := os1) (b := ob) (by omega) (by omega)).mpr h)
            refine lv_aload_n hx hb d_MO_operator_91 rfl (lv_at hl 0 rfl) ?_
            refine va_get (D := D) (ci := 8) (v := .ref (f 15)) (C := rn_MO) (T := fl_MO) (N := 55) hx hb hG in_MO hown hK hP 0 rfl rfl 26 (by decide) (hG _ k_1217) (fun _ h9 => h9) rfl d_MO_operator_92 ?_
            refine lv_aload_n hx hb d_MO_operator_95 rfl (lv_at hl 0 rfl) ?_
            refine va_get (D := D) (ci := 8) (v := .int (nI os1)) (C := rn_MO) (T := fl_MO) (N := 55) hx hb hG in_MO hown hK hP 0 rfl rfl 18 (by decide) (hG _ k_1209) (fun _ h9 => h9) rfl d_MO_operator_96 ?_
            refine lv_iconst (v := 1) hx hb d_MO_operator_99 (by decide) ?_
            refine lw_isub (a := os1) (b := 1) hx hb d_MO_operator_100 (by omega) ?_
            refine va_iald hx hb hK hP 4 0 rfl rfl (vp_in_nI (n := os1 - 1) (N := 120) (by omega) (by omega)) d_MO_operator_101 ?_
            refine W.eq (g2 := F0 m 102 ls [.int (opr (os1 - 1))]) (by rw [nI_clamp (n := os1 - 1) (by omega)]) ?_
            refine W.callR (W.runS (As := [.int (opr (os1 - 1))]) (rest := []) ⟨hx, hb, hml, hown, hG⟩ (mo_rank l D cI cL cZ cC (opr (os1 - 1)) ) (cwS 1 hG (gd_S k_1492 k_1493 k_116 k_1494) rfl rfl rfl (by decide +kernel) ⟨Nat.le_of_ble_eq_true rfl, Nat.le_of_ble_eq_true rfl⟩) (wq_S hP hK [] rfl) rfl rfl hl.1 rfl (lv_room (Nat.le_of_ble_eq_true rfl)) d_MO_operator_102 ⟨Nat.le_of_ble_eq_true rfl, Nat.le_of_ble_eq_true rfl⟩) ?_
            refine W.eq (g2 := F0 m 105 ls [.int (rk (opr (os1 - 1)))]) rfl ?_
            refine lv_iconst (v := 2) hx hb d_MO_operator_105 (by decide) ?_
            refine lv_icmp_ne (tgt := 114) hx hb d_MO_operator_106 (by decide) (fun hb_14 => ?_) (fun hb_14 => ?_)
            · skip
              refine lv_aload_n hx hb d_MO_operator_114 rfl (lv_at hl 0 rfl) ?_
              refine va_get (D := D) (ci := 8) (v := .ref (f 15)) (C := rn_MO) (T := fl_MO) (N := 55) hx hb hG in_MO hown hK hP 0 rfl rfl 26 (by decide) (hG _ k_1217) (fun _ h9 => h9) rfl d_MO_operator_115 ?_
              refine lv_aload_n hx hb d_MO_operator_118 rfl (lv_at hl 0 rfl) ?_
              refine va_get (D := D) (ci := 8) (v := .int (nI os1)) (C := rn_MO) (T := fl_MO) (N := 55) hx hb hG in_MO hown hK hP 0 rfl rfl 18 (by decide) (hG _ k_1209) (fun _ h9 => h9) rfl d_MO_operator_119 ?_
              refine lv_iload_n hx hb d_MO_operator_122 rfl (lv_at hl 1 rfl) ?_
              refine va_iast hx hb hK hP hD hS 4 0 rfl rfl (vp_in_nI (n := os1) (N := 120) (by omega) (by omega)) d_MO_operator_123 (fun H locs hP hD hS => ?_)
              have hP : va_P D classes [(h0, .inr (8, mS f tn rm ln lx at_ bd1 fs1 dp on1 os1 bn df th tp mo_ ev ss so lk rs pt ot cl)), ((f 3), .inl (cL, 2000, .inr (.inl le1))), ((f 4), .inl (cL, 2000, .inr (.inl ri1))), ((f 14), .inl (cL, 120, .inr (.inl opd1))), ((f 15), .inl (cI, 120, .inl (upd opr (nI os1).toNatClampNeg (nI v)))), ((f 12), .inl (cZ, 9, .inl rdy)), ((f 5), .inl (cI, 2000, .inl fr)), ((f 9), .inl (cI, 9, .inl srt)), ((f 10), .inl (cI, 9, .inl bas)), ((f 11), .inl (cI, 9, .inl fst))] H := hP
              have hD : va_D A [(h0, .inr (8, mS f tn rm ln lx at_ bd1 fs1 dp on1 os1 bn df th tp mo_ ev ss so lk rs pt ot cl)), ((f 3), .inl (cL, 2000, .inr (.inl le1))), ((f 4), .inl (cL, 2000, .inr (.inl ri1))), ((f 14), .inl (cL, 120, .inr (.inl opd1))), ((f 15), .inl (cI, 120, .inl (upd opr (nI os1).toNatClampNeg (nI v)))), ((f 12), .inl (cZ, 9, .inl rdy)), ((f 5), .inl (cI, 2000, .inl fr)), ((f 9), .inl (cI, 9, .inl srt)), ((f 10), .inl (cI, 9, .inl bas)), ((f 11), .inl (cI, 9, .inl fst))] := hD
              obtain ⟨g_15, eg_15⟩ : ∃ z, z = upd opr os1 (nI v) := ⟨_, rfl⟩
              rw [nI_clamp (n := os1) (by omega), ← eg_15] at hP hD
              refine lv_aload_n hx hb d_MO_operator_124 rfl (lv_at hl 0 rfl) ?_
              refine lv_dup hx hb d_MO_operator_125 rfl ?_
              refine va_get (D := D) (ci := 8) (v := .int (nI os1)) (C := rn_MO) (T := fl_MO) (N := 55) hx hb hG in_MO hown hK hP 0 rfl rfl 18 (by decide) (hG _ k_1209) (fun _ h9 => h9) rfl d_MO_operator_126 ?_
              refine lv_iconst (v := 1) hx hb d_MO_operator_129 (by decide) ?_
              refine lw_iadd (a := os1) (b := 1) hx hb d_MO_operator_130 ?_
              refine va_put (D := D) (ci := 8) (v := .int (nI (os1 + 1))) (ty := .int) (C := rn_MO) (T := fl_MO) (N := 55) hx hb hG in_MO tt_MO tk_MO nn_MO hown hK hP hD hS 0 rfl rfl 18 (by decide) (hG _ k_1209) (fun _ h9 => h9) rfl (by decide +kernel) rfl rfl (Nat.le_of_ble_eq_true rfl) d_MO_operator_131 (fun H locs hP hD hS => ?_)
              have hP : va_P D classes [(h0, .inr (8, mS f tn rm ln lx at_ bd1 fs1 dp on1 (os1 + 1) bn df th tp mo_ ev ss so lk rs pt ot cl)), ((f 3), .inl (cL, 2000, .inr (.inl le1))), ((f 4), .inl (cL, 2000, .inr (.inl ri1))), ((f 14), .inl (cL, 120, .inr (.inl opd1))), ((f 15), .inl (cI, 120, .inl g_15)), ((f 12), .inl (cZ, 9, .inl rdy)), ((f 5), .inl (cI, 2000, .inl fr)), ((f 9), .inl (cI, 9, .inl srt)), ((f 10), .inl (cI, 9, .inl bas)), ((f 11), .inl (cI, 9, .inl fst))] H := hP
              have hD : va_D A [(h0, .inr (8, mS f tn rm ln lx at_ bd1 fs1 dp on1 (os1 + 1) bn df th tp mo_ ev ss so lk rs pt ot cl)), ((f 3), .inl (cL, 2000, .inr (.inl le1))), ((f 4), .inl (cL, 2000, .inr (.inl ri1))), ((f 14), .inl (cL, 120, .inr (.inl opd1))), ((f 15), .inl (cI, 120, .inl g_15)), ((f 12), .inl (cZ, 9, .inl rdy)), ((f 5), .inl (cI, 2000, .inl fr)), ((f 9), .inl (cI, 9, .inl srt)), ((f 10), .inl (cI, 9, .inl bas)), ((f 11), .inl (cI, 9, .inl fst))] := hD
              refine lv_aload_n hx hb d_MO_operator_134 rfl (lv_at hl 0 rfl) ?_
              refine va_get (D := D) (ci := 8) (v := .ref (f 12)) (C := rn_MO) (T := fl_MO) (N := 55) hx hb hG in_MO hown hK hP 0 rfl rfl 23 (by decide) (hG _ k_1214) (fun _ h9 => h9) rfl d_MO_operator_135 ?_
              refine lv_iload_n hx hb d_MO_operator_138 rfl (lv_at hl 2 rfl) ?_
              refine lv_iconst (v := 0) hx hb d_MO_operator_139 (by decide) ?_
              refine va_zast hx hb hK hP hD hS 5 2 rfl rfl (vp_in_nI (n := dp - 1) (N := 9) (by omega) (by omega)) d_MO_operator_140 (fun H locs hP hD hS => ?_)
              have hP : va_P D classes [(h0, .inr (8, mS f tn rm ln lx at_ bd1 fs1 dp on1 (os1 + 1) bn df th tp mo_ ev ss so lk rs pt ot cl)), ((f 3), .inl (cL, 2000, .inr (.inl le1))), ((f 4), .inl (cL, 2000, .inr (.inl ri1))), ((f 14), .inl (cL, 120, .inr (.inl opd1))), ((f 15), .inl (cI, 120, .inl g_15)), ((f 12), .inl (cZ, 9, .inl (upd rdy (nI (dp - 1)).toNatClampNeg (vp_nar .boolean 0)))), ((f 5), .inl (cI, 2000, .inl fr)), ((f 9), .inl (cI, 9, .inl srt)), ((f 10), .inl (cI, 9, .inl bas)), ((f 11), .inl (cI, 9, .inl fst))] H := hP
              have hD : va_D A [(h0, .inr (8, mS f tn rm ln lx at_ bd1 fs1 dp on1 (os1 + 1) bn df th tp mo_ ev ss so lk rs pt ot cl)), ((f 3), .inl (cL, 2000, .inr (.inl le1))), ((f 4), .inl (cL, 2000, .inr (.inl ri1))), ((f 14), .inl (cL, 120, .inr (.inl opd1))), ((f 15), .inl (cI, 120, .inl g_15)), ((f 12), .inl (cZ, 9, .inl (upd rdy (nI (dp - 1)).toNatClampNeg (vp_nar .boolean 0)))), ((f 5), .inl (cI, 2000, .inl fr)), ((f 9), .inl (cI, 9, .inl srt)), ((f 10), .inl (cI, 9, .inl bas)), ((f 11), .inl (cI, 9, .inl fst))] := hD
              obtain ⟨g_16, eg_16⟩ : ∃ z, z = upd rdy (dp - 1) 0 := ⟨_, rfl⟩
              rw [nI_clamp (n := dp - 1) (by omega), nar_b (Or.inl rfl), ← eg_16] at hP hD
              have hg_16 : bln g_16 := by rw [eg_16]; exact bln_ub hrdy (Or.inl rfl)
              refine lv_aload_n hx hb d_MO_operator_141 rfl (lv_at hl 0 rfl) ?_
              refine lv_dup hx hb d_MO_operator_142 rfl ?_
              refine va_get (D := D) (ci := 8) (v := .int (nI at_)) (C := rn_MO) (T := fl_MO) (N := 55) hx hb hG in_MO hown hK hP 0 rfl rfl 5 (by decide) (hG _ k_1196) (fun _ h9 => h9) rfl d_MO_operator_143 ?_
              refine lv_iconst (v := 1) hx hb d_MO_operator_146 (by decide) ?_
              refine lw_iadd (a := at_) (b := 1) hx hb d_MO_operator_147 ?_
              refine va_put (D := D) (ci := 8) (v := .int (nI (at_ + 1))) (ty := .int) (C := rn_MO) (T := fl_MO) (N := 55) hx hb hG in_MO tt_MO tk_MO nn_MO hown hK hP hD hS 0 rfl rfl 5 (by decide) (hG _ k_1196) (fun _ h9 => h9) rfl (by decide +kernel) rfl rfl (Nat.le_of_ble_eq_true rfl) d_MO_operator_148 (fun H locs hP hD hS => ?_)
              have hP : va_P D classes [(h0, .inr (8, mS f tn rm ln lx (at_ + 1) bd1 fs1 dp on1 (os1 + 1) bn df th tp mo_ ev ss so lk rs pt ot cl)), ((f 3), .inl (cL, 2000, .inr (.inl le1))), ((f 4), .inl (cL, 2000, .inr (.inl ri1))), ((f 14), .inl (cL, 120, .inr (.inl opd1))), ((f 15), .inl (cI, 120, .inl g_15)), ((f 12), .inl (cZ, 9, .inl g_16)), ((f 5), .inl (cI, 2000, .inl fr)), ((f 9), .inl (cI, 9, .inl srt)), ((f 10), .inl (cI, 9, .inl bas)), ((f 11), .inl (cI, 9, .inl fst))] H := hP
              have hD : va_D A [(h0, .inr (8, mS f tn rm ln lx (at_ + 1) bd1 fs1 dp on1 (os1 + 1) bn df th tp mo_ ev ss so lk rs pt ot cl)), ((f 3), .inl (cL, 2000, .inr (.inl le1))), ((f 4), .inl (cL, 2000, .inr (.inl ri1))), ((f 14), .inl (cL, 120, .inr (.inl opd1))), ((f 15), .inl (cI, 120, .inl g_15)), ((f 12), .inl (cZ, 9, .inl g_16)), ((f 5), .inl (cI, 2000, .inl fr)), ((f 9), .inl (cI, 9, .inl srt)), ((f 10), .inl (cI, 9, .inl bas)), ((f 11), .inl (cI, 9, .inl fst))] := hD
              exact em_vret hx hb hr hlocks hP hD hK hS (bd1, fs1, on1, os1 + 1, at_ + 1, le1, ri1, opd1, g_15, g_16) [0, 1, 2, 3, 4, 5, 6, 7, 8, 9] (by decide) rfl ⟨rfl, ⟨hg_16, (show bd1 = 0 → bd = 0 from (by first | exact id | exact (fun q => absurd q (by assumption)) | exact (fun q => hbz1 q))), (show bdo bd1 from (by first | assumption | omega | exact Or.inl rfl)), (show (at_ + 1) = at_ + 1 from rfl), (show on1 ≤ on from (by first | assumption | omega | exact Or.inl rfl)), (show (os1 + 1) ≤ os + 1 from (by first | assumption | omega | exact Or.inl rfl)), (show ∃ St' : Nat → Tr, RX Bc le0 ri0 Q b0 srt bas fst g_16 g_15 opd1 le1 ri1 fr fs1 on1 (os1 + 1) bn St' (dp - 1) m1 ob 0 from (by subst eg_16 eg_15; exact ⟨St1, RX_op hRX1 (by omega) (by omega)⟩))⟩⟩ d_MO_operator_151
            · skip
              refine lv_aload_n hx hb d_MO_operator_109 rfl (lv_at hl 0 rfl) ?_
              refine lv_iconst (v := 1) hx hb d_MO_operator_110 (by decide) ?_
              refine em_call (wr := [((f 3), .inl (cL, 2000, .inr (.inl le1))), ((f 4), .inl (cL, 2000, .inr (.inl ri1))), ((f 14), .inl (cL, 120, .inr (.inl opd1))), ((f 15), .inl (cI, 120, .inl opr)), ((f 12), .inl (cZ, 9, .inl rdy)), ((f 5), .inl (cI, 2000, .inl fr)), ((f 9), .inl (cI, 9, .inl srt)), ((f 10), .inl (cI, 9, .inl bas)), ((f 11), .inl (cI, 9, .inl fst))]) (em_runV (As := [.int 1]) (rest := []) ⟨hx, hb, hml, hown, hG⟩ (mo_wrong l D cI cL cZ cC f h0 tn rm ln lx at_ bd1 fs1 dp on1 os1 bn df th tp mo_ ev ss so lk rs pt ot cl 1 _ (by decide) (by first | assumption | omega | exact Or.inl rfl) hnt) (cwV 1 hG (gd_V k_1388 k_1390 k_54 k_116 k_1391) rfl rfl rfl (by decide +kernel) ⟨Nat.le_of_ble_eq_true rfl, Nat.le_of_ble_eq_true rfl⟩) (tw_V (q0 := 0) hP hD hK hE hst hS rfl rfl [0] rfl (by decide)) rfl rfl hl.1 rfl (lv_room (Nat.le_of_ble_eq_true rfl)) d_MO_operator_111 ⟨Nat.le_of_ble_eq_true rfl, Nat.le_of_ble_eq_true rfl⟩) hP hD hS hA [0] [1, 2, 3, 4, 5, 6, 7, 8, 9] rfl rfl (by decide) (by decide) (fun v u H locs hok hP hD hS => ?_) (fun x C u H locs hbad hxx hP hD hS => ?_)
              · skip
                obtain ⟨bd_17, rfl⟩ : ∃ z, z = u := ⟨_, rfl⟩
                obtain ⟨rfl, hp_19⟩ := hok
                obtain ⟨hbn_20, hbo_21, hbx_22⟩ : (¬ bd_17 = 0) ∧ (bdo bd_17) ∧ (bd1 = 0 → bd_17 = (1 : Int32)) := hp_19
                have hP : va_P D classes [((f 3), .inl (cL, 2000, .inr (.inl le1))), ((f 4), .inl (cL, 2000, .inr (.inl ri1))), ((f 14), .inl (cL, 120, .inr (.inl opd1))), ((f 15), .inl (cI, 120, .inl opr)), ((f 12), .inl (cZ, 9, .inl rdy)), ((f 5), .inl (cI, 2000, .inl fr)), ((f 9), .inl (cI, 9, .inl srt)), ((f 10), .inl (cI, 9, .inl bas)), ((f 11), .inl (cI, 9, .inl fst)), (h0, .inr (8, mS f tn rm ln lx at_ bd_17 fs1 dp on1 os1 bn df th tp mo_ ev ss so lk rs pt ot cl))] H := hP
                have hD : va_D A [((f 3), .inl (cL, 2000, .inr (.inl le1))), ((f 4), .inl (cL, 2000, .inr (.inl ri1))), ((f 14), .inl (cL, 120, .inr (.inl opd1))), ((f 15), .inl (cI, 120, .inl opr)), ((f 12), .inl (cZ, 9, .inl rdy)), ((f 5), .inl (cI, 2000, .inl fr)), ((f 9), .inl (cI, 9, .inl srt)), ((f 10), .inl (cI, 9, .inl bas)), ((f 11), .inl (cI, 9, .inl fst)), (h0, .inr (8, mS f tn rm ln lx at_ bd_17 fs1 dp on1 os1 bn df th tp mo_ ev ss so lk rs pt ot cl))] := hD
                refine W.eq (g2 := F0 m 114 ls []) rfl ?_
                refine lv_aload_n hx hb d_MO_operator_114 rfl (lv_at hl 0 rfl) ?_
                refine va_get (D := D) (ci := 8) (v := .ref (f 15)) (C := rn_MO) (T := fl_MO) (N := 55) hx hb hG in_MO hown hK hP 9 rfl rfl 26 (by decide) (hG _ k_1217) (fun _ h9 => h9) rfl d_MO_operator_115 ?_
                refine lv_aload_n hx hb d_MO_operator_118 rfl (lv_at hl 0 rfl) ?_
                refine va_get (D := D) (ci := 8) (v := .int (nI os1)) (C := rn_MO) (T := fl_MO) (N := 55) hx hb hG in_MO hown hK hP 9 rfl rfl 18 (by decide) (hG _ k_1209) (fun _ h9 => h9) rfl d_MO_operator_119 ?_
                refine lv_iload_n hx hb d_MO_operator_122 rfl (lv_at hl 1 rfl) ?_
                refine va_iast hx hb hK hP hD hS 3 0 rfl rfl (vp_in_nI (n := os1) (N := 120) (by omega) (by omega)) d_MO_operator_123 (fun H locs hP hD hS => ?_)
                have hP : va_P D classes [((f 3), .inl (cL, 2000, .inr (.inl le1))), ((f 4), .inl (cL, 2000, .inr (.inl ri1))), ((f 14), .inl (cL, 120, .inr (.inl opd1))), ((f 15), .inl (cI, 120, .inl (upd opr (nI os1).toNatClampNeg (nI v)))), ((f 12), .inl (cZ, 9, .inl rdy)), ((f 5), .inl (cI, 2000, .inl fr)), ((f 9), .inl (cI, 9, .inl srt)), ((f 10), .inl (cI, 9, .inl bas)), ((f 11), .inl (cI, 9, .inl fst)), (h0, .inr (8, mS f tn rm ln lx at_ bd_17 fs1 dp on1 os1 bn df th tp mo_ ev ss so lk rs pt ot cl))] H := hP
                have hD : va_D A [((f 3), .inl (cL, 2000, .inr (.inl le1))), ((f 4), .inl (cL, 2000, .inr (.inl ri1))), ((f 14), .inl (cL, 120, .inr (.inl opd1))), ((f 15), .inl (cI, 120, .inl (upd opr (nI os1).toNatClampNeg (nI v)))), ((f 12), .inl (cZ, 9, .inl rdy)), ((f 5), .inl (cI, 2000, .inl fr)), ((f 9), .inl (cI, 9, .inl srt)), ((f 10), .inl (cI, 9, .inl bas)), ((f 11), .inl (cI, 9, .inl fst)), (h0, .inr (8, mS f tn rm ln lx at_ bd_17 fs1 dp on1 os1 bn df th tp mo_ ev ss so lk rs pt ot cl))] := hD
                obtain ⟨g_24, eg_24⟩ : ∃ z, z = upd opr os1 (nI v) := ⟨_, rfl⟩
                rw [nI_clamp (n := os1) (by omega), ← eg_24] at hP hD
                refine lv_aload_n hx hb d_MO_operator_124 rfl (lv_at hl 0 rfl) ?_
                refine lv_dup hx hb d_MO_operator_125 rfl ?_
                refine va_get (D := D) (ci := 8) (v := .int (nI os1)) (C := rn_MO) (T := fl_MO) (N := 55) hx hb hG in_MO hown hK hP 9 rfl rfl 18 (by decide) (hG _ k_1209) (fun _ h9 => h9) rfl d_MO_operator_126 ?_
                refine lv_iconst (v := 1) hx hb d_MO_operator_129 (by decide) ?_
                refine lw_iadd (a := os1) (b := 1) hx hb d_MO_operator_130 ?_
                refine va_put (D := D) (ci := 8) (v := .int (nI (os1 + 1))) (ty := .int) (C := rn_MO) (T := fl_MO) (N := 55) hx hb hG in_MO tt_MO tk_MO nn_MO hown hK hP hD hS 9 rfl rfl 18 (by decide) (hG _ k_1209) (fun _ h9 => h9) rfl (by decide +kernel) rfl rfl (Nat.le_of_ble_eq_true rfl) d_MO_operator_131 (fun H locs hP hD hS => ?_)
                have hP : va_P D classes [((f 3), .inl (cL, 2000, .inr (.inl le1))), ((f 4), .inl (cL, 2000, .inr (.inl ri1))), ((f 14), .inl (cL, 120, .inr (.inl opd1))), ((f 15), .inl (cI, 120, .inl g_24)), ((f 12), .inl (cZ, 9, .inl rdy)), ((f 5), .inl (cI, 2000, .inl fr)), ((f 9), .inl (cI, 9, .inl srt)), ((f 10), .inl (cI, 9, .inl bas)), ((f 11), .inl (cI, 9, .inl fst)), (h0, .inr (8, mS f tn rm ln lx at_ bd_17 fs1 dp on1 (os1 + 1) bn df th tp mo_ ev ss so lk rs pt ot cl))] H := hP
                have hD : va_D A [((f 3), .inl (cL, 2000, .inr (.inl le1))), ((f 4), .inl (cL, 2000, .inr (.inl ri1))), ((f 14), .inl (cL, 120, .inr (.inl opd1))), ((f 15), .inl (cI, 120, .inl g_24)), ((f 12), .inl (cZ, 9, .inl rdy)), ((f 5), .inl (cI, 2000, .inl fr)), ((f 9), .inl (cI, 9, .inl srt)), ((f 10), .inl (cI, 9, .inl bas)), ((f 11), .inl (cI, 9, .inl fst)), (h0, .inr (8, mS f tn rm ln lx at_ bd_17 fs1 dp on1 (os1 + 1) bn df th tp mo_ ev ss so lk rs pt ot cl))] := hD
                refine lv_aload_n hx hb d_MO_operator_134 rfl (lv_at hl 0 rfl) ?_
                refine va_get (D := D) (ci := 8) (v := .ref (f 12)) (C := rn_MO) (T := fl_MO) (N := 55) hx hb hG in_MO hown hK hP 9 rfl rfl 23 (by decide) (hG _ k_1214) (fun _ h9 => h9) rfl d_MO_operator_135 ?_
                refine lv_iload_n hx hb d_MO_operator_138 rfl (lv_at hl 2 rfl) ?_
                refine lv_iconst (v := 0) hx hb d_MO_operator_139 (by decide) ?_
                refine va_zast hx hb hK hP hD hS 4 2 rfl rfl (vp_in_nI (n := dp - 1) (N := 9) (by omega) (by omega)) d_MO_operator_140 (fun H locs hP hD hS => ?_)
                have hP : va_P D classes [((f 3), .inl (cL, 2000, .inr (.inl le1))), ((f 4), .inl (cL, 2000, .inr (.inl ri1))), ((f 14), .inl (cL, 120, .inr (.inl opd1))), ((f 15), .inl (cI, 120, .inl g_24)), ((f 12), .inl (cZ, 9, .inl (upd rdy (nI (dp - 1)).toNatClampNeg (vp_nar .boolean 0)))), ((f 5), .inl (cI, 2000, .inl fr)), ((f 9), .inl (cI, 9, .inl srt)), ((f 10), .inl (cI, 9, .inl bas)), ((f 11), .inl (cI, 9, .inl fst)), (h0, .inr (8, mS f tn rm ln lx at_ bd_17 fs1 dp on1 (os1 + 1) bn df th tp mo_ ev ss so lk rs pt ot cl))] H := hP
                have hD : va_D A [((f 3), .inl (cL, 2000, .inr (.inl le1))), ((f 4), .inl (cL, 2000, .inr (.inl ri1))), ((f 14), .inl (cL, 120, .inr (.inl opd1))), ((f 15), .inl (cI, 120, .inl g_24)), ((f 12), .inl (cZ, 9, .inl (upd rdy (nI (dp - 1)).toNatClampNeg (vp_nar .boolean 0)))), ((f 5), .inl (cI, 2000, .inl fr)), ((f 9), .inl (cI, 9, .inl srt)), ((f 10), .inl (cI, 9, .inl bas)), ((f 11), .inl (cI, 9, .inl fst)), (h0, .inr (8, mS f tn rm ln lx at_ bd_17 fs1 dp on1 (os1 + 1) bn df th tp mo_ ev ss so lk rs pt ot cl))] := hD
                obtain ⟨g_25, eg_25⟩ : ∃ z, z = upd rdy (dp - 1) 0 := ⟨_, rfl⟩
                rw [nI_clamp (n := dp - 1) (by omega), nar_b (Or.inl rfl), ← eg_25] at hP hD
                have hg_25 : bln g_25 := by rw [eg_25]; exact bln_ub hrdy (Or.inl rfl)
                refine lv_aload_n hx hb d_MO_operator_141 rfl (lv_at hl 0 rfl) ?_
                refine lv_dup hx hb d_MO_operator_142 rfl ?_
                refine va_get (D := D) (ci := 8) (v := .int (nI at_)) (C := rn_MO) (T := fl_MO) (N := 55) hx hb hG in_MO hown hK hP 9 rfl rfl 5 (by decide) (hG _ k_1196) (fun _ h9 => h9) rfl d_MO_operator_143 ?_
                refine lv_iconst (v := 1) hx hb d_MO_operator_146 (by decide) ?_
                refine lw_iadd (a := at_) (b := 1) hx hb d_MO_operator_147 ?_
                refine va_put (D := D) (ci := 8) (v := .int (nI (at_ + 1))) (ty := .int) (C := rn_MO) (T := fl_MO) (N := 55) hx hb hG in_MO tt_MO tk_MO nn_MO hown hK hP hD hS 9 rfl rfl 5 (by decide) (hG _ k_1196) (fun _ h9 => h9) rfl (by decide +kernel) rfl rfl (Nat.le_of_ble_eq_true rfl) d_MO_operator_148 (fun H locs hP hD hS => ?_)
                have hP : va_P D classes [((f 3), .inl (cL, 2000, .inr (.inl le1))), ((f 4), .inl (cL, 2000, .inr (.inl ri1))), ((f 14), .inl (cL, 120, .inr (.inl opd1))), ((f 15), .inl (cI, 120, .inl g_24)), ((f 12), .inl (cZ, 9, .inl g_25)), ((f 5), .inl (cI, 2000, .inl fr)), ((f 9), .inl (cI, 9, .inl srt)), ((f 10), .inl (cI, 9, .inl bas)), ((f 11), .inl (cI, 9, .inl fst)), (h0, .inr (8, mS f tn rm ln lx (at_ + 1) bd_17 fs1 dp on1 (os1 + 1) bn df th tp mo_ ev ss so lk rs pt ot cl))] H := hP
                have hD : va_D A [((f 3), .inl (cL, 2000, .inr (.inl le1))), ((f 4), .inl (cL, 2000, .inr (.inl ri1))), ((f 14), .inl (cL, 120, .inr (.inl opd1))), ((f 15), .inl (cI, 120, .inl g_24)), ((f 12), .inl (cZ, 9, .inl g_25)), ((f 5), .inl (cI, 2000, .inl fr)), ((f 9), .inl (cI, 9, .inl srt)), ((f 10), .inl (cI, 9, .inl bas)), ((f 11), .inl (cI, 9, .inl fst)), (h0, .inr (8, mS f tn rm ln lx (at_ + 1) bd_17 fs1 dp on1 (os1 + 1) bn df th tp mo_ ev ss so lk rs pt ot cl))] := hD
                exact em_vret hx hb hr hlocks hP hD hK hS (bd_17, fs1, on1, os1 + 1, at_ + 1, le1, ri1, opd1, g_24, g_25) [9, 0, 1, 2, 3, 4, 5, 6, 7, 8] (by decide) rfl ⟨rfl, ⟨hg_25, (show bd_17 = 0 → bd = 0 from (by first | exact id | exact (fun q => absurd q (by assumption)) | exact (fun q => hbz1 q))), (show bdo bd_17 from (by first | assumption | omega | exact Or.inl rfl)), (show (at_ + 1) = at_ + 1 from rfl), (show on1 ≤ on from (by first | assumption | omega | exact Or.inl rfl)), (show (os1 + 1) ≤ os + 1 from (by first | assumption | omega | exact Or.inl rfl)), (show ∃ St' : Nat → Tr, RX Bc le0 ri0 Q b0 srt bas fst g_25 g_24 opd1 le1 ri1 fr fs1 on1 (os1 + 1) bn St' (dp - 1) m1 ob 0 from (by subst eg_25 eg_24; exact ⟨St1, RX_op hRX1 (by omega) (by omega)⟩))⟩⟩ d_MO_operator_151
              · skip
                exact hbad.elim
      · skip
        have hn_26 : ¬ os1 ≤ ob := fun h => hb_4 ((nI_leI (a := os1) (b := ob) (by omega) (by omega)).mpr h)
        refine lv_aload_n hx hb d_MO_operator_25 rfl (lv_at hl 0 rfl) ?_
        refine va_get (D := D) (ci := 8) (v := .ref (f 15)) (C := rn_MO) (T := fl_MO) (N := 55) hx hb hG in_MO hown hK hP 0 rfl rfl 26 (by decide) (hG _ k_1217) (fun _ h9 => h9) rfl d_MO_operator_26 ?_
        refine lv_aload_n hx hb d_MO_operator_29 rfl (lv_at hl 0 rfl) ?_
        refine va_get (D := D) (ci := 8) (v := .int (nI os1)) (C := rn_MO) (T := fl_MO) (N := 55) hx hb hG in_MO hown hK hP 0 rfl rfl 18 (by decide) (hG _ k_1209) (fun _ h9 => h9) rfl d_MO_operator_30 ?_
        refine lv_iconst (v := 1) hx hb d_MO_operator_33 (by decide) ?_
        refine lw_isub (a := os1) (b := 1) hx hb d_MO_operator_34 (by omega) ?_
        refine va_iald hx hb hK hP 4 0 rfl rfl (vp_in_nI (n := os1 - 1) (N := 120) (by omega) (by omega)) d_MO_operator_35 ?_
        refine W.eq (g2 := F0 m 36 ls [.int (opr (os1 - 1))]) (by rw [nI_clamp (n := os1 - 1) (by omega)]) ?_
        refine W.callR (W.runS (As := [.int (opr (os1 - 1))]) (rest := []) ⟨hx, hb, hml, hown, hG⟩ (mo_rank l D cI cL cZ cC (opr (os1 - 1)) ) (cwS 1 hG (gd_S k_1492 k_1493 k_116 k_1494) rfl rfl rfl (by decide +kernel) ⟨Nat.le_of_ble_eq_true rfl, Nat.le_of_ble_eq_true rfl⟩) (wq_S hP hK [] rfl) rfl rfl hl.1 rfl (lv_room (Nat.le_of_ble_eq_true rfl)) d_MO_operator_36 ⟨Nat.le_of_ble_eq_true rfl, Nat.le_of_ble_eq_true rfl⟩) ?_
        refine W.eq (g2 := F0 m 39 ls [.int (rk (opr (os1 - 1)))]) rfl ?_
        refine lv_iload_n hx hb d_MO_operator_39 rfl (lv_at hl 3 rfl) ?_
        refine lv_icmp_gt (tgt := 66) hx hb d_MO_operator_40 (by decide) (fun hb_27 => ?_) (fun hb_27 => ?_)
        · skip
          refine lv_aload_n hx hb d_MO_operator_66 rfl (lv_at hl 0 rfl) ?_
          refine em_call (wr := []) (em_runV (As := []) (rest := []) ⟨hx, hb, hml, hown, hG⟩ (mo_reduce l D cI cL cZ cC f h0 tn rm ln lx at_ bd1 fs1 dp on1 os1 bn df th tp mo_ ev ss so lk rs pt ot cl le1 ri1 opd1 fr srt bas fst opr rdy Bc le0 ri0 Q b0 St1 m1 ob _ hfr hrdy hRX1 hB (by first | assumption | omega | exact Or.inl rfl) (by omega) (by first | assumption | omega | exact Or.inl rfl) hQ (by first | assumption | omega | exact Or.inl rfl) hnt) (cwV 0 hG (gd_V k_1495 k_1497 k_73 k_116 k_1498) rfl rfl rfl (by decide +kernel) ⟨Nat.le_of_ble_eq_true rfl, Nat.le_of_ble_eq_true rfl⟩) (tw_V (q0 := 0) hP hD hK hE hst hS rfl rfl [0, 1, 2, 3, 6, 7, 8, 9, 4, 5] rfl (by decide)) rfl rfl hl.1 rfl (lv_room (Nat.le_of_ble_eq_true rfl)) d_MO_operator_67 ⟨Nat.le_of_ble_eq_true rfl, Nat.le_of_ble_eq_true rfl⟩) hP hD hS hA [0, 1, 2, 3, 6, 7, 8, 9, 4, 5] [] rfl rfl (by decide) (by decide) (fun v u H locs hok hP hD hS => ?_) (fun x C u H locs hbad hxx hP hD hS => ?_)
          · skip
            obtain ⟨bd_28, fs_29, on_30, os_31, le_32, ri_33, opd_34⟩ := u
            obtain ⟨rfl, hp_36⟩ := hok
            obtain ⟨hbz_37, hbo_38, hon_39, hos_40, hRX_41⟩ : (bd_28 = 0 → bd1 = 0) ∧ (bdo bd_28) ∧ (on_30 = on1 - 1) ∧ (os_31 = os1 - 1) ∧ (∃ St' : Nat → Tr, RX Bc le0 ri0 Q b0 srt bas fst rdy opr opd_34 le_32 ri_33 fr fs_29 on_30 os_31 bn St' (dp - 1) m1 ob 1) := hp_36
            obtain ⟨St2, hRX2⟩ := hRX_41
            have hP : va_P D classes [(h0, .inr (8, mS f tn rm ln lx at_ bd_28 fs_29 dp on_30 os_31 bn df th tp mo_ ev ss so lk rs pt ot cl)), ((f 3), .inl (cL, 2000, .inr (.inl le_32))), ((f 4), .inl (cL, 2000, .inr (.inl ri_33))), ((f 14), .inl (cL, 120, .inr (.inl opd_34))), ((f 5), .inl (cI, 2000, .inl fr)), ((f 9), .inl (cI, 9, .inl srt)), ((f 10), .inl (cI, 9, .inl bas)), ((f 11), .inl (cI, 9, .inl fst)), ((f 15), .inl (cI, 120, .inl opr)), ((f 12), .inl (cZ, 9, .inl rdy))] H := hP
            have hD : va_D A [(h0, .inr (8, mS f tn rm ln lx at_ bd_28 fs_29 dp on_30 os_31 bn df th tp mo_ ev ss so lk rs pt ot cl)), ((f 3), .inl (cL, 2000, .inr (.inl le_32))), ((f 4), .inl (cL, 2000, .inr (.inl ri_33))), ((f 14), .inl (cL, 120, .inr (.inl opd_34))), ((f 5), .inl (cI, 2000, .inl fr)), ((f 9), .inl (cI, 9, .inl srt)), ((f 10), .inl (cI, 9, .inl bas)), ((f 11), .inl (cI, 9, .inl fst)), ((f 15), .inl (cI, 120, .inl opr)), ((f 12), .inl (cZ, 9, .inl rdy))] := hD
            refine W.eq (g2 := F0 m 70 ls []) rfl ?_
            refine lv_goto (tgt := 12) hx hb d_MO_operator_70 (by decide) ?_
            have hl := lv_sub (l' := [(0, .ref h0), (1, .int (nI v)), (2, .int (nI (dp - 1))), (3, .int (rk (nI v)))]) hl [0, 1, 2, 3] rfl
            have hP : va_P D classes [(h0, .inr (8, mS f tn rm ln lx at_ bd_28 fs_29 dp on_30 os_31 bn df th tp mo_ ev ss so lk rs pt ot cl)), ((f 3), .inl (cL, 2000, .inr (.inl le_32))), ((f 4), .inl (cL, 2000, .inr (.inl ri_33))), ((f 14), .inl (cL, 120, .inr (.inl opd_34))), ((f 15), .inl (cI, 120, .inl opr)), ((f 12), .inl (cZ, 9, .inl rdy)), ((f 5), .inl (cI, 2000, .inl fr)), ((f 9), .inl (cI, 9, .inl srt)), ((f 10), .inl (cI, 9, .inl bas)), ((f 11), .inl (cI, 9, .inl fst))] _ := hP.sub [0, 1, 2, 3, 8, 9, 4, 5, 6, 7] (wp_fm rfl)
            have hD : va_D A [(h0, .inr (8, mS f tn rm ln lx at_ bd_28 fs_29 dp on_30 os_31 bn df th tp mo_ ev ss so lk rs pt ot cl)), ((f 3), .inl (cL, 2000, .inr (.inl le_32))), ((f 4), .inl (cL, 2000, .inr (.inl ri_33))), ((f 14), .inl (cL, 120, .inr (.inl opd_34))), ((f 15), .inl (cI, 120, .inl opr)), ((f 12), .inl (cZ, 9, .inl rdy)), ((f 5), .inl (cI, 2000, .inl fr)), ((f 9), .inl (cI, 9, .inl srt)), ((f 10), .inl (cI, 9, .inl bas)), ((f 11), .inl (cI, 9, .inl fst))] := hD.sub [0, 1, 2, 3, 8, 9, 4, 5, 6, 7] (by decide) rfl
            exact ih_3 bd_28 fs_29 on_30 os_31 le_32 ri_33 opd_34 _ _ _ (by omega) (by omega) (by omega) (by omega) (by first | exact id | exact (fun q => absurd q (by assumption)) | exact (fun q => hbz1 (hbz_37 q))) (by assumption) ⟨St2, hRX2⟩ hl hP hD hS
          · skip
            exact hbad.elim
        · skip
          refine lv_aload_n hx hb d_MO_operator_43 rfl (lv_at hl 0 rfl) ?_
          refine va_get (D := D) (ci := 8) (v := .ref (f 15)) (C := rn_MO) (T := fl_MO) (N := 55) hx hb hG in_MO hown hK hP 0 rfl rfl 26 (by decide) (hG _ k_1217) (fun _ h9 => h9) rfl d_MO_operator_44 ?_
          refine lv_aload_n hx hb d_MO_operator_47 rfl (lv_at hl 0 rfl) ?_
          refine va_get (D := D) (ci := 8) (v := .int (nI os1)) (C := rn_MO) (T := fl_MO) (N := 55) hx hb hG in_MO hown hK hP 0 rfl rfl 18 (by decide) (hG _ k_1209) (fun _ h9 => h9) rfl d_MO_operator_48 ?_
          refine lv_iconst (v := 1) hx hb d_MO_operator_51 (by decide) ?_
          refine lw_isub (a := os1) (b := 1) hx hb d_MO_operator_52 (by omega) ?_
          refine va_iald hx hb hK hP 4 0 rfl rfl (vp_in_nI (n := os1 - 1) (N := 120) (by omega) (by omega)) d_MO_operator_53 ?_
          refine W.eq (g2 := F0 m 54 ls [.int (opr (os1 - 1))]) (by rw [nI_clamp (n := os1 - 1) (by omega)]) ?_
          refine W.callR (W.runS (As := [.int (opr (os1 - 1))]) (rest := []) ⟨hx, hb, hml, hown, hG⟩ (mo_rank l D cI cL cZ cC (opr (os1 - 1)) ) (cwS 1 hG (gd_S k_1492 k_1493 k_116 k_1494) rfl rfl rfl (by decide +kernel) ⟨Nat.le_of_ble_eq_true rfl, Nat.le_of_ble_eq_true rfl⟩) (wq_S hP hK [] rfl) rfl rfl hl.1 rfl (lv_room (Nat.le_of_ble_eq_true rfl)) d_MO_operator_54 ⟨Nat.le_of_ble_eq_true rfl, Nat.le_of_ble_eq_true rfl⟩) ?_
          refine W.eq (g2 := F0 m 57 ls [.int (rk (opr (os1 - 1)))]) rfl ?_
          refine lv_iload_n hx hb d_MO_operator_57 rfl (lv_at hl 3 rfl) ?_
          refine lv_icmp_ne (tgt := 73) hx hb d_MO_operator_58 (by decide) (fun hb_43 => ?_) (fun hb_43 => ?_)
          · skip
            refine lv_iload_n hx hb d_MO_operator_73 rfl (lv_at hl 3 rfl) ?_
            refine lv_iconst (v := 2) hx hb d_MO_operator_74 (by decide) ?_
            refine lv_icmp_ne (tgt := 114) hx hb d_MO_operator_75 (by decide) (fun hb_44 => ?_) (fun hb_44 => ?_)
            · skip
              refine lv_aload_n hx hb d_MO_operator_114 rfl (lv_at hl 0 rfl) ?_
              refine va_get (D := D) (ci := 8) (v := .ref (f 15)) (C := rn_MO) (T := fl_MO) (N := 55) hx hb hG in_MO hown hK hP 0 rfl rfl 26 (by decide) (hG _ k_1217) (fun _ h9 => h9) rfl d_MO_operator_115 ?_
              refine lv_aload_n hx hb d_MO_operator_118 rfl (lv_at hl 0 rfl) ?_
              refine va_get (D := D) (ci := 8) (v := .int (nI os1)) (C := rn_MO) (T := fl_MO) (N := 55) hx hb hG in_MO hown hK hP 0 rfl rfl 18 (by decide) (hG _ k_1209) (fun _ h9 => h9) rfl d_MO_operator_119 ?_
              refine lv_iload_n hx hb d_MO_operator_122 rfl (lv_at hl 1 rfl) ?_
              refine va_iast hx hb hK hP hD hS 4 0 rfl rfl (vp_in_nI (n := os1) (N := 120) (by omega) (by omega)) d_MO_operator_123 (fun H locs hP hD hS => ?_)
              have hP : va_P D classes [(h0, .inr (8, mS f tn rm ln lx at_ bd1 fs1 dp on1 os1 bn df th tp mo_ ev ss so lk rs pt ot cl)), ((f 3), .inl (cL, 2000, .inr (.inl le1))), ((f 4), .inl (cL, 2000, .inr (.inl ri1))), ((f 14), .inl (cL, 120, .inr (.inl opd1))), ((f 15), .inl (cI, 120, .inl (upd opr (nI os1).toNatClampNeg (nI v)))), ((f 12), .inl (cZ, 9, .inl rdy)), ((f 5), .inl (cI, 2000, .inl fr)), ((f 9), .inl (cI, 9, .inl srt)), ((f 10), .inl (cI, 9, .inl bas)), ((f 11), .inl (cI, 9, .inl fst))] H := hP
              have hD : va_D A [(h0, .inr (8, mS f tn rm ln lx at_ bd1 fs1 dp on1 os1 bn df th tp mo_ ev ss so lk rs pt ot cl)), ((f 3), .inl (cL, 2000, .inr (.inl le1))), ((f 4), .inl (cL, 2000, .inr (.inl ri1))), ((f 14), .inl (cL, 120, .inr (.inl opd1))), ((f 15), .inl (cI, 120, .inl (upd opr (nI os1).toNatClampNeg (nI v)))), ((f 12), .inl (cZ, 9, .inl rdy)), ((f 5), .inl (cI, 2000, .inl fr)), ((f 9), .inl (cI, 9, .inl srt)), ((f 10), .inl (cI, 9, .inl bas)), ((f 11), .inl (cI, 9, .inl fst))] := hD
              obtain ⟨g_45, eg_45⟩ : ∃ z, z = upd opr os1 (nI v) := ⟨_, rfl⟩
              rw [nI_clamp (n := os1) (by omega), ← eg_45] at hP hD
              refine lv_aload_n hx hb d_MO_operator_124 rfl (lv_at hl 0 rfl) ?_
              refine lv_dup hx hb d_MO_operator_125 rfl ?_
              refine va_get (D := D) (ci := 8) (v := .int (nI os1)) (C := rn_MO) (T := fl_MO) (N := 55) hx hb hG in_MO hown hK hP 0 rfl rfl 18 (by decide) (hG _ k_1209) (fun _ h9 => h9) rfl d_MO_operator_126 ?_
              refine lv_iconst (v := 1) hx hb d_MO_operator_129 (by decide) ?_
              refine lw_iadd (a := os1) (b := 1) hx hb d_MO_operator_130 ?_
              refine va_put (D := D) (ci := 8) (v := .int (nI (os1 + 1))) (ty := .int) (C := rn_MO) (T := fl_MO) (N := 55) hx hb hG in_MO tt_MO tk_MO nn_MO hown hK hP hD hS 0 rfl rfl 18 (by decide) (hG _ k_1209) (fun _ h9 => h9) rfl (by decide +kernel) rfl rfl (Nat.le_of_ble_eq_true rfl) d_MO_operator_131 (fun H locs hP hD hS => ?_)
              have hP : va_P D classes [(h0, .inr (8, mS f tn rm ln lx at_ bd1 fs1 dp on1 (os1 + 1) bn df th tp mo_ ev ss so lk rs pt ot cl)), ((f 3), .inl (cL, 2000, .inr (.inl le1))), ((f 4), .inl (cL, 2000, .inr (.inl ri1))), ((f 14), .inl (cL, 120, .inr (.inl opd1))), ((f 15), .inl (cI, 120, .inl g_45)), ((f 12), .inl (cZ, 9, .inl rdy)), ((f 5), .inl (cI, 2000, .inl fr)), ((f 9), .inl (cI, 9, .inl srt)), ((f 10), .inl (cI, 9, .inl bas)), ((f 11), .inl (cI, 9, .inl fst))] H := hP
              have hD : va_D A [(h0, .inr (8, mS f tn rm ln lx at_ bd1 fs1 dp on1 (os1 + 1) bn df th tp mo_ ev ss so lk rs pt ot cl)), ((f 3), .inl (cL, 2000, .inr (.inl le1))), ((f 4), .inl (cL, 2000, .inr (.inl ri1))), ((f 14), .inl (cL, 120, .inr (.inl opd1))), ((f 15), .inl (cI, 120, .inl g_45)), ((f 12), .inl (cZ, 9, .inl rdy)), ((f 5), .inl (cI, 2000, .inl fr)), ((f 9), .inl (cI, 9, .inl srt)), ((f 10), .inl (cI, 9, .inl bas)), ((f 11), .inl (cI, 9, .inl fst))] := hD
              refine lv_aload_n hx hb d_MO_operator_134 rfl (lv_at hl 0 rfl) ?_
              refine va_get (D := D) (ci := 8) (v := .ref (f 12)) (C := rn_MO) (T := fl_MO) (N := 55) hx hb hG in_MO hown hK hP 0 rfl rfl 23 (by decide) (hG _ k_1214) (fun _ h9 => h9) rfl d_MO_operator_135 ?_
              refine lv_iload_n hx hb d_MO_operator_138 rfl (lv_at hl 2 rfl) ?_
              refine lv_iconst (v := 0) hx hb d_MO_operator_139 (by decide) ?_
              refine va_zast hx hb hK hP hD hS 5 2 rfl rfl (vp_in_nI (n := dp - 1) (N := 9) (by omega) (by omega)) d_MO_operator_140 (fun H locs hP hD hS => ?_)
              have hP : va_P D classes [(h0, .inr (8, mS f tn rm ln lx at_ bd1 fs1 dp on1 (os1 + 1) bn df th tp mo_ ev ss so lk rs pt ot cl)), ((f 3), .inl (cL, 2000, .inr (.inl le1))), ((f 4), .inl (cL, 2000, .inr (.inl ri1))), ((f 14), .inl (cL, 120, .inr (.inl opd1))), ((f 15), .inl (cI, 120, .inl g_45)), ((f 12), .inl (cZ, 9, .inl (upd rdy (nI (dp - 1)).toNatClampNeg (vp_nar .boolean 0)))), ((f 5), .inl (cI, 2000, .inl fr)), ((f 9), .inl (cI, 9, .inl srt)), ((f 10), .inl (cI, 9, .inl bas)), ((f 11), .inl (cI, 9, .inl fst))] H := hP
              have hD : va_D A [(h0, .inr (8, mS f tn rm ln lx at_ bd1 fs1 dp on1 (os1 + 1) bn df th tp mo_ ev ss so lk rs pt ot cl)), ((f 3), .inl (cL, 2000, .inr (.inl le1))), ((f 4), .inl (cL, 2000, .inr (.inl ri1))), ((f 14), .inl (cL, 120, .inr (.inl opd1))), ((f 15), .inl (cI, 120, .inl g_45)), ((f 12), .inl (cZ, 9, .inl (upd rdy (nI (dp - 1)).toNatClampNeg (vp_nar .boolean 0)))), ((f 5), .inl (cI, 2000, .inl fr)), ((f 9), .inl (cI, 9, .inl srt)), ((f 10), .inl (cI, 9, .inl bas)), ((f 11), .inl (cI, 9, .inl fst))] := hD
              obtain ⟨g_46, eg_46⟩ : ∃ z, z = upd rdy (dp - 1) 0 := ⟨_, rfl⟩
              rw [nI_clamp (n := dp - 1) (by omega), nar_b (Or.inl rfl), ← eg_46] at hP hD
              have hg_46 : bln g_46 := by rw [eg_46]; exact bln_ub hrdy (Or.inl rfl)
              refine lv_aload_n hx hb d_MO_operator_141 rfl (lv_at hl 0 rfl) ?_
              refine lv_dup hx hb d_MO_operator_142 rfl ?_
              refine va_get (D := D) (ci := 8) (v := .int (nI at_)) (C := rn_MO) (T := fl_MO) (N := 55) hx hb hG in_MO hown hK hP 0 rfl rfl 5 (by decide) (hG _ k_1196) (fun _ h9 => h9) rfl d_MO_operator_143 ?_
              refine lv_iconst (v := 1) hx hb d_MO_operator_146 (by decide) ?_
              refine lw_iadd (a := at_) (b := 1) hx hb d_MO_operator_147 ?_
              refine va_put (D := D) (ci := 8) (v := .int (nI (at_ + 1))) (ty := .int) (C := rn_MO) (T := fl_MO) (N := 55) hx hb hG in_MO tt_MO tk_MO nn_MO hown hK hP hD hS 0 rfl rfl 5 (by decide) (hG _ k_1196) (fun _ h9 => h9) rfl (by decide +kernel) rfl rfl (Nat.le_of_ble_eq_true rfl) d_MO_operator_148 (fun H locs hP hD hS => ?_)
              have hP : va_P D classes [(h0, .inr (8, mS f tn rm ln lx (at_ + 1) bd1 fs1 dp on1 (os1 + 1) bn df th tp mo_ ev ss so lk rs pt ot cl)), ((f 3), .inl (cL, 2000, .inr (.inl le1))), ((f 4), .inl (cL, 2000, .inr (.inl ri1))), ((f 14), .inl (cL, 120, .inr (.inl opd1))), ((f 15), .inl (cI, 120, .inl g_45)), ((f 12), .inl (cZ, 9, .inl g_46)), ((f 5), .inl (cI, 2000, .inl fr)), ((f 9), .inl (cI, 9, .inl srt)), ((f 10), .inl (cI, 9, .inl bas)), ((f 11), .inl (cI, 9, .inl fst))] H := hP
              have hD : va_D A [(h0, .inr (8, mS f tn rm ln lx (at_ + 1) bd1 fs1 dp on1 (os1 + 1) bn df th tp mo_ ev ss so lk rs pt ot cl)), ((f 3), .inl (cL, 2000, .inr (.inl le1))), ((f 4), .inl (cL, 2000, .inr (.inl ri1))), ((f 14), .inl (cL, 120, .inr (.inl opd1))), ((f 15), .inl (cI, 120, .inl g_45)), ((f 12), .inl (cZ, 9, .inl g_46)), ((f 5), .inl (cI, 2000, .inl fr)), ((f 9), .inl (cI, 9, .inl srt)), ((f 10), .inl (cI, 9, .inl bas)), ((f 11), .inl (cI, 9, .inl fst))] := hD
              exact em_vret hx hb hr hlocks hP hD hK hS (bd1, fs1, on1, os1 + 1, at_ + 1, le1, ri1, opd1, g_45, g_46) [0, 1, 2, 3, 4, 5, 6, 7, 8, 9] (by decide) rfl ⟨rfl, ⟨hg_46, (show bd1 = 0 → bd = 0 from (by first | exact id | exact (fun q => absurd q (by assumption)) | exact (fun q => hbz1 q))), (show bdo bd1 from (by first | assumption | omega | exact Or.inl rfl)), (show (at_ + 1) = at_ + 1 from rfl), (show on1 ≤ on from (by first | assumption | omega | exact Or.inl rfl)), (show (os1 + 1) ≤ os + 1 from (by first | assumption | omega | exact Or.inl rfl)), (show ∃ St' : Nat → Tr, RX Bc le0 ri0 Q b0 srt bas fst g_46 g_45 opd1 le1 ri1 fr fs1 on1 (os1 + 1) bn St' (dp - 1) m1 ob 0 from (by subst eg_46 eg_45; exact ⟨St1, RX_op hRX1 (by omega) (by omega)⟩))⟩⟩ d_MO_operator_151
            · skip
              refine lv_aload_n hx hb d_MO_operator_78 rfl (lv_at hl 0 rfl) ?_
              refine va_get (D := D) (ci := 8) (v := .int (nI os1)) (C := rn_MO) (T := fl_MO) (N := 55) hx hb hG in_MO hown hK hP 0 rfl rfl 18 (by decide) (hG _ k_1209) (fun _ h9 => h9) rfl d_MO_operator_79 ?_
              refine lv_aload_n hx hb d_MO_operator_82 rfl (lv_at hl 0 rfl) ?_
              refine va_get (D := D) (ci := 8) (v := .ref (f 10)) (C := rn_MO) (T := fl_MO) (N := 55) hx hb hG in_MO hown hK hP 0 rfl rfl 21 (by decide) (hG _ k_1212) (fun _ h9 => h9) rfl d_MO_operator_83 ?_
              refine lv_iload_n hx hb d_MO_operator_86 rfl (lv_at hl 2 rfl) ?_
              refine va_iald hx hb hK hP 8 0 rfl rfl (vp_in_nI (n := dp - 1) (N := 9) (by omega) (by omega)) d_MO_operator_87 ?_
              refine W.eq (g2 := F0 m 88 ls [.int (nI ob), .int (nI os1)]) (by rw [nI_clamp (n := dp - 1) (by omega)]; rw [PS_bas hPS]) ?_
              refine lv_icmp_le (tgt := 114) hx hb d_MO_operator_88 (by decide) (fun hb_47 => ?_) (fun hb_47 => ?_)
              · skip
                have hn_48 : os1 ≤ ob := (nI_leI (a := os1) (b := ob) (by omega) (by omega)).mp hb_47
                refine lv_aload_n hx hb d_MO_operator_114 rfl (lv_at hl 0 rfl) ?_
                refine va_get (D := D) (ci := 8) (v := .ref (f 15)) (C := rn_MO) (T := fl_MO) (N := 55) hx hb hG in_MO hown hK hP 0 rfl rfl 26 (by decide) (hG _ k_1217) (fun _ h9 => h9) rfl d_MO_operator_115 ?_
                refine lv_aload_n hx hb d_MO_operator_118 rfl (lv_at hl 0 rfl) ?_
                refine va_get (D := D) (ci := 8) (v := .int (nI os1)) (C := rn_MO) (T := fl_MO) (N := 55) hx hb hG in_MO hown hK hP 0 rfl rfl 18 (by decide) (hG _ k_1209) (fun _ h9 => h9) rfl d_MO_operator_119 ?_
                refine lv_iload_n hx hb d_MO_operator_122 rfl (lv_at hl 1 rfl) ?_
                refine va_iast hx hb hK hP hD hS 4 0 rfl rfl (vp_in_nI (n := os1) (N := 120) (by omega) (by omega)) d_MO_operator_123 (fun H locs hP hD hS => ?_)
                have hP : va_P D classes [(h0, .inr (8, mS f tn rm ln lx at_ bd1 fs1 dp on1 os1 bn df th tp mo_ ev ss so lk rs pt ot cl)), ((f 3), .inl (cL, 2000, .inr (.inl le1))), ((f 4), .inl (cL, 2000, .inr (.inl ri1))), ((f 14), .inl (cL, 120, .inr (.inl opd1))), ((f 15), .inl (cI, 120, .inl (upd opr (nI os1).toNatClampNeg (nI v)))), ((f 12), .inl (cZ, 9, .inl rdy)), ((f 5), .inl (cI, 2000, .inl fr)), ((f 9), .inl (cI, 9, .inl srt)), ((f 10), .inl (cI, 9, .inl bas)), ((f 11), .inl (cI, 9, .inl fst))] H := hP
                have hD : va_D A [(h0, .inr (8, mS f tn rm ln lx at_ bd1 fs1 dp on1 os1 bn df th tp mo_ ev ss so lk rs pt ot cl)), ((f 3), .inl (cL, 2000, .inr (.inl le1))), ((f 4), .inl (cL, 2000, .inr (.inl ri1))), ((f 14), .inl (cL, 120, .inr (.inl opd1))), ((f 15), .inl (cI, 120, .inl (upd opr (nI os1).toNatClampNeg (nI v)))), ((f 12), .inl (cZ, 9, .inl rdy)), ((f 5), .inl (cI, 2000, .inl fr)), ((f 9), .inl (cI, 9, .inl srt)), ((f 10), .inl (cI, 9, .inl bas)), ((f 11), .inl (cI, 9, .inl fst))] := hD
                obtain ⟨g_49, eg_49⟩ : ∃ z, z = upd opr os1 (nI v) := ⟨_, rfl⟩
                rw [nI_clamp (n := os1) (by omega), ← eg_49] at hP hD
                refine lv_aload_n hx hb d_MO_operator_124 rfl (lv_at hl 0 rfl) ?_
                refine lv_dup hx hb d_MO_operator_125 rfl ?_
                refine va_get (D := D) (ci := 8) (v := .int (nI os1)) (C := rn_MO) (T := fl_MO) (N := 55) hx hb hG in_MO hown hK hP 0 rfl rfl 18 (by decide) (hG _ k_1209) (fun _ h9 => h9) rfl d_MO_operator_126 ?_
                refine lv_iconst (v := 1) hx hb d_MO_operator_129 (by decide) ?_
                refine lw_iadd (a := os1) (b := 1) hx hb d_MO_operator_130 ?_
                refine va_put (D := D) (ci := 8) (v := .int (nI (os1 + 1))) (ty := .int) (C := rn_MO) (T := fl_MO) (N := 55) hx hb hG in_MO tt_MO tk_MO nn_MO hown hK hP hD hS 0 rfl rfl 18 (by decide) (hG _ k_1209) (fun _ h9 => h9) rfl (by decide +kernel) rfl rfl (Nat.le_of_ble_eq_true rfl) d_MO_operator_131 (fun H locs hP hD hS => ?_)
                have hP : va_P D classes [(h0, .inr (8, mS f tn rm ln lx at_ bd1 fs1 dp on1 (os1 + 1) bn df th tp mo_ ev ss so lk rs pt ot cl)), ((f 3), .inl (cL, 2000, .inr (.inl le1))), ((f 4), .inl (cL, 2000, .inr (.inl ri1))), ((f 14), .inl (cL, 120, .inr (.inl opd1))), ((f 15), .inl (cI, 120, .inl g_49)), ((f 12), .inl (cZ, 9, .inl rdy)), ((f 5), .inl (cI, 2000, .inl fr)), ((f 9), .inl (cI, 9, .inl srt)), ((f 10), .inl (cI, 9, .inl bas)), ((f 11), .inl (cI, 9, .inl fst))] H := hP
                have hD : va_D A [(h0, .inr (8, mS f tn rm ln lx at_ bd1 fs1 dp on1 (os1 + 1) bn df th tp mo_ ev ss so lk rs pt ot cl)), ((f 3), .inl (cL, 2000, .inr (.inl le1))), ((f 4), .inl (cL, 2000, .inr (.inl ri1))), ((f 14), .inl (cL, 120, .inr (.inl opd1))), ((f 15), .inl (cI, 120, .inl g_49)), ((f 12), .inl (cZ, 9, .inl rdy)), ((f 5), .inl (cI, 2000, .inl fr)), ((f 9), .inl (cI, 9, .inl srt)), ((f 10), .inl (cI, 9, .inl bas)), ((f 11), .inl (cI, 9, .inl fst))] := hD
                refine lv_aload_n hx hb d_MO_operator_134 rfl (lv_at hl 0 rfl) ?_
                refine va_get (D := D) (ci := 8) (v := .ref (f 12)) (C := rn_MO) (T := fl_MO) (N := 55) hx hb hG in_MO hown hK hP 0 rfl rfl 23 (by decide) (hG _ k_1214) (fun _ h9 => h9) rfl d_MO_operator_135 ?_
                refine lv_iload_n hx hb d_MO_operator_138 rfl (lv_at hl 2 rfl) ?_
                refine lv_iconst (v := 0) hx hb d_MO_operator_139 (by decide) ?_
                refine va_zast hx hb hK hP hD hS 5 2 rfl rfl (vp_in_nI (n := dp - 1) (N := 9) (by omega) (by omega)) d_MO_operator_140 (fun H locs hP hD hS => ?_)
                have hP : va_P D classes [(h0, .inr (8, mS f tn rm ln lx at_ bd1 fs1 dp on1 (os1 + 1) bn df th tp mo_ ev ss so lk rs pt ot cl)), ((f 3), .inl (cL, 2000, .inr (.inl le1))), ((f 4), .inl (cL, 2000, .inr (.inl ri1))), ((f 14), .inl (cL, 120, .inr (.inl opd1))), ((f 15), .inl (cI, 120, .inl g_49)), ((f 12), .inl (cZ, 9, .inl (upd rdy (nI (dp - 1)).toNatClampNeg (vp_nar .boolean 0)))), ((f 5), .inl (cI, 2000, .inl fr)), ((f 9), .inl (cI, 9, .inl srt)), ((f 10), .inl (cI, 9, .inl bas)), ((f 11), .inl (cI, 9, .inl fst))] H := hP
                have hD : va_D A [(h0, .inr (8, mS f tn rm ln lx at_ bd1 fs1 dp on1 (os1 + 1) bn df th tp mo_ ev ss so lk rs pt ot cl)), ((f 3), .inl (cL, 2000, .inr (.inl le1))), ((f 4), .inl (cL, 2000, .inr (.inl ri1))), ((f 14), .inl (cL, 120, .inr (.inl opd1))), ((f 15), .inl (cI, 120, .inl g_49)), ((f 12), .inl (cZ, 9, .inl (upd rdy (nI (dp - 1)).toNatClampNeg (vp_nar .boolean 0)))), ((f 5), .inl (cI, 2000, .inl fr)), ((f 9), .inl (cI, 9, .inl srt)), ((f 10), .inl (cI, 9, .inl bas)), ((f 11), .inl (cI, 9, .inl fst))] := hD
                obtain ⟨g_50, eg_50⟩ : ∃ z, z = upd rdy (dp - 1) 0 := ⟨_, rfl⟩
                rw [nI_clamp (n := dp - 1) (by omega), nar_b (Or.inl rfl), ← eg_50] at hP hD
                have hg_50 : bln g_50 := by rw [eg_50]; exact bln_ub hrdy (Or.inl rfl)
                refine lv_aload_n hx hb d_MO_operator_141 rfl (lv_at hl 0 rfl) ?_
                refine lv_dup hx hb d_MO_operator_142 rfl ?_
                refine va_get (D := D) (ci := 8) (v := .int (nI at_)) (C := rn_MO) (T := fl_MO) (N := 55) hx hb hG in_MO hown hK hP 0 rfl rfl 5 (by decide) (hG _ k_1196) (fun _ h9 => h9) rfl d_MO_operator_143 ?_
                refine lv_iconst (v := 1) hx hb d_MO_operator_146 (by decide) ?_
                refine lw_iadd (a := at_) (b := 1) hx hb d_MO_operator_147 ?_
                refine va_put (D := D) (ci := 8) (v := .int (nI (at_ + 1))) (ty := .int) (C := rn_MO) (T := fl_MO) (N := 55) hx hb hG in_MO tt_MO tk_MO nn_MO hown hK hP hD hS 0 rfl rfl 5 (by decide) (hG _ k_1196) (fun _ h9 => h9) rfl (by decide +kernel) rfl rfl (Nat.le_of_ble_eq_true rfl) d_MO_operator_148 (fun H locs hP hD hS => ?_)
                have hP : va_P D classes [(h0, .inr (8, mS f tn rm ln lx (at_ + 1) bd1 fs1 dp on1 (os1 + 1) bn df th tp mo_ ev ss so lk rs pt ot cl)), ((f 3), .inl (cL, 2000, .inr (.inl le1))), ((f 4), .inl (cL, 2000, .inr (.inl ri1))), ((f 14), .inl (cL, 120, .inr (.inl opd1))), ((f 15), .inl (cI, 120, .inl g_49)), ((f 12), .inl (cZ, 9, .inl g_50)), ((f 5), .inl (cI, 2000, .inl fr)), ((f 9), .inl (cI, 9, .inl srt)), ((f 10), .inl (cI, 9, .inl bas)), ((f 11), .inl (cI, 9, .inl fst))] H := hP
                have hD : va_D A [(h0, .inr (8, mS f tn rm ln lx (at_ + 1) bd1 fs1 dp on1 (os1 + 1) bn df th tp mo_ ev ss so lk rs pt ot cl)), ((f 3), .inl (cL, 2000, .inr (.inl le1))), ((f 4), .inl (cL, 2000, .inr (.inl ri1))), ((f 14), .inl (cL, 120, .inr (.inl opd1))), ((f 15), .inl (cI, 120, .inl g_49)), ((f 12), .inl (cZ, 9, .inl g_50)), ((f 5), .inl (cI, 2000, .inl fr)), ((f 9), .inl (cI, 9, .inl srt)), ((f 10), .inl (cI, 9, .inl bas)), ((f 11), .inl (cI, 9, .inl fst))] := hD
                exact em_vret hx hb hr hlocks hP hD hK hS (bd1, fs1, on1, os1 + 1, at_ + 1, le1, ri1, opd1, g_49, g_50) [0, 1, 2, 3, 4, 5, 6, 7, 8, 9] (by decide) rfl ⟨rfl, ⟨hg_50, (show bd1 = 0 → bd = 0 from (by first | exact id | exact (fun q => absurd q (by assumption)) | exact (fun q => hbz1 q))), (show bdo bd1 from (by first | assumption | omega | exact Or.inl rfl)), (show (at_ + 1) = at_ + 1 from rfl), (show on1 ≤ on from (by first | assumption | omega | exact Or.inl rfl)), (show (os1 + 1) ≤ os + 1 from (by first | assumption | omega | exact Or.inl rfl)), (show ∃ St' : Nat → Tr, RX Bc le0 ri0 Q b0 srt bas fst g_50 g_49 opd1 le1 ri1 fr fs1 on1 (os1 + 1) bn St' (dp - 1) m1 ob 0 from (by subst eg_50 eg_49; exact ⟨St1, RX_op hRX1 (by omega) (by omega)⟩))⟩⟩ d_MO_operator_151
              · skip
                have hn_51 : ¬ os1 ≤ ob := fun h => hb_47 ((nI_leI (a := os1) (b := ob) (by omega) (by omega)).mpr h)
                refine lv_aload_n hx hb d_MO_operator_91 rfl (lv_at hl 0 rfl) ?_
                refine va_get (D := D) (ci := 8) (v := .ref (f 15)) (C := rn_MO) (T := fl_MO) (N := 55) hx hb hG in_MO hown hK hP 0 rfl rfl 26 (by decide) (hG _ k_1217) (fun _ h9 => h9) rfl d_MO_operator_92 ?_
                refine lv_aload_n hx hb d_MO_operator_95 rfl (lv_at hl 0 rfl) ?_
                refine va_get (D := D) (ci := 8) (v := .int (nI os1)) (C := rn_MO) (T := fl_MO) (N := 55) hx hb hG in_MO hown hK hP 0 rfl rfl 18 (by decide) (hG _ k_1209) (fun _ h9 => h9) rfl d_MO_operator_96 ?_
                refine lv_iconst (v := 1) hx hb d_MO_operator_99 (by decide) ?_
                refine lw_isub (a := os1) (b := 1) hx hb d_MO_operator_100 (by omega) ?_
                refine va_iald hx hb hK hP 4 0 rfl rfl (vp_in_nI (n := os1 - 1) (N := 120) (by omega) (by omega)) d_MO_operator_101 ?_
                refine W.eq (g2 := F0 m 102 ls [.int (opr (os1 - 1))]) (by rw [nI_clamp (n := os1 - 1) (by omega)]) ?_
                refine W.callR (W.runS (As := [.int (opr (os1 - 1))]) (rest := []) ⟨hx, hb, hml, hown, hG⟩ (mo_rank l D cI cL cZ cC (opr (os1 - 1)) ) (cwS 1 hG (gd_S k_1492 k_1493 k_116 k_1494) rfl rfl rfl (by decide +kernel) ⟨Nat.le_of_ble_eq_true rfl, Nat.le_of_ble_eq_true rfl⟩) (wq_S hP hK [] rfl) rfl rfl hl.1 rfl (lv_room (Nat.le_of_ble_eq_true rfl)) d_MO_operator_102 ⟨Nat.le_of_ble_eq_true rfl, Nat.le_of_ble_eq_true rfl⟩) ?_
                refine W.eq (g2 := F0 m 105 ls [.int (rk (opr (os1 - 1)))]) rfl ?_
                refine lv_iconst (v := 2) hx hb d_MO_operator_105 (by decide) ?_
                refine lv_icmp_ne (tgt := 114) hx hb d_MO_operator_106 (by decide) (fun hb_52 => ?_) (fun hb_52 => ?_)
                · skip
                  refine lv_aload_n hx hb d_MO_operator_114 rfl (lv_at hl 0 rfl) ?_
                  refine va_get (D := D) (ci := 8) (v := .ref (f 15)) (C := rn_MO) (T := fl_MO) (N := 55) hx hb hG in_MO hown hK hP 0 rfl rfl 26 (by decide) (hG _ k_1217) (fun _ h9 => h9) rfl d_MO_operator_115 ?_
                  refine lv_aload_n hx hb d_MO_operator_118 rfl (lv_at hl 0 rfl) ?_
                  refine va_get (D := D) (ci := 8) (v := .int (nI os1)) (C := rn_MO) (T := fl_MO) (N := 55) hx hb hG in_MO hown hK hP 0 rfl rfl 18 (by decide) (hG _ k_1209) (fun _ h9 => h9) rfl d_MO_operator_119 ?_
                  refine lv_iload_n hx hb d_MO_operator_122 rfl (lv_at hl 1 rfl) ?_
                  refine va_iast hx hb hK hP hD hS 4 0 rfl rfl (vp_in_nI (n := os1) (N := 120) (by omega) (by omega)) d_MO_operator_123 (fun H locs hP hD hS => ?_)
                  have hP : va_P D classes [(h0, .inr (8, mS f tn rm ln lx at_ bd1 fs1 dp on1 os1 bn df th tp mo_ ev ss so lk rs pt ot cl)), ((f 3), .inl (cL, 2000, .inr (.inl le1))), ((f 4), .inl (cL, 2000, .inr (.inl ri1))), ((f 14), .inl (cL, 120, .inr (.inl opd1))), ((f 15), .inl (cI, 120, .inl (upd opr (nI os1).toNatClampNeg (nI v)))), ((f 12), .inl (cZ, 9, .inl rdy)), ((f 5), .inl (cI, 2000, .inl fr)), ((f 9), .inl (cI, 9, .inl srt)), ((f 10), .inl (cI, 9, .inl bas)), ((f 11), .inl (cI, 9, .inl fst))] H := hP
                  have hD : va_D A [(h0, .inr (8, mS f tn rm ln lx at_ bd1 fs1 dp on1 os1 bn df th tp mo_ ev ss so lk rs pt ot cl)), ((f 3), .inl (cL, 2000, .inr (.inl le1))), ((f 4), .inl (cL, 2000, .inr (.inl ri1))), ((f 14), .inl (cL, 120, .inr (.inl opd1))), ((f 15), .inl (cI, 120, .inl (upd opr (nI os1).toNatClampNeg (nI v)))), ((f 12), .inl (cZ, 9, .inl rdy)), ((f 5), .inl (cI, 2000, .inl fr)), ((f 9), .inl (cI, 9, .inl srt)), ((f 10), .inl (cI, 9, .inl bas)), ((f 11), .inl (cI, 9, .inl fst))] := hD
                  obtain ⟨g_53, eg_53⟩ : ∃ z, z = upd opr os1 (nI v) := ⟨_, rfl⟩
                  rw [nI_clamp (n := os1) (by omega), ← eg_53] at hP hD
                  refine lv_aload_n hx hb d_MO_operator_124 rfl (lv_at hl 0 rfl) ?_
                  refine lv_dup hx hb d_MO_operator_125 rfl ?_
                  refine va_get (D := D) (ci := 8) (v := .int (nI os1)) (C := rn_MO) (T := fl_MO) (N := 55) hx hb hG in_MO hown hK hP 0 rfl rfl 18 (by decide) (hG _ k_1209) (fun _ h9 => h9) rfl d_MO_operator_126 ?_
                  refine lv_iconst (v := 1) hx hb d_MO_operator_129 (by decide) ?_
                  refine lw_iadd (a := os1) (b := 1) hx hb d_MO_operator_130 ?_
                  refine va_put (D := D) (ci := 8) (v := .int (nI (os1 + 1))) (ty := .int) (C := rn_MO) (T := fl_MO) (N := 55) hx hb hG in_MO tt_MO tk_MO nn_MO hown hK hP hD hS 0 rfl rfl 18 (by decide) (hG _ k_1209) (fun _ h9 => h9) rfl (by decide +kernel) rfl rfl (Nat.le_of_ble_eq_true rfl) d_MO_operator_131 (fun H locs hP hD hS => ?_)
                  have hP : va_P D classes [(h0, .inr (8, mS f tn rm ln lx at_ bd1 fs1 dp on1 (os1 + 1) bn df th tp mo_ ev ss so lk rs pt ot cl)), ((f 3), .inl (cL, 2000, .inr (.inl le1))), ((f 4), .inl (cL, 2000, .inr (.inl ri1))), ((f 14), .inl (cL, 120, .inr (.inl opd1))), ((f 15), .inl (cI, 120, .inl g_53)), ((f 12), .inl (cZ, 9, .inl rdy)), ((f 5), .inl (cI, 2000, .inl fr)), ((f 9), .inl (cI, 9, .inl srt)), ((f 10), .inl (cI, 9, .inl bas)), ((f 11), .inl (cI, 9, .inl fst))] H := hP
                  have hD : va_D A [(h0, .inr (8, mS f tn rm ln lx at_ bd1 fs1 dp on1 (os1 + 1) bn df th tp mo_ ev ss so lk rs pt ot cl)), ((f 3), .inl (cL, 2000, .inr (.inl le1))), ((f 4), .inl (cL, 2000, .inr (.inl ri1))), ((f 14), .inl (cL, 120, .inr (.inl opd1))), ((f 15), .inl (cI, 120, .inl g_53)), ((f 12), .inl (cZ, 9, .inl rdy)), ((f 5), .inl (cI, 2000, .inl fr)), ((f 9), .inl (cI, 9, .inl srt)), ((f 10), .inl (cI, 9, .inl bas)), ((f 11), .inl (cI, 9, .inl fst))] := hD
                  refine lv_aload_n hx hb d_MO_operator_134 rfl (lv_at hl 0 rfl) ?_
                  refine va_get (D := D) (ci := 8) (v := .ref (f 12)) (C := rn_MO) (T := fl_MO) (N := 55) hx hb hG in_MO hown hK hP 0 rfl rfl 23 (by decide) (hG _ k_1214) (fun _ h9 => h9) rfl d_MO_operator_135 ?_
                  refine lv_iload_n hx hb d_MO_operator_138 rfl (lv_at hl 2 rfl) ?_
                  refine lv_iconst (v := 0) hx hb d_MO_operator_139 (by decide) ?_
                  refine va_zast hx hb hK hP hD hS 5 2 rfl rfl (vp_in_nI (n := dp - 1) (N := 9) (by omega) (by omega)) d_MO_operator_140 (fun H locs hP hD hS => ?_)
                  have hP : va_P D classes [(h0, .inr (8, mS f tn rm ln lx at_ bd1 fs1 dp on1 (os1 + 1) bn df th tp mo_ ev ss so lk rs pt ot cl)), ((f 3), .inl (cL, 2000, .inr (.inl le1))), ((f 4), .inl (cL, 2000, .inr (.inl ri1))), ((f 14), .inl (cL, 120, .inr (.inl opd1))), ((f 15), .inl (cI, 120, .inl g_53)), ((f 12), .inl (cZ, 9, .inl (upd rdy (nI (dp - 1)).toNatClampNeg (vp_nar .boolean 0)))), ((f 5), .inl (cI, 2000, .inl fr)), ((f 9), .inl (cI, 9, .inl srt)), ((f 10), .inl (cI, 9, .inl bas)), ((f 11), .inl (cI, 9, .inl fst))] H := hP
                  have hD : va_D A [(h0, .inr (8, mS f tn rm ln lx at_ bd1 fs1 dp on1 (os1 + 1) bn df th tp mo_ ev ss so lk rs pt ot cl)), ((f 3), .inl (cL, 2000, .inr (.inl le1))), ((f 4), .inl (cL, 2000, .inr (.inl ri1))), ((f 14), .inl (cL, 120, .inr (.inl opd1))), ((f 15), .inl (cI, 120, .inl g_53)), ((f 12), .inl (cZ, 9, .inl (upd rdy (nI (dp - 1)).toNatClampNeg (vp_nar .boolean 0)))), ((f 5), .inl (cI, 2000, .inl fr)), ((f 9), .inl (cI, 9, .inl srt)), ((f 10), .inl (cI, 9, .inl bas)), ((f 11), .inl (cI, 9, .inl fst))] := hD
                  obtain ⟨g_54, eg_54⟩ : ∃ z, z = upd rdy (dp - 1) 0 := ⟨_, rfl⟩
                  rw [nI_clamp (n := dp - 1) (by omega), nar_b (Or.inl rfl), ← eg_54] at hP hD
                  have hg_54 : bln g_54 := by rw [eg_54]; exact bln_ub hrdy (Or.inl rfl)
                  refine lv_aload_n hx hb d_MO_operator_141 rfl (lv_at hl 0 rfl) ?_
                  refine lv_dup hx hb d_MO_operator_142 rfl ?_
                  refine va_get (D := D) (ci := 8) (v := .int (nI at_)) (C := rn_MO) (T := fl_MO) (N := 55) hx hb hG in_MO hown hK hP 0 rfl rfl 5 (by decide) (hG _ k_1196) (fun _ h9 => h9) rfl d_MO_operator_143 ?_
                  refine lv_iconst (v := 1) hx hb d_MO_operator_146 (by decide) ?_
                  refine lw_iadd (a := at_) (b := 1) hx hb d_MO_operator_147 ?_
                  refine va_put (D := D) (ci := 8) (v := .int (nI (at_ + 1))) (ty := .int) (C := rn_MO) (T := fl_MO) (N := 55) hx hb hG in_MO tt_MO tk_MO nn_MO hown hK hP hD hS 0 rfl rfl 5 (by decide) (hG _ k_1196) (fun _ h9 => h9) rfl (by decide +kernel) rfl rfl (Nat.le_of_ble_eq_true rfl) d_MO_operator_148 (fun H locs hP hD hS => ?_)
                  have hP : va_P D classes [(h0, .inr (8, mS f tn rm ln lx (at_ + 1) bd1 fs1 dp on1 (os1 + 1) bn df th tp mo_ ev ss so lk rs pt ot cl)), ((f 3), .inl (cL, 2000, .inr (.inl le1))), ((f 4), .inl (cL, 2000, .inr (.inl ri1))), ((f 14), .inl (cL, 120, .inr (.inl opd1))), ((f 15), .inl (cI, 120, .inl g_53)), ((f 12), .inl (cZ, 9, .inl g_54)), ((f 5), .inl (cI, 2000, .inl fr)), ((f 9), .inl (cI, 9, .inl srt)), ((f 10), .inl (cI, 9, .inl bas)), ((f 11), .inl (cI, 9, .inl fst))] H := hP
                  have hD : va_D A [(h0, .inr (8, mS f tn rm ln lx (at_ + 1) bd1 fs1 dp on1 (os1 + 1) bn df th tp mo_ ev ss so lk rs pt ot cl)), ((f 3), .inl (cL, 2000, .inr (.inl le1))), ((f 4), .inl (cL, 2000, .inr (.inl ri1))), ((f 14), .inl (cL, 120, .inr (.inl opd1))), ((f 15), .inl (cI, 120, .inl g_53)), ((f 12), .inl (cZ, 9, .inl g_54)), ((f 5), .inl (cI, 2000, .inl fr)), ((f 9), .inl (cI, 9, .inl srt)), ((f 10), .inl (cI, 9, .inl bas)), ((f 11), .inl (cI, 9, .inl fst))] := hD
                  exact em_vret hx hb hr hlocks hP hD hK hS (bd1, fs1, on1, os1 + 1, at_ + 1, le1, ri1, opd1, g_53, g_54) [0, 1, 2, 3, 4, 5, 6, 7, 8, 9] (by decide) rfl ⟨rfl, ⟨hg_54, (show bd1 = 0 → bd = 0 from (by first | exact id | exact (fun q => absurd q (by assumption)) | exact (fun q => hbz1 q))), (show bdo bd1 from (by first | assumption | omega | exact Or.inl rfl)), (show (at_ + 1) = at_ + 1 from rfl), (show on1 ≤ on from (by first | assumption | omega | exact Or.inl rfl)), (show (os1 + 1) ≤ os + 1 from (by first | assumption | omega | exact Or.inl rfl)), (show ∃ St' : Nat → Tr, RX Bc le0 ri0 Q b0 srt bas fst g_54 g_53 opd1 le1 ri1 fr fs1 on1 (os1 + 1) bn St' (dp - 1) m1 ob 0 from (by subst eg_54 eg_53; exact ⟨St1, RX_op hRX1 (by omega) (by omega)⟩))⟩⟩ d_MO_operator_151
                · skip
                  refine lv_aload_n hx hb d_MO_operator_109 rfl (lv_at hl 0 rfl) ?_
                  refine lv_iconst (v := 1) hx hb d_MO_operator_110 (by decide) ?_
                  refine em_call (wr := [((f 3), .inl (cL, 2000, .inr (.inl le1))), ((f 4), .inl (cL, 2000, .inr (.inl ri1))), ((f 14), .inl (cL, 120, .inr (.inl opd1))), ((f 15), .inl (cI, 120, .inl opr)), ((f 12), .inl (cZ, 9, .inl rdy)), ((f 5), .inl (cI, 2000, .inl fr)), ((f 9), .inl (cI, 9, .inl srt)), ((f 10), .inl (cI, 9, .inl bas)), ((f 11), .inl (cI, 9, .inl fst))]) (em_runV (As := [.int 1]) (rest := []) ⟨hx, hb, hml, hown, hG⟩ (mo_wrong l D cI cL cZ cC f h0 tn rm ln lx at_ bd1 fs1 dp on1 os1 bn df th tp mo_ ev ss so lk rs pt ot cl 1 _ (by decide) (by first | assumption | omega | exact Or.inl rfl) hnt) (cwV 1 hG (gd_V k_1388 k_1390 k_54 k_116 k_1391) rfl rfl rfl (by decide +kernel) ⟨Nat.le_of_ble_eq_true rfl, Nat.le_of_ble_eq_true rfl⟩) (tw_V (q0 := 0) hP hD hK hE hst hS rfl rfl [0] rfl (by decide)) rfl rfl hl.1 rfl (lv_room (Nat.le_of_ble_eq_true rfl)) d_MO_operator_111 ⟨Nat.le_of_ble_eq_true rfl, Nat.le_of_ble_eq_true rfl⟩) hP hD hS hA [0] [1, 2, 3, 4, 5, 6, 7, 8, 9] rfl rfl (by decide) (by decide) (fun v u H locs hok hP hD hS => ?_) (fun x C u H locs hbad hxx hP hD hS => ?_)
                  · skip
                    obtain ⟨bd_55, rfl⟩ : ∃ z, z = u := ⟨_, rfl⟩
                    obtain ⟨rfl, hp_57⟩ := hok
                    obtain ⟨hbn_58, hbo_59, hbx_60⟩ : (¬ bd_55 = 0) ∧ (bdo bd_55) ∧ (bd1 = 0 → bd_55 = (1 : Int32)) := hp_57
                    have hP : va_P D classes [((f 3), .inl (cL, 2000, .inr (.inl le1))), ((f 4), .inl (cL, 2000, .inr (.inl ri1))), ((f 14), .inl (cL, 120, .inr (.inl opd1))), ((f 15), .inl (cI, 120, .inl opr)), ((f 12), .inl (cZ, 9, .inl rdy)), ((f 5), .inl (cI, 2000, .inl fr)), ((f 9), .inl (cI, 9, .inl srt)), ((f 10), .inl (cI, 9, .inl bas)), ((f 11), .inl (cI, 9, .inl fst)), (h0, .inr (8, mS f tn rm ln lx at_ bd_55 fs1 dp on1 os1 bn df th tp mo_ ev ss so lk rs pt ot cl))] H := hP
                    have hD : va_D A [((f 3), .inl (cL, 2000, .inr (.inl le1))), ((f 4), .inl (cL, 2000, .inr (.inl ri1))), ((f 14), .inl (cL, 120, .inr (.inl opd1))), ((f 15), .inl (cI, 120, .inl opr)), ((f 12), .inl (cZ, 9, .inl rdy)), ((f 5), .inl (cI, 2000, .inl fr)), ((f 9), .inl (cI, 9, .inl srt)), ((f 10), .inl (cI, 9, .inl bas)), ((f 11), .inl (cI, 9, .inl fst)), (h0, .inr (8, mS f tn rm ln lx at_ bd_55 fs1 dp on1 os1 bn df th tp mo_ ev ss so lk rs pt ot cl))] := hD
                    refine W.eq (g2 := F0 m 114 ls []) rfl ?_
                    refine lv_aload_n hx hb d_MO_operator_114 rfl (lv_at hl 0 rfl) ?_
                    refine va_get (D := D) (ci := 8) (v := .ref (f 15)) (C := rn_MO) (T := fl_MO) (N := 55) hx hb hG in_MO hown hK hP 9 rfl rfl 26 (by decide) (hG _ k_1217) (fun _ h9 => h9) rfl d_MO_operator_115 ?_
                    refine lv_aload_n hx hb d_MO_operator_118 rfl (lv_at hl 0 rfl) ?_
                    refine va_get (D := D) (ci := 8) (v := .int (nI os1)) (C := rn_MO) (T := fl_MO) (N := 55) hx hb hG in_MO hown hK hP 9 rfl rfl 18 (by decide) (hG _ k_1209) (fun _ h9 => h9) rfl d_MO_operator_119 ?_
                    refine lv_iload_n hx hb d_MO_operator_122 rfl (lv_at hl 1 rfl) ?_
                    refine va_iast hx hb hK hP hD hS 3 0 rfl rfl (vp_in_nI (n := os1) (N := 120) (by omega) (by omega)) d_MO_operator_123 (fun H locs hP hD hS => ?_)
                    have hP : va_P D classes [((f 3), .inl (cL, 2000, .inr (.inl le1))), ((f 4), .inl (cL, 2000, .inr (.inl ri1))), ((f 14), .inl (cL, 120, .inr (.inl opd1))), ((f 15), .inl (cI, 120, .inl (upd opr (nI os1).toNatClampNeg (nI v)))), ((f 12), .inl (cZ, 9, .inl rdy)), ((f 5), .inl (cI, 2000, .inl fr)), ((f 9), .inl (cI, 9, .inl srt)), ((f 10), .inl (cI, 9, .inl bas)), ((f 11), .inl (cI, 9, .inl fst)), (h0, .inr (8, mS f tn rm ln lx at_ bd_55 fs1 dp on1 os1 bn df th tp mo_ ev ss so lk rs pt ot cl))] H := hP
                    have hD : va_D A [((f 3), .inl (cL, 2000, .inr (.inl le1))), ((f 4), .inl (cL, 2000, .inr (.inl ri1))), ((f 14), .inl (cL, 120, .inr (.inl opd1))), ((f 15), .inl (cI, 120, .inl (upd opr (nI os1).toNatClampNeg (nI v)))), ((f 12), .inl (cZ, 9, .inl rdy)), ((f 5), .inl (cI, 2000, .inl fr)), ((f 9), .inl (cI, 9, .inl srt)), ((f 10), .inl (cI, 9, .inl bas)), ((f 11), .inl (cI, 9, .inl fst)), (h0, .inr (8, mS f tn rm ln lx at_ bd_55 fs1 dp on1 os1 bn df th tp mo_ ev ss so lk rs pt ot cl))] := hD
                    obtain ⟨g_62, eg_62⟩ : ∃ z, z = upd opr os1 (nI v) := ⟨_, rfl⟩
                    rw [nI_clamp (n := os1) (by omega), ← eg_62] at hP hD
                    refine lv_aload_n hx hb d_MO_operator_124 rfl (lv_at hl 0 rfl) ?_
                    refine lv_dup hx hb d_MO_operator_125 rfl ?_
                    refine va_get (D := D) (ci := 8) (v := .int (nI os1)) (C := rn_MO) (T := fl_MO) (N := 55) hx hb hG in_MO hown hK hP 9 rfl rfl 18 (by decide) (hG _ k_1209) (fun _ h9 => h9) rfl d_MO_operator_126 ?_
                    refine lv_iconst (v := 1) hx hb d_MO_operator_129 (by decide) ?_
                    refine lw_iadd (a := os1) (b := 1) hx hb d_MO_operator_130 ?_
                    refine va_put (D := D) (ci := 8) (v := .int (nI (os1 + 1))) (ty := .int) (C := rn_MO) (T := fl_MO) (N := 55) hx hb hG in_MO tt_MO tk_MO nn_MO hown hK hP hD hS 9 rfl rfl 18 (by decide) (hG _ k_1209) (fun _ h9 => h9) rfl (by decide +kernel) rfl rfl (Nat.le_of_ble_eq_true rfl) d_MO_operator_131 (fun H locs hP hD hS => ?_)
                    have hP : va_P D classes [((f 3), .inl (cL, 2000, .inr (.inl le1))), ((f 4), .inl (cL, 2000, .inr (.inl ri1))), ((f 14), .inl (cL, 120, .inr (.inl opd1))), ((f 15), .inl (cI, 120, .inl g_62)), ((f 12), .inl (cZ, 9, .inl rdy)), ((f 5), .inl (cI, 2000, .inl fr)), ((f 9), .inl (cI, 9, .inl srt)), ((f 10), .inl (cI, 9, .inl bas)), ((f 11), .inl (cI, 9, .inl fst)), (h0, .inr (8, mS f tn rm ln lx at_ bd_55 fs1 dp on1 (os1 + 1) bn df th tp mo_ ev ss so lk rs pt ot cl))] H := hP
                    have hD : va_D A [((f 3), .inl (cL, 2000, .inr (.inl le1))), ((f 4), .inl (cL, 2000, .inr (.inl ri1))), ((f 14), .inl (cL, 120, .inr (.inl opd1))), ((f 15), .inl (cI, 120, .inl g_62)), ((f 12), .inl (cZ, 9, .inl rdy)), ((f 5), .inl (cI, 2000, .inl fr)), ((f 9), .inl (cI, 9, .inl srt)), ((f 10), .inl (cI, 9, .inl bas)), ((f 11), .inl (cI, 9, .inl fst)), (h0, .inr (8, mS f tn rm ln lx at_ bd_55 fs1 dp on1 (os1 + 1) bn df th tp mo_ ev ss so lk rs pt ot cl))] := hD
                    refine lv_aload_n hx hb d_MO_operator_134 rfl (lv_at hl 0 rfl) ?_
                    refine va_get (D := D) (ci := 8) (v := .ref (f 12)) (C := rn_MO) (T := fl_MO) (N := 55) hx hb hG in_MO hown hK hP 9 rfl rfl 23 (by decide) (hG _ k_1214) (fun _ h9 => h9) rfl d_MO_operator_135 ?_
                    refine lv_iload_n hx hb d_MO_operator_138 rfl (lv_at hl 2 rfl) ?_
                    refine lv_iconst (v := 0) hx hb d_MO_operator_139 (by decide) ?_
                    refine va_zast hx hb hK hP hD hS 4 2 rfl rfl (vp_in_nI (n := dp - 1) (N := 9) (by omega) (by omega)) d_MO_operator_140 (fun H locs hP hD hS => ?_)
                    have hP : va_P D classes [((f 3), .inl (cL, 2000, .inr (.inl le1))), ((f 4), .inl (cL, 2000, .inr (.inl ri1))), ((f 14), .inl (cL, 120, .inr (.inl opd1))), ((f 15), .inl (cI, 120, .inl g_62)), ((f 12), .inl (cZ, 9, .inl (upd rdy (nI (dp - 1)).toNatClampNeg (vp_nar .boolean 0)))), ((f 5), .inl (cI, 2000, .inl fr)), ((f 9), .inl (cI, 9, .inl srt)), ((f 10), .inl (cI, 9, .inl bas)), ((f 11), .inl (cI, 9, .inl fst)), (h0, .inr (8, mS f tn rm ln lx at_ bd_55 fs1 dp on1 (os1 + 1) bn df th tp mo_ ev ss so lk rs pt ot cl))] H := hP
                    have hD : va_D A [((f 3), .inl (cL, 2000, .inr (.inl le1))), ((f 4), .inl (cL, 2000, .inr (.inl ri1))), ((f 14), .inl (cL, 120, .inr (.inl opd1))), ((f 15), .inl (cI, 120, .inl g_62)), ((f 12), .inl (cZ, 9, .inl (upd rdy (nI (dp - 1)).toNatClampNeg (vp_nar .boolean 0)))), ((f 5), .inl (cI, 2000, .inl fr)), ((f 9), .inl (cI, 9, .inl srt)), ((f 10), .inl (cI, 9, .inl bas)), ((f 11), .inl (cI, 9, .inl fst)), (h0, .inr (8, mS f tn rm ln lx at_ bd_55 fs1 dp on1 (os1 + 1) bn df th tp mo_ ev ss so lk rs pt ot cl))] := hD
                    obtain ⟨g_63, eg_63⟩ : ∃ z, z = upd rdy (dp - 1) 0 := ⟨_, rfl⟩
                    rw [nI_clamp (n := dp - 1) (by omega), nar_b (Or.inl rfl), ← eg_63] at hP hD
                    have hg_63 : bln g_63 := by rw [eg_63]; exact bln_ub hrdy (Or.inl rfl)
                    refine lv_aload_n hx hb d_MO_operator_141 rfl (lv_at hl 0 rfl) ?_
                    refine lv_dup hx hb d_MO_operator_142 rfl ?_
                    refine va_get (D := D) (ci := 8) (v := .int (nI at_)) (C := rn_MO) (T := fl_MO) (N := 55) hx hb hG in_MO hown hK hP 9 rfl rfl 5 (by decide) (hG _ k_1196) (fun _ h9 => h9) rfl d_MO_operator_143 ?_
                    refine lv_iconst (v := 1) hx hb d_MO_operator_146 (by decide) ?_
                    refine lw_iadd (a := at_) (b := 1) hx hb d_MO_operator_147 ?_
                    refine va_put (D := D) (ci := 8) (v := .int (nI (at_ + 1))) (ty := .int) (C := rn_MO) (T := fl_MO) (N := 55) hx hb hG in_MO tt_MO tk_MO nn_MO hown hK hP hD hS 9 rfl rfl 5 (by decide) (hG _ k_1196) (fun _ h9 => h9) rfl (by decide +kernel) rfl rfl (Nat.le_of_ble_eq_true rfl) d_MO_operator_148 (fun H locs hP hD hS => ?_)
                    have hP : va_P D classes [((f 3), .inl (cL, 2000, .inr (.inl le1))), ((f 4), .inl (cL, 2000, .inr (.inl ri1))), ((f 14), .inl (cL, 120, .inr (.inl opd1))), ((f 15), .inl (cI, 120, .inl g_62)), ((f 12), .inl (cZ, 9, .inl g_63)), ((f 5), .inl (cI, 2000, .inl fr)), ((f 9), .inl (cI, 9, .inl srt)), ((f 10), .inl (cI, 9, .inl bas)), ((f 11), .inl (cI, 9, .inl fst)), (h0, .inr (8, mS f tn rm ln lx (at_ + 1) bd_55 fs1 dp on1 (os1 + 1) bn df th tp mo_ ev ss so lk rs pt ot cl))] H := hP
                    have hD : va_D A [((f 3), .inl (cL, 2000, .inr (.inl le1))), ((f 4), .inl (cL, 2000, .inr (.inl ri1))), ((f 14), .inl (cL, 120, .inr (.inl opd1))), ((f 15), .inl (cI, 120, .inl g_62)), ((f 12), .inl (cZ, 9, .inl g_63)), ((f 5), .inl (cI, 2000, .inl fr)), ((f 9), .inl (cI, 9, .inl srt)), ((f 10), .inl (cI, 9, .inl bas)), ((f 11), .inl (cI, 9, .inl fst)), (h0, .inr (8, mS f tn rm ln lx (at_ + 1) bd_55 fs1 dp on1 (os1 + 1) bn df th tp mo_ ev ss so lk rs pt ot cl))] := hD
                    exact em_vret hx hb hr hlocks hP hD hK hS (bd_55, fs1, on1, os1 + 1, at_ + 1, le1, ri1, opd1, g_62, g_63) [9, 0, 1, 2, 3, 4, 5, 6, 7, 8] (by decide) rfl ⟨rfl, ⟨hg_63, (show bd_55 = 0 → bd = 0 from (by first | exact id | exact (fun q => absurd q (by assumption)) | exact (fun q => hbz1 q))), (show bdo bd_55 from (by first | assumption | omega | exact Or.inl rfl)), (show (at_ + 1) = at_ + 1 from rfl), (show on1 ≤ on from (by first | assumption | omega | exact Or.inl rfl)), (show (os1 + 1) ≤ os + 1 from (by first | assumption | omega | exact Or.inl rfl)), (show ∃ St' : Nat → Tr, RX Bc le0 ri0 Q b0 srt bas fst g_63 g_62 opd1 le1 ri1 fr fs1 on1 (os1 + 1) bn St' (dp - 1) m1 ob 0 from (by subst eg_63 eg_62; exact ⟨St1, RX_op hRX1 (by omega) (by omega)⟩))⟩⟩ d_MO_operator_151
                  · skip
                    exact hbad.elim
          · skip
            refine lv_iload_n hx hb d_MO_operator_61 rfl (lv_at hl 3 rfl) ?_
            refine lv_iconst (v := 2) hx hb d_MO_operator_62 (by decide) ?_
            refine lv_icmp_le (tgt := 73) hx hb d_MO_operator_63 (by decide) (fun hb_64 => ?_) (fun hb_64 => ?_)
            · skip
              refine lv_iload_n hx hb d_MO_operator_73 rfl (lv_at hl 3 rfl) ?_
              refine lv_iconst (v := 2) hx hb d_MO_operator_74 (by decide) ?_
              refine lv_icmp_ne (tgt := 114) hx hb d_MO_operator_75 (by decide) (fun hb_65 => ?_) (fun hb_65 => ?_)
              · skip
                refine lv_aload_n hx hb d_MO_operator_114 rfl (lv_at hl 0 rfl) ?_
                refine va_get (D := D) (ci := 8) (v := .ref (f 15)) (C := rn_MO) (T := fl_MO) (N := 55) hx hb hG in_MO hown hK hP 0 rfl rfl 26 (by decide) (hG _ k_1217) (fun _ h9 => h9) rfl d_MO_operator_115 ?_
                refine lv_aload_n hx hb d_MO_operator_118 rfl (lv_at hl 0 rfl) ?_
                refine va_get (D := D) (ci := 8) (v := .int (nI os1)) (C := rn_MO) (T := fl_MO) (N := 55) hx hb hG in_MO hown hK hP 0 rfl rfl 18 (by decide) (hG _ k_1209) (fun _ h9 => h9) rfl d_MO_operator_119 ?_
                refine lv_iload_n hx hb d_MO_operator_122 rfl (lv_at hl 1 rfl) ?_
                refine va_iast hx hb hK hP hD hS 4 0 rfl rfl (vp_in_nI (n := os1) (N := 120) (by omega) (by omega)) d_MO_operator_123 (fun H locs hP hD hS => ?_)
                have hP : va_P D classes [(h0, .inr (8, mS f tn rm ln lx at_ bd1 fs1 dp on1 os1 bn df th tp mo_ ev ss so lk rs pt ot cl)), ((f 3), .inl (cL, 2000, .inr (.inl le1))), ((f 4), .inl (cL, 2000, .inr (.inl ri1))), ((f 14), .inl (cL, 120, .inr (.inl opd1))), ((f 15), .inl (cI, 120, .inl (upd opr (nI os1).toNatClampNeg (nI v)))), ((f 12), .inl (cZ, 9, .inl rdy)), ((f 5), .inl (cI, 2000, .inl fr)), ((f 9), .inl (cI, 9, .inl srt)), ((f 10), .inl (cI, 9, .inl bas)), ((f 11), .inl (cI, 9, .inl fst))] H := hP
                have hD : va_D A [(h0, .inr (8, mS f tn rm ln lx at_ bd1 fs1 dp on1 os1 bn df th tp mo_ ev ss so lk rs pt ot cl)), ((f 3), .inl (cL, 2000, .inr (.inl le1))), ((f 4), .inl (cL, 2000, .inr (.inl ri1))), ((f 14), .inl (cL, 120, .inr (.inl opd1))), ((f 15), .inl (cI, 120, .inl (upd opr (nI os1).toNatClampNeg (nI v)))), ((f 12), .inl (cZ, 9, .inl rdy)), ((f 5), .inl (cI, 2000, .inl fr)), ((f 9), .inl (cI, 9, .inl srt)), ((f 10), .inl (cI, 9, .inl bas)), ((f 11), .inl (cI, 9, .inl fst))] := hD
                obtain ⟨g_66, eg_66⟩ : ∃ z, z = upd opr os1 (nI v) := ⟨_, rfl⟩
                rw [nI_clamp (n := os1) (by omega), ← eg_66] at hP hD
                refine lv_aload_n hx hb d_MO_operator_124 rfl (lv_at hl 0 rfl) ?_
                refine lv_dup hx hb d_MO_operator_125 rfl ?_
                refine va_get (D := D) (ci := 8) (v := .int (nI os1)) (C := rn_MO) (T := fl_MO) (N := 55) hx hb hG in_MO hown hK hP 0 rfl rfl 18 (by decide) (hG _ k_1209) (fun _ h9 => h9) rfl d_MO_operator_126 ?_
                refine lv_iconst (v := 1) hx hb d_MO_operator_129 (by decide) ?_
                refine lw_iadd (a := os1) (b := 1) hx hb d_MO_operator_130 ?_
                refine va_put (D := D) (ci := 8) (v := .int (nI (os1 + 1))) (ty := .int) (C := rn_MO) (T := fl_MO) (N := 55) hx hb hG in_MO tt_MO tk_MO nn_MO hown hK hP hD hS 0 rfl rfl 18 (by decide) (hG _ k_1209) (fun _ h9 => h9) rfl (by decide +kernel) rfl rfl (Nat.le_of_ble_eq_true rfl) d_MO_operator_131 (fun H locs hP hD hS => ?_)
                have hP : va_P D classes [(h0, .inr (8, mS f tn rm ln lx at_ bd1 fs1 dp on1 (os1 + 1) bn df th tp mo_ ev ss so lk rs pt ot cl)), ((f 3), .inl (cL, 2000, .inr (.inl le1))), ((f 4), .inl (cL, 2000, .inr (.inl ri1))), ((f 14), .inl (cL, 120, .inr (.inl opd1))), ((f 15), .inl (cI, 120, .inl g_66)), ((f 12), .inl (cZ, 9, .inl rdy)), ((f 5), .inl (cI, 2000, .inl fr)), ((f 9), .inl (cI, 9, .inl srt)), ((f 10), .inl (cI, 9, .inl bas)), ((f 11), .inl (cI, 9, .inl fst))] H := hP
                have hD : va_D A [(h0, .inr (8, mS f tn rm ln lx at_ bd1 fs1 dp on1 (os1 + 1) bn df th tp mo_ ev ss so lk rs pt ot cl)), ((f 3), .inl (cL, 2000, .inr (.inl le1))), ((f 4), .inl (cL, 2000, .inr (.inl ri1))), ((f 14), .inl (cL, 120, .inr (.inl opd1))), ((f 15), .inl (cI, 120, .inl g_66)), ((f 12), .inl (cZ, 9, .inl rdy)), ((f 5), .inl (cI, 2000, .inl fr)), ((f 9), .inl (cI, 9, .inl srt)), ((f 10), .inl (cI, 9, .inl bas)), ((f 11), .inl (cI, 9, .inl fst))] := hD
                refine lv_aload_n hx hb d_MO_operator_134 rfl (lv_at hl 0 rfl) ?_
                refine va_get (D := D) (ci := 8) (v := .ref (f 12)) (C := rn_MO) (T := fl_MO) (N := 55) hx hb hG in_MO hown hK hP 0 rfl rfl 23 (by decide) (hG _ k_1214) (fun _ h9 => h9) rfl d_MO_operator_135 ?_
                refine lv_iload_n hx hb d_MO_operator_138 rfl (lv_at hl 2 rfl) ?_
                refine lv_iconst (v := 0) hx hb d_MO_operator_139 (by decide) ?_
                refine va_zast hx hb hK hP hD hS 5 2 rfl rfl (vp_in_nI (n := dp - 1) (N := 9) (by omega) (by omega)) d_MO_operator_140 (fun H locs hP hD hS => ?_)
                have hP : va_P D classes [(h0, .inr (8, mS f tn rm ln lx at_ bd1 fs1 dp on1 (os1 + 1) bn df th tp mo_ ev ss so lk rs pt ot cl)), ((f 3), .inl (cL, 2000, .inr (.inl le1))), ((f 4), .inl (cL, 2000, .inr (.inl ri1))), ((f 14), .inl (cL, 120, .inr (.inl opd1))), ((f 15), .inl (cI, 120, .inl g_66)), ((f 12), .inl (cZ, 9, .inl (upd rdy (nI (dp - 1)).toNatClampNeg (vp_nar .boolean 0)))), ((f 5), .inl (cI, 2000, .inl fr)), ((f 9), .inl (cI, 9, .inl srt)), ((f 10), .inl (cI, 9, .inl bas)), ((f 11), .inl (cI, 9, .inl fst))] H := hP
                have hD : va_D A [(h0, .inr (8, mS f tn rm ln lx at_ bd1 fs1 dp on1 (os1 + 1) bn df th tp mo_ ev ss so lk rs pt ot cl)), ((f 3), .inl (cL, 2000, .inr (.inl le1))), ((f 4), .inl (cL, 2000, .inr (.inl ri1))), ((f 14), .inl (cL, 120, .inr (.inl opd1))), ((f 15), .inl (cI, 120, .inl g_66)), ((f 12), .inl (cZ, 9, .inl (upd rdy (nI (dp - 1)).toNatClampNeg (vp_nar .boolean 0)))), ((f 5), .inl (cI, 2000, .inl fr)), ((f 9), .inl (cI, 9, .inl srt)), ((f 10), .inl (cI, 9, .inl bas)), ((f 11), .inl (cI, 9, .inl fst))] := hD
                obtain ⟨g_67, eg_67⟩ : ∃ z, z = upd rdy (dp - 1) 0 := ⟨_, rfl⟩
                rw [nI_clamp (n := dp - 1) (by omega), nar_b (Or.inl rfl), ← eg_67] at hP hD
                have hg_67 : bln g_67 := by rw [eg_67]; exact bln_ub hrdy (Or.inl rfl)
                refine lv_aload_n hx hb d_MO_operator_141 rfl (lv_at hl 0 rfl) ?_
                refine lv_dup hx hb d_MO_operator_142 rfl ?_
                refine va_get (D := D) (ci := 8) (v := .int (nI at_)) (C := rn_MO) (T := fl_MO) (N := 55) hx hb hG in_MO hown hK hP 0 rfl rfl 5 (by decide) (hG _ k_1196) (fun _ h9 => h9) rfl d_MO_operator_143 ?_
                refine lv_iconst (v := 1) hx hb d_MO_operator_146 (by decide) ?_
                refine lw_iadd (a := at_) (b := 1) hx hb d_MO_operator_147 ?_
                refine va_put (D := D) (ci := 8) (v := .int (nI (at_ + 1))) (ty := .int) (C := rn_MO) (T := fl_MO) (N := 55) hx hb hG in_MO tt_MO tk_MO nn_MO hown hK hP hD hS 0 rfl rfl 5 (by decide) (hG _ k_1196) (fun _ h9 => h9) rfl (by decide +kernel) rfl rfl (Nat.le_of_ble_eq_true rfl) d_MO_operator_148 (fun H locs hP hD hS => ?_)
                have hP : va_P D classes [(h0, .inr (8, mS f tn rm ln lx (at_ + 1) bd1 fs1 dp on1 (os1 + 1) bn df th tp mo_ ev ss so lk rs pt ot cl)), ((f 3), .inl (cL, 2000, .inr (.inl le1))), ((f 4), .inl (cL, 2000, .inr (.inl ri1))), ((f 14), .inl (cL, 120, .inr (.inl opd1))), ((f 15), .inl (cI, 120, .inl g_66)), ((f 12), .inl (cZ, 9, .inl g_67)), ((f 5), .inl (cI, 2000, .inl fr)), ((f 9), .inl (cI, 9, .inl srt)), ((f 10), .inl (cI, 9, .inl bas)), ((f 11), .inl (cI, 9, .inl fst))] H := hP
                have hD : va_D A [(h0, .inr (8, mS f tn rm ln lx (at_ + 1) bd1 fs1 dp on1 (os1 + 1) bn df th tp mo_ ev ss so lk rs pt ot cl)), ((f 3), .inl (cL, 2000, .inr (.inl le1))), ((f 4), .inl (cL, 2000, .inr (.inl ri1))), ((f 14), .inl (cL, 120, .inr (.inl opd1))), ((f 15), .inl (cI, 120, .inl g_66)), ((f 12), .inl (cZ, 9, .inl g_67)), ((f 5), .inl (cI, 2000, .inl fr)), ((f 9), .inl (cI, 9, .inl srt)), ((f 10), .inl (cI, 9, .inl bas)), ((f 11), .inl (cI, 9, .inl fst))] := hD
                exact em_vret hx hb hr hlocks hP hD hK hS (bd1, fs1, on1, os1 + 1, at_ + 1, le1, ri1, opd1, g_66, g_67) [0, 1, 2, 3, 4, 5, 6, 7, 8, 9] (by decide) rfl ⟨rfl, ⟨hg_67, (show bd1 = 0 → bd = 0 from (by first | exact id | exact (fun q => absurd q (by assumption)) | exact (fun q => hbz1 q))), (show bdo bd1 from (by first | assumption | omega | exact Or.inl rfl)), (show (at_ + 1) = at_ + 1 from rfl), (show on1 ≤ on from (by first | assumption | omega | exact Or.inl rfl)), (show (os1 + 1) ≤ os + 1 from (by first | assumption | omega | exact Or.inl rfl)), (show ∃ St' : Nat → Tr, RX Bc le0 ri0 Q b0 srt bas fst g_67 g_66 opd1 le1 ri1 fr fs1 on1 (os1 + 1) bn St' (dp - 1) m1 ob 0 from (by subst eg_67 eg_66; exact ⟨St1, RX_op hRX1 (by omega) (by omega)⟩))⟩⟩ d_MO_operator_151
              · skip
                refine lv_aload_n hx hb d_MO_operator_78 rfl (lv_at hl 0 rfl) ?_
                refine va_get (D := D) (ci := 8) (v := .int (nI os1)) (C := rn_MO) (T := fl_MO) (N := 55) hx hb hG in_MO hown hK hP 0 rfl rfl 18 (by decide) (hG _ k_1209) (fun _ h9 => h9) rfl d_MO_operator_79 ?_
                refine lv_aload_n hx hb d_MO_operator_82 rfl (lv_at hl 0 rfl) ?_
                refine va_get (D := D) (ci := 8) (v := .ref (f 10)) (C := rn_MO) (T := fl_MO) (N := 55) hx hb hG in_MO hown hK hP 0 rfl rfl 21 (by decide) (hG _ k_1212) (fun _ h9 => h9) rfl d_MO_operator_83 ?_
                refine lv_iload_n hx hb d_MO_operator_86 rfl (lv_at hl 2 rfl) ?_
                refine va_iald hx hb hK hP 8 0 rfl rfl (vp_in_nI (n := dp - 1) (N := 9) (by omega) (by omega)) d_MO_operator_87 ?_
                refine W.eq (g2 := F0 m 88 ls [.int (nI ob), .int (nI os1)]) (by rw [nI_clamp (n := dp - 1) (by omega)]; rw [PS_bas hPS]) ?_
                refine lv_icmp_le (tgt := 114) hx hb d_MO_operator_88 (by decide) (fun hb_68 => ?_) (fun hb_68 => ?_)
                · skip
                  have hn_69 : os1 ≤ ob := (nI_leI (a := os1) (b := ob) (by omega) (by omega)).mp hb_68
                  refine lv_aload_n hx hb d_MO_operator_114 rfl (lv_at hl 0 rfl) ?_
                  refine va_get (D := D) (ci := 8) (v := .ref (f 15)) (C := rn_MO) (T := fl_MO) (N := 55) hx hb hG in_MO hown hK hP 0 rfl rfl 26 (by decide) (hG _ k_1217) (fun _ h9 => h9) rfl d_MO_operator_115 ?_
                  refine lv_aload_n hx hb d_MO_operator_118 rfl (lv_at hl 0 rfl) ?_
                  refine va_get (D := D) (ci := 8) (v := .int (nI os1)) (C := rn_MO) (T := fl_MO) (N := 55) hx hb hG in_MO hown hK hP 0 rfl rfl 18 (by decide) (hG _ k_1209) (fun _ h9 => h9) rfl d_MO_operator_119 ?_
                  refine lv_iload_n hx hb d_MO_operator_122 rfl (lv_at hl 1 rfl) ?_
                  refine va_iast hx hb hK hP hD hS 4 0 rfl rfl (vp_in_nI (n := os1) (N := 120) (by omega) (by omega)) d_MO_operator_123 (fun H locs hP hD hS => ?_)
                  have hP : va_P D classes [(h0, .inr (8, mS f tn rm ln lx at_ bd1 fs1 dp on1 os1 bn df th tp mo_ ev ss so lk rs pt ot cl)), ((f 3), .inl (cL, 2000, .inr (.inl le1))), ((f 4), .inl (cL, 2000, .inr (.inl ri1))), ((f 14), .inl (cL, 120, .inr (.inl opd1))), ((f 15), .inl (cI, 120, .inl (upd opr (nI os1).toNatClampNeg (nI v)))), ((f 12), .inl (cZ, 9, .inl rdy)), ((f 5), .inl (cI, 2000, .inl fr)), ((f 9), .inl (cI, 9, .inl srt)), ((f 10), .inl (cI, 9, .inl bas)), ((f 11), .inl (cI, 9, .inl fst))] H := hP
                  have hD : va_D A [(h0, .inr (8, mS f tn rm ln lx at_ bd1 fs1 dp on1 os1 bn df th tp mo_ ev ss so lk rs pt ot cl)), ((f 3), .inl (cL, 2000, .inr (.inl le1))), ((f 4), .inl (cL, 2000, .inr (.inl ri1))), ((f 14), .inl (cL, 120, .inr (.inl opd1))), ((f 15), .inl (cI, 120, .inl (upd opr (nI os1).toNatClampNeg (nI v)))), ((f 12), .inl (cZ, 9, .inl rdy)), ((f 5), .inl (cI, 2000, .inl fr)), ((f 9), .inl (cI, 9, .inl srt)), ((f 10), .inl (cI, 9, .inl bas)), ((f 11), .inl (cI, 9, .inl fst))] := hD
                  obtain ⟨g_70, eg_70⟩ : ∃ z, z = upd opr os1 (nI v) := ⟨_, rfl⟩
                  rw [nI_clamp (n := os1) (by omega), ← eg_70] at hP hD
                  refine lv_aload_n hx hb d_MO_operator_124 rfl (lv_at hl 0 rfl) ?_
                  refine lv_dup hx hb d_MO_operator_125 rfl ?_
                  refine va_get (D := D) (ci := 8) (v := .int (nI os1)) (C := rn_MO) (T := fl_MO) (N := 55) hx hb hG in_MO hown hK hP 0 rfl rfl 18 (by decide) (hG _ k_1209) (fun _ h9 => h9) rfl d_MO_operator_126 ?_
                  refine lv_iconst (v := 1) hx hb d_MO_operator_129 (by decide) ?_
                  refine lw_iadd (a := os1) (b := 1) hx hb d_MO_operator_130 ?_
                  refine va_put (D := D) (ci := 8) (v := .int (nI (os1 + 1))) (ty := .int) (C := rn_MO) (T := fl_MO) (N := 55) hx hb hG in_MO tt_MO tk_MO nn_MO hown hK hP hD hS 0 rfl rfl 18 (by decide) (hG _ k_1209) (fun _ h9 => h9) rfl (by decide +kernel) rfl rfl (Nat.le_of_ble_eq_true rfl) d_MO_operator_131 (fun H locs hP hD hS => ?_)
                  have hP : va_P D classes [(h0, .inr (8, mS f tn rm ln lx at_ bd1 fs1 dp on1 (os1 + 1) bn df th tp mo_ ev ss so lk rs pt ot cl)), ((f 3), .inl (cL, 2000, .inr (.inl le1))), ((f 4), .inl (cL, 2000, .inr (.inl ri1))), ((f 14), .inl (cL, 120, .inr (.inl opd1))), ((f 15), .inl (cI, 120, .inl g_70)), ((f 12), .inl (cZ, 9, .inl rdy)), ((f 5), .inl (cI, 2000, .inl fr)), ((f 9), .inl (cI, 9, .inl srt)), ((f 10), .inl (cI, 9, .inl bas)), ((f 11), .inl (cI, 9, .inl fst))] H := hP
                  have hD : va_D A [(h0, .inr (8, mS f tn rm ln lx at_ bd1 fs1 dp on1 (os1 + 1) bn df th tp mo_ ev ss so lk rs pt ot cl)), ((f 3), .inl (cL, 2000, .inr (.inl le1))), ((f 4), .inl (cL, 2000, .inr (.inl ri1))), ((f 14), .inl (cL, 120, .inr (.inl opd1))), ((f 15), .inl (cI, 120, .inl g_70)), ((f 12), .inl (cZ, 9, .inl rdy)), ((f 5), .inl (cI, 2000, .inl fr)), ((f 9), .inl (cI, 9, .inl srt)), ((f 10), .inl (cI, 9, .inl bas)), ((f 11), .inl (cI, 9, .inl fst))] := hD
                  refine lv_aload_n hx hb d_MO_operator_134 rfl (lv_at hl 0 rfl) ?_
                  refine va_get (D := D) (ci := 8) (v := .ref (f 12)) (C := rn_MO) (T := fl_MO) (N := 55) hx hb hG in_MO hown hK hP 0 rfl rfl 23 (by decide) (hG _ k_1214) (fun _ h9 => h9) rfl d_MO_operator_135 ?_
                  refine lv_iload_n hx hb d_MO_operator_138 rfl (lv_at hl 2 rfl) ?_
                  refine lv_iconst (v := 0) hx hb d_MO_operator_139 (by decide) ?_
                  refine va_zast hx hb hK hP hD hS 5 2 rfl rfl (vp_in_nI (n := dp - 1) (N := 9) (by omega) (by omega)) d_MO_operator_140 (fun H locs hP hD hS => ?_)
                  have hP : va_P D classes [(h0, .inr (8, mS f tn rm ln lx at_ bd1 fs1 dp on1 (os1 + 1) bn df th tp mo_ ev ss so lk rs pt ot cl)), ((f 3), .inl (cL, 2000, .inr (.inl le1))), ((f 4), .inl (cL, 2000, .inr (.inl ri1))), ((f 14), .inl (cL, 120, .inr (.inl opd1))), ((f 15), .inl (cI, 120, .inl g_70)), ((f 12), .inl (cZ, 9, .inl (upd rdy (nI (dp - 1)).toNatClampNeg (vp_nar .boolean 0)))), ((f 5), .inl (cI, 2000, .inl fr)), ((f 9), .inl (cI, 9, .inl srt)), ((f 10), .inl (cI, 9, .inl bas)), ((f 11), .inl (cI, 9, .inl fst))] H := hP
                  have hD : va_D A [(h0, .inr (8, mS f tn rm ln lx at_ bd1 fs1 dp on1 (os1 + 1) bn df th tp mo_ ev ss so lk rs pt ot cl)), ((f 3), .inl (cL, 2000, .inr (.inl le1))), ((f 4), .inl (cL, 2000, .inr (.inl ri1))), ((f 14), .inl (cL, 120, .inr (.inl opd1))), ((f 15), .inl (cI, 120, .inl g_70)), ((f 12), .inl (cZ, 9, .inl (upd rdy (nI (dp - 1)).toNatClampNeg (vp_nar .boolean 0)))), ((f 5), .inl (cI, 2000, .inl fr)), ((f 9), .inl (cI, 9, .inl srt)), ((f 10), .inl (cI, 9, .inl bas)), ((f 11), .inl (cI, 9, .inl fst))] := hD
                  obtain ⟨g_71, eg_71⟩ : ∃ z, z = upd rdy (dp - 1) 0 := ⟨_, rfl⟩
                  rw [nI_clamp (n := dp - 1) (by omega), nar_b (Or.inl rfl), ← eg_71] at hP hD
                  have hg_71 : bln g_71 := by rw [eg_71]; exact bln_ub hrdy (Or.inl rfl)
                  refine lv_aload_n hx hb d_MO_operator_141 rfl (lv_at hl 0 rfl) ?_
                  refine lv_dup hx hb d_MO_operator_142 rfl ?_
                  refine va_get (D := D) (ci := 8) (v := .int (nI at_)) (C := rn_MO) (T := fl_MO) (N := 55) hx hb hG in_MO hown hK hP 0 rfl rfl 5 (by decide) (hG _ k_1196) (fun _ h9 => h9) rfl d_MO_operator_143 ?_
                  refine lv_iconst (v := 1) hx hb d_MO_operator_146 (by decide) ?_
                  refine lw_iadd (a := at_) (b := 1) hx hb d_MO_operator_147 ?_
                  refine va_put (D := D) (ci := 8) (v := .int (nI (at_ + 1))) (ty := .int) (C := rn_MO) (T := fl_MO) (N := 55) hx hb hG in_MO tt_MO tk_MO nn_MO hown hK hP hD hS 0 rfl rfl 5 (by decide) (hG _ k_1196) (fun _ h9 => h9) rfl (by decide +kernel) rfl rfl (Nat.le_of_ble_eq_true rfl) d_MO_operator_148 (fun H locs hP hD hS => ?_)
                  have hP : va_P D classes [(h0, .inr (8, mS f tn rm ln lx (at_ + 1) bd1 fs1 dp on1 (os1 + 1) bn df th tp mo_ ev ss so lk rs pt ot cl)), ((f 3), .inl (cL, 2000, .inr (.inl le1))), ((f 4), .inl (cL, 2000, .inr (.inl ri1))), ((f 14), .inl (cL, 120, .inr (.inl opd1))), ((f 15), .inl (cI, 120, .inl g_70)), ((f 12), .inl (cZ, 9, .inl g_71)), ((f 5), .inl (cI, 2000, .inl fr)), ((f 9), .inl (cI, 9, .inl srt)), ((f 10), .inl (cI, 9, .inl bas)), ((f 11), .inl (cI, 9, .inl fst))] H := hP
                  have hD : va_D A [(h0, .inr (8, mS f tn rm ln lx (at_ + 1) bd1 fs1 dp on1 (os1 + 1) bn df th tp mo_ ev ss so lk rs pt ot cl)), ((f 3), .inl (cL, 2000, .inr (.inl le1))), ((f 4), .inl (cL, 2000, .inr (.inl ri1))), ((f 14), .inl (cL, 120, .inr (.inl opd1))), ((f 15), .inl (cI, 120, .inl g_70)), ((f 12), .inl (cZ, 9, .inl g_71)), ((f 5), .inl (cI, 2000, .inl fr)), ((f 9), .inl (cI, 9, .inl srt)), ((f 10), .inl (cI, 9, .inl bas)), ((f 11), .inl (cI, 9, .inl fst))] := hD
                  exact em_vret hx hb hr hlocks hP hD hK hS (bd1, fs1, on1, os1 + 1, at_ + 1, le1, ri1, opd1, g_70, g_71) [0, 1, 2, 3, 4, 5, 6, 7, 8, 9] (by decide) rfl ⟨rfl, ⟨hg_71, (show bd1 = 0 → bd = 0 from (by first | exact id | exact (fun q => absurd q (by assumption)) | exact (fun q => hbz1 q))), (show bdo bd1 from (by first | assumption | omega | exact Or.inl rfl)), (show (at_ + 1) = at_ + 1 from rfl), (show on1 ≤ on from (by first | assumption | omega | exact Or.inl rfl)), (show (os1 + 1) ≤ os + 1 from (by first | assumption | omega | exact Or.inl rfl)), (show ∃ St' : Nat → Tr, RX Bc le0 ri0 Q b0 srt bas fst g_71 g_70 opd1 le1 ri1 fr fs1 on1 (os1 + 1) bn St' (dp - 1) m1 ob 0 from (by subst eg_71 eg_70; exact ⟨St1, RX_op hRX1 (by omega) (by omega)⟩))⟩⟩ d_MO_operator_151
                · skip
                  have hn_72 : ¬ os1 ≤ ob := fun h => hb_68 ((nI_leI (a := os1) (b := ob) (by omega) (by omega)).mpr h)
                  refine lv_aload_n hx hb d_MO_operator_91 rfl (lv_at hl 0 rfl) ?_
                  refine va_get (D := D) (ci := 8) (v := .ref (f 15)) (C := rn_MO) (T := fl_MO) (N := 55) hx hb hG in_MO hown hK hP 0 rfl rfl 26 (by decide) (hG _ k_1217) (fun _ h9 => h9) rfl d_MO_operator_92 ?_
                  refine lv_aload_n hx hb d_MO_operator_95 rfl (lv_at hl 0 rfl) ?_
                  refine va_get (D := D) (ci := 8) (v := .int (nI os1)) (C := rn_MO) (T := fl_MO) (N := 55) hx hb hG in_MO hown hK hP 0 rfl rfl 18 (by decide) (hG _ k_1209) (fun _ h9 => h9) rfl d_MO_operator_96 ?_
                  refine lv_iconst (v := 1) hx hb d_MO_operator_99 (by decide) ?_
                  refine lw_isub (a := os1) (b := 1) hx hb d_MO_operator_100 (by omega) ?_
                  refine va_iald hx hb hK hP 4 0 rfl rfl (vp_in_nI (n := os1 - 1) (N := 120) (by omega) (by omega)) d_MO_operator_101 ?_
                  refine W.eq (g2 := F0 m 102 ls [.int (opr (os1 - 1))]) (by rw [nI_clamp (n := os1 - 1) (by omega)]) ?_
                  refine W.callR (W.runS (As := [.int (opr (os1 - 1))]) (rest := []) ⟨hx, hb, hml, hown, hG⟩ (mo_rank l D cI cL cZ cC (opr (os1 - 1)) ) (cwS 1 hG (gd_S k_1492 k_1493 k_116 k_1494) rfl rfl rfl (by decide +kernel) ⟨Nat.le_of_ble_eq_true rfl, Nat.le_of_ble_eq_true rfl⟩) (wq_S hP hK [] rfl) rfl rfl hl.1 rfl (lv_room (Nat.le_of_ble_eq_true rfl)) d_MO_operator_102 ⟨Nat.le_of_ble_eq_true rfl, Nat.le_of_ble_eq_true rfl⟩) ?_
                  refine W.eq (g2 := F0 m 105 ls [.int (rk (opr (os1 - 1)))]) rfl ?_
                  refine lv_iconst (v := 2) hx hb d_MO_operator_105 (by decide) ?_
                  refine lv_icmp_ne (tgt := 114) hx hb d_MO_operator_106 (by decide) (fun hb_73 => ?_) (fun hb_73 => ?_)
                  · skip
                    refine lv_aload_n hx hb d_MO_operator_114 rfl (lv_at hl 0 rfl) ?_
                    refine va_get (D := D) (ci := 8) (v := .ref (f 15)) (C := rn_MO) (T := fl_MO) (N := 55) hx hb hG in_MO hown hK hP 0 rfl rfl 26 (by decide) (hG _ k_1217) (fun _ h9 => h9) rfl d_MO_operator_115 ?_
                    refine lv_aload_n hx hb d_MO_operator_118 rfl (lv_at hl 0 rfl) ?_
                    refine va_get (D := D) (ci := 8) (v := .int (nI os1)) (C := rn_MO) (T := fl_MO) (N := 55) hx hb hG in_MO hown hK hP 0 rfl rfl 18 (by decide) (hG _ k_1209) (fun _ h9 => h9) rfl d_MO_operator_119 ?_
                    refine lv_iload_n hx hb d_MO_operator_122 rfl (lv_at hl 1 rfl) ?_
                    refine va_iast hx hb hK hP hD hS 4 0 rfl rfl (vp_in_nI (n := os1) (N := 120) (by omega) (by omega)) d_MO_operator_123 (fun H locs hP hD hS => ?_)
                    have hP : va_P D classes [(h0, .inr (8, mS f tn rm ln lx at_ bd1 fs1 dp on1 os1 bn df th tp mo_ ev ss so lk rs pt ot cl)), ((f 3), .inl (cL, 2000, .inr (.inl le1))), ((f 4), .inl (cL, 2000, .inr (.inl ri1))), ((f 14), .inl (cL, 120, .inr (.inl opd1))), ((f 15), .inl (cI, 120, .inl (upd opr (nI os1).toNatClampNeg (nI v)))), ((f 12), .inl (cZ, 9, .inl rdy)), ((f 5), .inl (cI, 2000, .inl fr)), ((f 9), .inl (cI, 9, .inl srt)), ((f 10), .inl (cI, 9, .inl bas)), ((f 11), .inl (cI, 9, .inl fst))] H := hP
                    have hD : va_D A [(h0, .inr (8, mS f tn rm ln lx at_ bd1 fs1 dp on1 os1 bn df th tp mo_ ev ss so lk rs pt ot cl)), ((f 3), .inl (cL, 2000, .inr (.inl le1))), ((f 4), .inl (cL, 2000, .inr (.inl ri1))), ((f 14), .inl (cL, 120, .inr (.inl opd1))), ((f 15), .inl (cI, 120, .inl (upd opr (nI os1).toNatClampNeg (nI v)))), ((f 12), .inl (cZ, 9, .inl rdy)), ((f 5), .inl (cI, 2000, .inl fr)), ((f 9), .inl (cI, 9, .inl srt)), ((f 10), .inl (cI, 9, .inl bas)), ((f 11), .inl (cI, 9, .inl fst))] := hD
                    obtain ⟨g_74, eg_74⟩ : ∃ z, z = upd opr os1 (nI v) := ⟨_, rfl⟩
                    rw [nI_clamp (n := os1) (by omega), ← eg_74] at hP hD
                    refine lv_aload_n hx hb d_MO_operator_124 rfl (lv_at hl 0 rfl) ?_
                    refine lv_dup hx hb d_MO_operator_125 rfl ?_
                    refine va_get (D := D) (ci := 8) (v := .int (nI os1)) (C := rn_MO) (T := fl_MO) (N := 55) hx hb hG in_MO hown hK hP 0 rfl rfl 18 (by decide) (hG _ k_1209) (fun _ h9 => h9) rfl d_MO_operator_126 ?_
                    refine lv_iconst (v := 1) hx hb d_MO_operator_129 (by decide) ?_
                    refine lw_iadd (a := os1) (b := 1) hx hb d_MO_operator_130 ?_
                    refine va_put (D := D) (ci := 8) (v := .int (nI (os1 + 1))) (ty := .int) (C := rn_MO) (T := fl_MO) (N := 55) hx hb hG in_MO tt_MO tk_MO nn_MO hown hK hP hD hS 0 rfl rfl 18 (by decide) (hG _ k_1209) (fun _ h9 => h9) rfl (by decide +kernel) rfl rfl (Nat.le_of_ble_eq_true rfl) d_MO_operator_131 (fun H locs hP hD hS => ?_)
                    have hP : va_P D classes [(h0, .inr (8, mS f tn rm ln lx at_ bd1 fs1 dp on1 (os1 + 1) bn df th tp mo_ ev ss so lk rs pt ot cl)), ((f 3), .inl (cL, 2000, .inr (.inl le1))), ((f 4), .inl (cL, 2000, .inr (.inl ri1))), ((f 14), .inl (cL, 120, .inr (.inl opd1))), ((f 15), .inl (cI, 120, .inl g_74)), ((f 12), .inl (cZ, 9, .inl rdy)), ((f 5), .inl (cI, 2000, .inl fr)), ((f 9), .inl (cI, 9, .inl srt)), ((f 10), .inl (cI, 9, .inl bas)), ((f 11), .inl (cI, 9, .inl fst))] H := hP
                    have hD : va_D A [(h0, .inr (8, mS f tn rm ln lx at_ bd1 fs1 dp on1 (os1 + 1) bn df th tp mo_ ev ss so lk rs pt ot cl)), ((f 3), .inl (cL, 2000, .inr (.inl le1))), ((f 4), .inl (cL, 2000, .inr (.inl ri1))), ((f 14), .inl (cL, 120, .inr (.inl opd1))), ((f 15), .inl (cI, 120, .inl g_74)), ((f 12), .inl (cZ, 9, .inl rdy)), ((f 5), .inl (cI, 2000, .inl fr)), ((f 9), .inl (cI, 9, .inl srt)), ((f 10), .inl (cI, 9, .inl bas)), ((f 11), .inl (cI, 9, .inl fst))] := hD
                    refine lv_aload_n hx hb d_MO_operator_134 rfl (lv_at hl 0 rfl) ?_
                    refine va_get (D := D) (ci := 8) (v := .ref (f 12)) (C := rn_MO) (T := fl_MO) (N := 55) hx hb hG in_MO hown hK hP 0 rfl rfl 23 (by decide) (hG _ k_1214) (fun _ h9 => h9) rfl d_MO_operator_135 ?_
                    refine lv_iload_n hx hb d_MO_operator_138 rfl (lv_at hl 2 rfl) ?_
                    refine lv_iconst (v := 0) hx hb d_MO_operator_139 (by decide) ?_
                    refine va_zast hx hb hK hP hD hS 5 2 rfl rfl (vp_in_nI (n := dp - 1) (N := 9) (by omega) (by omega)) d_MO_operator_140 (fun H locs hP hD hS => ?_)
                    have hP : va_P D classes [(h0, .inr (8, mS f tn rm ln lx at_ bd1 fs1 dp on1 (os1 + 1) bn df th tp mo_ ev ss so lk rs pt ot cl)), ((f 3), .inl (cL, 2000, .inr (.inl le1))), ((f 4), .inl (cL, 2000, .inr (.inl ri1))), ((f 14), .inl (cL, 120, .inr (.inl opd1))), ((f 15), .inl (cI, 120, .inl g_74)), ((f 12), .inl (cZ, 9, .inl (upd rdy (nI (dp - 1)).toNatClampNeg (vp_nar .boolean 0)))), ((f 5), .inl (cI, 2000, .inl fr)), ((f 9), .inl (cI, 9, .inl srt)), ((f 10), .inl (cI, 9, .inl bas)), ((f 11), .inl (cI, 9, .inl fst))] H := hP
                    have hD : va_D A [(h0, .inr (8, mS f tn rm ln lx at_ bd1 fs1 dp on1 (os1 + 1) bn df th tp mo_ ev ss so lk rs pt ot cl)), ((f 3), .inl (cL, 2000, .inr (.inl le1))), ((f 4), .inl (cL, 2000, .inr (.inl ri1))), ((f 14), .inl (cL, 120, .inr (.inl opd1))), ((f 15), .inl (cI, 120, .inl g_74)), ((f 12), .inl (cZ, 9, .inl (upd rdy (nI (dp - 1)).toNatClampNeg (vp_nar .boolean 0)))), ((f 5), .inl (cI, 2000, .inl fr)), ((f 9), .inl (cI, 9, .inl srt)), ((f 10), .inl (cI, 9, .inl bas)), ((f 11), .inl (cI, 9, .inl fst))] := hD
                    obtain ⟨g_75, eg_75⟩ : ∃ z, z = upd rdy (dp - 1) 0 := ⟨_, rfl⟩
                    rw [nI_clamp (n := dp - 1) (by omega), nar_b (Or.inl rfl), ← eg_75] at hP hD
                    have hg_75 : bln g_75 := by rw [eg_75]; exact bln_ub hrdy (Or.inl rfl)
                    refine lv_aload_n hx hb d_MO_operator_141 rfl (lv_at hl 0 rfl) ?_
                    refine lv_dup hx hb d_MO_operator_142 rfl ?_
                    refine va_get (D := D) (ci := 8) (v := .int (nI at_)) (C := rn_MO) (T := fl_MO) (N := 55) hx hb hG in_MO hown hK hP 0 rfl rfl 5 (by decide) (hG _ k_1196) (fun _ h9 => h9) rfl d_MO_operator_143 ?_
                    refine lv_iconst (v := 1) hx hb d_MO_operator_146 (by decide) ?_
                    refine lw_iadd (a := at_) (b := 1) hx hb d_MO_operator_147 ?_
                    refine va_put (D := D) (ci := 8) (v := .int (nI (at_ + 1))) (ty := .int) (C := rn_MO) (T := fl_MO) (N := 55) hx hb hG in_MO tt_MO tk_MO nn_MO hown hK hP hD hS 0 rfl rfl 5 (by decide) (hG _ k_1196) (fun _ h9 => h9) rfl (by decide +kernel) rfl rfl (Nat.le_of_ble_eq_true rfl) d_MO_operator_148 (fun H locs hP hD hS => ?_)
                    have hP : va_P D classes [(h0, .inr (8, mS f tn rm ln lx (at_ + 1) bd1 fs1 dp on1 (os1 + 1) bn df th tp mo_ ev ss so lk rs pt ot cl)), ((f 3), .inl (cL, 2000, .inr (.inl le1))), ((f 4), .inl (cL, 2000, .inr (.inl ri1))), ((f 14), .inl (cL, 120, .inr (.inl opd1))), ((f 15), .inl (cI, 120, .inl g_74)), ((f 12), .inl (cZ, 9, .inl g_75)), ((f 5), .inl (cI, 2000, .inl fr)), ((f 9), .inl (cI, 9, .inl srt)), ((f 10), .inl (cI, 9, .inl bas)), ((f 11), .inl (cI, 9, .inl fst))] H := hP
                    have hD : va_D A [(h0, .inr (8, mS f tn rm ln lx (at_ + 1) bd1 fs1 dp on1 (os1 + 1) bn df th tp mo_ ev ss so lk rs pt ot cl)), ((f 3), .inl (cL, 2000, .inr (.inl le1))), ((f 4), .inl (cL, 2000, .inr (.inl ri1))), ((f 14), .inl (cL, 120, .inr (.inl opd1))), ((f 15), .inl (cI, 120, .inl g_74)), ((f 12), .inl (cZ, 9, .inl g_75)), ((f 5), .inl (cI, 2000, .inl fr)), ((f 9), .inl (cI, 9, .inl srt)), ((f 10), .inl (cI, 9, .inl bas)), ((f 11), .inl (cI, 9, .inl fst))] := hD
                    exact em_vret hx hb hr hlocks hP hD hK hS (bd1, fs1, on1, os1 + 1, at_ + 1, le1, ri1, opd1, g_74, g_75) [0, 1, 2, 3, 4, 5, 6, 7, 8, 9] (by decide) rfl ⟨rfl, ⟨hg_75, (show bd1 = 0 → bd = 0 from (by first | exact id | exact (fun q => absurd q (by assumption)) | exact (fun q => hbz1 q))), (show bdo bd1 from (by first | assumption | omega | exact Or.inl rfl)), (show (at_ + 1) = at_ + 1 from rfl), (show on1 ≤ on from (by first | assumption | omega | exact Or.inl rfl)), (show (os1 + 1) ≤ os + 1 from (by first | assumption | omega | exact Or.inl rfl)), (show ∃ St' : Nat → Tr, RX Bc le0 ri0 Q b0 srt bas fst g_75 g_74 opd1 le1 ri1 fr fs1 on1 (os1 + 1) bn St' (dp - 1) m1 ob 0 from (by subst eg_75 eg_74; exact ⟨St1, RX_op hRX1 (by omega) (by omega)⟩))⟩⟩ d_MO_operator_151
                  · skip
                    refine lv_aload_n hx hb d_MO_operator_109 rfl (lv_at hl 0 rfl) ?_
                    refine lv_iconst (v := 1) hx hb d_MO_operator_110 (by decide) ?_
                    refine em_call (wr := [((f 3), .inl (cL, 2000, .inr (.inl le1))), ((f 4), .inl (cL, 2000, .inr (.inl ri1))), ((f 14), .inl (cL, 120, .inr (.inl opd1))), ((f 15), .inl (cI, 120, .inl opr)), ((f 12), .inl (cZ, 9, .inl rdy)), ((f 5), .inl (cI, 2000, .inl fr)), ((f 9), .inl (cI, 9, .inl srt)), ((f 10), .inl (cI, 9, .inl bas)), ((f 11), .inl (cI, 9, .inl fst))]) (em_runV (As := [.int 1]) (rest := []) ⟨hx, hb, hml, hown, hG⟩ (mo_wrong l D cI cL cZ cC f h0 tn rm ln lx at_ bd1 fs1 dp on1 os1 bn df th tp mo_ ev ss so lk rs pt ot cl 1 _ (by decide) (by first | assumption | omega | exact Or.inl rfl) hnt) (cwV 1 hG (gd_V k_1388 k_1390 k_54 k_116 k_1391) rfl rfl rfl (by decide +kernel) ⟨Nat.le_of_ble_eq_true rfl, Nat.le_of_ble_eq_true rfl⟩) (tw_V (q0 := 0) hP hD hK hE hst hS rfl rfl [0] rfl (by decide)) rfl rfl hl.1 rfl (lv_room (Nat.le_of_ble_eq_true rfl)) d_MO_operator_111 ⟨Nat.le_of_ble_eq_true rfl, Nat.le_of_ble_eq_true rfl⟩) hP hD hS hA [0] [1, 2, 3, 4, 5, 6, 7, 8, 9] rfl rfl (by decide) (by decide) (fun v u H locs hok hP hD hS => ?_) (fun x C u H locs hbad hxx hP hD hS => ?_)
                    · skip
                      obtain ⟨bd_76, rfl⟩ : ∃ z, z = u := ⟨_, rfl⟩
                      obtain ⟨rfl, hp_78⟩ := hok
                      obtain ⟨hbn_79, hbo_80, hbx_81⟩ : (¬ bd_76 = 0) ∧ (bdo bd_76) ∧ (bd1 = 0 → bd_76 = (1 : Int32)) := hp_78
                      have hP : va_P D classes [((f 3), .inl (cL, 2000, .inr (.inl le1))), ((f 4), .inl (cL, 2000, .inr (.inl ri1))), ((f 14), .inl (cL, 120, .inr (.inl opd1))), ((f 15), .inl (cI, 120, .inl opr)), ((f 12), .inl (cZ, 9, .inl rdy)), ((f 5), .inl (cI, 2000, .inl fr)), ((f 9), .inl (cI, 9, .inl srt)), ((f 10), .inl (cI, 9, .inl bas)), ((f 11), .inl (cI, 9, .inl fst)), (h0, .inr (8, mS f tn rm ln lx at_ bd_76 fs1 dp on1 os1 bn df th tp mo_ ev ss so lk rs pt ot cl))] H := hP
                      have hD : va_D A [((f 3), .inl (cL, 2000, .inr (.inl le1))), ((f 4), .inl (cL, 2000, .inr (.inl ri1))), ((f 14), .inl (cL, 120, .inr (.inl opd1))), ((f 15), .inl (cI, 120, .inl opr)), ((f 12), .inl (cZ, 9, .inl rdy)), ((f 5), .inl (cI, 2000, .inl fr)), ((f 9), .inl (cI, 9, .inl srt)), ((f 10), .inl (cI, 9, .inl bas)), ((f 11), .inl (cI, 9, .inl fst)), (h0, .inr (8, mS f tn rm ln lx at_ bd_76 fs1 dp on1 os1 bn df th tp mo_ ev ss so lk rs pt ot cl))] := hD
                      refine W.eq (g2 := F0 m 114 ls []) rfl ?_
                      refine lv_aload_n hx hb d_MO_operator_114 rfl (lv_at hl 0 rfl) ?_
                      refine va_get (D := D) (ci := 8) (v := .ref (f 15)) (C := rn_MO) (T := fl_MO) (N := 55) hx hb hG in_MO hown hK hP 9 rfl rfl 26 (by decide) (hG _ k_1217) (fun _ h9 => h9) rfl d_MO_operator_115 ?_
                      refine lv_aload_n hx hb d_MO_operator_118 rfl (lv_at hl 0 rfl) ?_
                      refine va_get (D := D) (ci := 8) (v := .int (nI os1)) (C := rn_MO) (T := fl_MO) (N := 55) hx hb hG in_MO hown hK hP 9 rfl rfl 18 (by decide) (hG _ k_1209) (fun _ h9 => h9) rfl d_MO_operator_119 ?_
                      refine lv_iload_n hx hb d_MO_operator_122 rfl (lv_at hl 1 rfl) ?_
                      refine va_iast hx hb hK hP hD hS 3 0 rfl rfl (vp_in_nI (n := os1) (N := 120) (by omega) (by omega)) d_MO_operator_123 (fun H locs hP hD hS => ?_)
                      have hP : va_P D classes [((f 3), .inl (cL, 2000, .inr (.inl le1))), ((f 4), .inl (cL, 2000, .inr (.inl ri1))), ((f 14), .inl (cL, 120, .inr (.inl opd1))), ((f 15), .inl (cI, 120, .inl (upd opr (nI os1).toNatClampNeg (nI v)))), ((f 12), .inl (cZ, 9, .inl rdy)), ((f 5), .inl (cI, 2000, .inl fr)), ((f 9), .inl (cI, 9, .inl srt)), ((f 10), .inl (cI, 9, .inl bas)), ((f 11), .inl (cI, 9, .inl fst)), (h0, .inr (8, mS f tn rm ln lx at_ bd_76 fs1 dp on1 os1 bn df th tp mo_ ev ss so lk rs pt ot cl))] H := hP
                      have hD : va_D A [((f 3), .inl (cL, 2000, .inr (.inl le1))), ((f 4), .inl (cL, 2000, .inr (.inl ri1))), ((f 14), .inl (cL, 120, .inr (.inl opd1))), ((f 15), .inl (cI, 120, .inl (upd opr (nI os1).toNatClampNeg (nI v)))), ((f 12), .inl (cZ, 9, .inl rdy)), ((f 5), .inl (cI, 2000, .inl fr)), ((f 9), .inl (cI, 9, .inl srt)), ((f 10), .inl (cI, 9, .inl bas)), ((f 11), .inl (cI, 9, .inl fst)), (h0, .inr (8, mS f tn rm ln lx at_ bd_76 fs1 dp on1 os1 bn df th tp mo_ ev ss so lk rs pt ot cl))] := hD
                      obtain ⟨g_83, eg_83⟩ : ∃ z, z = upd opr os1 (nI v) := ⟨_, rfl⟩
                      rw [nI_clamp (n := os1) (by omega), ← eg_83] at hP hD
                      refine lv_aload_n hx hb d_MO_operator_124 rfl (lv_at hl 0 rfl) ?_
                      refine lv_dup hx hb d_MO_operator_125 rfl ?_
                      refine va_get (D := D) (ci := 8) (v := .int (nI os1)) (C := rn_MO) (T := fl_MO) (N := 55) hx hb hG in_MO hown hK hP 9 rfl rfl 18 (by decide) (hG _ k_1209) (fun _ h9 => h9) rfl d_MO_operator_126 ?_
                      refine lv_iconst (v := 1) hx hb d_MO_operator_129 (by decide) ?_
                      refine lw_iadd (a := os1) (b := 1) hx hb d_MO_operator_130 ?_
                      refine va_put (D := D) (ci := 8) (v := .int (nI (os1 + 1))) (ty := .int) (C := rn_MO) (T := fl_MO) (N := 55) hx hb hG in_MO tt_MO tk_MO nn_MO hown hK hP hD hS 9 rfl rfl 18 (by decide) (hG _ k_1209) (fun _ h9 => h9) rfl (by decide +kernel) rfl rfl (Nat.le_of_ble_eq_true rfl) d_MO_operator_131 (fun H locs hP hD hS => ?_)
                      have hP : va_P D classes [((f 3), .inl (cL, 2000, .inr (.inl le1))), ((f 4), .inl (cL, 2000, .inr (.inl ri1))), ((f 14), .inl (cL, 120, .inr (.inl opd1))), ((f 15), .inl (cI, 120, .inl g_83)), ((f 12), .inl (cZ, 9, .inl rdy)), ((f 5), .inl (cI, 2000, .inl fr)), ((f 9), .inl (cI, 9, .inl srt)), ((f 10), .inl (cI, 9, .inl bas)), ((f 11), .inl (cI, 9, .inl fst)), (h0, .inr (8, mS f tn rm ln lx at_ bd_76 fs1 dp on1 (os1 + 1) bn df th tp mo_ ev ss so lk rs pt ot cl))] H := hP
                      have hD : va_D A [((f 3), .inl (cL, 2000, .inr (.inl le1))), ((f 4), .inl (cL, 2000, .inr (.inl ri1))), ((f 14), .inl (cL, 120, .inr (.inl opd1))), ((f 15), .inl (cI, 120, .inl g_83)), ((f 12), .inl (cZ, 9, .inl rdy)), ((f 5), .inl (cI, 2000, .inl fr)), ((f 9), .inl (cI, 9, .inl srt)), ((f 10), .inl (cI, 9, .inl bas)), ((f 11), .inl (cI, 9, .inl fst)), (h0, .inr (8, mS f tn rm ln lx at_ bd_76 fs1 dp on1 (os1 + 1) bn df th tp mo_ ev ss so lk rs pt ot cl))] := hD
                      refine lv_aload_n hx hb d_MO_operator_134 rfl (lv_at hl 0 rfl) ?_
                      refine va_get (D := D) (ci := 8) (v := .ref (f 12)) (C := rn_MO) (T := fl_MO) (N := 55) hx hb hG in_MO hown hK hP 9 rfl rfl 23 (by decide) (hG _ k_1214) (fun _ h9 => h9) rfl d_MO_operator_135 ?_
                      refine lv_iload_n hx hb d_MO_operator_138 rfl (lv_at hl 2 rfl) ?_
                      refine lv_iconst (v := 0) hx hb d_MO_operator_139 (by decide) ?_
                      refine va_zast hx hb hK hP hD hS 4 2 rfl rfl (vp_in_nI (n := dp - 1) (N := 9) (by omega) (by omega)) d_MO_operator_140 (fun H locs hP hD hS => ?_)
                      have hP : va_P D classes [((f 3), .inl (cL, 2000, .inr (.inl le1))), ((f 4), .inl (cL, 2000, .inr (.inl ri1))), ((f 14), .inl (cL, 120, .inr (.inl opd1))), ((f 15), .inl (cI, 120, .inl g_83)), ((f 12), .inl (cZ, 9, .inl (upd rdy (nI (dp - 1)).toNatClampNeg (vp_nar .boolean 0)))), ((f 5), .inl (cI, 2000, .inl fr)), ((f 9), .inl (cI, 9, .inl srt)), ((f 10), .inl (cI, 9, .inl bas)), ((f 11), .inl (cI, 9, .inl fst)), (h0, .inr (8, mS f tn rm ln lx at_ bd_76 fs1 dp on1 (os1 + 1) bn df th tp mo_ ev ss so lk rs pt ot cl))] H := hP
                      have hD : va_D A [((f 3), .inl (cL, 2000, .inr (.inl le1))), ((f 4), .inl (cL, 2000, .inr (.inl ri1))), ((f 14), .inl (cL, 120, .inr (.inl opd1))), ((f 15), .inl (cI, 120, .inl g_83)), ((f 12), .inl (cZ, 9, .inl (upd rdy (nI (dp - 1)).toNatClampNeg (vp_nar .boolean 0)))), ((f 5), .inl (cI, 2000, .inl fr)), ((f 9), .inl (cI, 9, .inl srt)), ((f 10), .inl (cI, 9, .inl bas)), ((f 11), .inl (cI, 9, .inl fst)), (h0, .inr (8, mS f tn rm ln lx at_ bd_76 fs1 dp on1 (os1 + 1) bn df th tp mo_ ev ss so lk rs pt ot cl))] := hD
                      obtain ⟨g_84, eg_84⟩ : ∃ z, z = upd rdy (dp - 1) 0 := ⟨_, rfl⟩
                      rw [nI_clamp (n := dp - 1) (by omega), nar_b (Or.inl rfl), ← eg_84] at hP hD
                      have hg_84 : bln g_84 := by rw [eg_84]; exact bln_ub hrdy (Or.inl rfl)
                      refine lv_aload_n hx hb d_MO_operator_141 rfl (lv_at hl 0 rfl) ?_
                      refine lv_dup hx hb d_MO_operator_142 rfl ?_
                      refine va_get (D := D) (ci := 8) (v := .int (nI at_)) (C := rn_MO) (T := fl_MO) (N := 55) hx hb hG in_MO hown hK hP 9 rfl rfl 5 (by decide) (hG _ k_1196) (fun _ h9 => h9) rfl d_MO_operator_143 ?_
                      refine lv_iconst (v := 1) hx hb d_MO_operator_146 (by decide) ?_
                      refine lw_iadd (a := at_) (b := 1) hx hb d_MO_operator_147 ?_
                      refine va_put (D := D) (ci := 8) (v := .int (nI (at_ + 1))) (ty := .int) (C := rn_MO) (T := fl_MO) (N := 55) hx hb hG in_MO tt_MO tk_MO nn_MO hown hK hP hD hS 9 rfl rfl 5 (by decide) (hG _ k_1196) (fun _ h9 => h9) rfl (by decide +kernel) rfl rfl (Nat.le_of_ble_eq_true rfl) d_MO_operator_148 (fun H locs hP hD hS => ?_)
                      have hP : va_P D classes [((f 3), .inl (cL, 2000, .inr (.inl le1))), ((f 4), .inl (cL, 2000, .inr (.inl ri1))), ((f 14), .inl (cL, 120, .inr (.inl opd1))), ((f 15), .inl (cI, 120, .inl g_83)), ((f 12), .inl (cZ, 9, .inl g_84)), ((f 5), .inl (cI, 2000, .inl fr)), ((f 9), .inl (cI, 9, .inl srt)), ((f 10), .inl (cI, 9, .inl bas)), ((f 11), .inl (cI, 9, .inl fst)), (h0, .inr (8, mS f tn rm ln lx (at_ + 1) bd_76 fs1 dp on1 (os1 + 1) bn df th tp mo_ ev ss so lk rs pt ot cl))] H := hP
                      have hD : va_D A [((f 3), .inl (cL, 2000, .inr (.inl le1))), ((f 4), .inl (cL, 2000, .inr (.inl ri1))), ((f 14), .inl (cL, 120, .inr (.inl opd1))), ((f 15), .inl (cI, 120, .inl g_83)), ((f 12), .inl (cZ, 9, .inl g_84)), ((f 5), .inl (cI, 2000, .inl fr)), ((f 9), .inl (cI, 9, .inl srt)), ((f 10), .inl (cI, 9, .inl bas)), ((f 11), .inl (cI, 9, .inl fst)), (h0, .inr (8, mS f tn rm ln lx (at_ + 1) bd_76 fs1 dp on1 (os1 + 1) bn df th tp mo_ ev ss so lk rs pt ot cl))] := hD
                      exact em_vret hx hb hr hlocks hP hD hK hS (bd_76, fs1, on1, os1 + 1, at_ + 1, le1, ri1, opd1, g_83, g_84) [9, 0, 1, 2, 3, 4, 5, 6, 7, 8] (by decide) rfl ⟨rfl, ⟨hg_84, (show bd_76 = 0 → bd = 0 from (by first | exact id | exact (fun q => absurd q (by assumption)) | exact (fun q => hbz1 q))), (show bdo bd_76 from (by first | assumption | omega | exact Or.inl rfl)), (show (at_ + 1) = at_ + 1 from rfl), (show on1 ≤ on from (by first | assumption | omega | exact Or.inl rfl)), (show (os1 + 1) ≤ os + 1 from (by first | assumption | omega | exact Or.inl rfl)), (show ∃ St' : Nat → Tr, RX Bc le0 ri0 Q b0 srt bas fst g_84 g_83 opd1 le1 ri1 fr fs1 on1 (os1 + 1) bn St' (dp - 1) m1 ob 0 from (by subst eg_84 eg_83; exact ⟨St1, RX_op hRX1 (by omega) (by omega)⟩))⟩⟩ d_MO_operator_151
                    · skip
                      exact hbad.elim
            · skip
              refine lv_aload_n hx hb d_MO_operator_66 rfl (lv_at hl 0 rfl) ?_
              refine em_call (wr := []) (em_runV (As := []) (rest := []) ⟨hx, hb, hml, hown, hG⟩ (mo_reduce l D cI cL cZ cC f h0 tn rm ln lx at_ bd1 fs1 dp on1 os1 bn df th tp mo_ ev ss so lk rs pt ot cl le1 ri1 opd1 fr srt bas fst opr rdy Bc le0 ri0 Q b0 St1 m1 ob _ hfr hrdy hRX1 hB (by first | assumption | omega | exact Or.inl rfl) (by omega) (by first | assumption | omega | exact Or.inl rfl) hQ (by first | assumption | omega | exact Or.inl rfl) hnt) (cwV 0 hG (gd_V k_1495 k_1497 k_73 k_116 k_1498) rfl rfl rfl (by decide +kernel) ⟨Nat.le_of_ble_eq_true rfl, Nat.le_of_ble_eq_true rfl⟩) (tw_V (q0 := 0) hP hD hK hE hst hS rfl rfl [0, 1, 2, 3, 6, 7, 8, 9, 4, 5] rfl (by decide)) rfl rfl hl.1 rfl (lv_room (Nat.le_of_ble_eq_true rfl)) d_MO_operator_67 ⟨Nat.le_of_ble_eq_true rfl, Nat.le_of_ble_eq_true rfl⟩) hP hD hS hA [0, 1, 2, 3, 6, 7, 8, 9, 4, 5] [] rfl rfl (by decide) (by decide) (fun v u H locs hok hP hD hS => ?_) (fun x C u H locs hbad hxx hP hD hS => ?_)
              · skip
                obtain ⟨bd_85, fs_86, on_87, os_88, le_89, ri_90, opd_91⟩ := u
                obtain ⟨rfl, hp_93⟩ := hok
                obtain ⟨hbz_94, hbo_95, hon_96, hos_97, hRX_98⟩ : (bd_85 = 0 → bd1 = 0) ∧ (bdo bd_85) ∧ (on_87 = on1 - 1) ∧ (os_88 = os1 - 1) ∧ (∃ St' : Nat → Tr, RX Bc le0 ri0 Q b0 srt bas fst rdy opr opd_91 le_89 ri_90 fr fs_86 on_87 os_88 bn St' (dp - 1) m1 ob 1) := hp_93
                obtain ⟨St2, hRX2⟩ := hRX_98
                have hP : va_P D classes [(h0, .inr (8, mS f tn rm ln lx at_ bd_85 fs_86 dp on_87 os_88 bn df th tp mo_ ev ss so lk rs pt ot cl)), ((f 3), .inl (cL, 2000, .inr (.inl le_89))), ((f 4), .inl (cL, 2000, .inr (.inl ri_90))), ((f 14), .inl (cL, 120, .inr (.inl opd_91))), ((f 5), .inl (cI, 2000, .inl fr)), ((f 9), .inl (cI, 9, .inl srt)), ((f 10), .inl (cI, 9, .inl bas)), ((f 11), .inl (cI, 9, .inl fst)), ((f 15), .inl (cI, 120, .inl opr)), ((f 12), .inl (cZ, 9, .inl rdy))] H := hP
                have hD : va_D A [(h0, .inr (8, mS f tn rm ln lx at_ bd_85 fs_86 dp on_87 os_88 bn df th tp mo_ ev ss so lk rs pt ot cl)), ((f 3), .inl (cL, 2000, .inr (.inl le_89))), ((f 4), .inl (cL, 2000, .inr (.inl ri_90))), ((f 14), .inl (cL, 120, .inr (.inl opd_91))), ((f 5), .inl (cI, 2000, .inl fr)), ((f 9), .inl (cI, 9, .inl srt)), ((f 10), .inl (cI, 9, .inl bas)), ((f 11), .inl (cI, 9, .inl fst)), ((f 15), .inl (cI, 120, .inl opr)), ((f 12), .inl (cZ, 9, .inl rdy))] := hD
                refine W.eq (g2 := F0 m 70 ls []) rfl ?_
                refine lv_goto (tgt := 12) hx hb d_MO_operator_70 (by decide) ?_
                have hl := lv_sub (l' := [(0, .ref h0), (1, .int (nI v)), (2, .int (nI (dp - 1))), (3, .int (rk (nI v)))]) hl [0, 1, 2, 3] rfl
                have hP : va_P D classes [(h0, .inr (8, mS f tn rm ln lx at_ bd_85 fs_86 dp on_87 os_88 bn df th tp mo_ ev ss so lk rs pt ot cl)), ((f 3), .inl (cL, 2000, .inr (.inl le_89))), ((f 4), .inl (cL, 2000, .inr (.inl ri_90))), ((f 14), .inl (cL, 120, .inr (.inl opd_91))), ((f 15), .inl (cI, 120, .inl opr)), ((f 12), .inl (cZ, 9, .inl rdy)), ((f 5), .inl (cI, 2000, .inl fr)), ((f 9), .inl (cI, 9, .inl srt)), ((f 10), .inl (cI, 9, .inl bas)), ((f 11), .inl (cI, 9, .inl fst))] _ := hP.sub [0, 1, 2, 3, 8, 9, 4, 5, 6, 7] (wp_fm rfl)
                have hD : va_D A [(h0, .inr (8, mS f tn rm ln lx at_ bd_85 fs_86 dp on_87 os_88 bn df th tp mo_ ev ss so lk rs pt ot cl)), ((f 3), .inl (cL, 2000, .inr (.inl le_89))), ((f 4), .inl (cL, 2000, .inr (.inl ri_90))), ((f 14), .inl (cL, 120, .inr (.inl opd_91))), ((f 15), .inl (cI, 120, .inl opr)), ((f 12), .inl (cZ, 9, .inl rdy)), ((f 5), .inl (cI, 2000, .inl fr)), ((f 9), .inl (cI, 9, .inl srt)), ((f 10), .inl (cI, 9, .inl bas)), ((f 11), .inl (cI, 9, .inl fst))] := hD.sub [0, 1, 2, 3, 8, 9, 4, 5, 6, 7] (by decide) rfl
                exact ih_3 bd_85 fs_86 on_87 os_88 le_89 ri_90 opd_91 _ _ _ (by omega) (by omega) (by omega) (by omega) (by first | exact id | exact (fun q => absurd q (by assumption)) | exact (fun q => hbz1 (hbz_94 q))) (by assumption) ⟨St2, hRX2⟩ hl hP hD hS
              · skip
                exact hbad.elim
  refine lv_aload_n hx hb d_MO_operator_0 rfl (lv_at hl 0 rfl) ?_
  refine va_get (D := D) (ci := 8) (v := .int (nI dp)) (C := rn_MO) (T := fl_MO) (N := 55) hx hb hG in_MO hown hK hP 0 rfl rfl 16 (by decide) (hG _ k_1207) (fun _ h9 => h9) rfl d_MO_operator_1 ?_
  refine lv_iconst (v := 1) hx hb d_MO_operator_4 (by decide) ?_
  refine lw_isub (a := dp) (b := 1) hx hb d_MO_operator_5 (by omega) ?_
  refine lv_istore_n (lv' := [(2, .int (nI (dp - 1))), (0, .ref h0), (1, .int (nI v))]) hx hb d_MO_operator_6 rfl hl (Nat.le_of_ble_eq_true rfl) rfl (fun ls hl => ?_)
  refine lv_iload_n hx hb d_MO_operator_7 rfl (lv_at hl 2 rfl) ?_
  refine W.callR (W.runS (As := [.int (nI v)]) (rest := []) ⟨hx, hb, hml, hown, hG⟩ (mo_rank l D cI cL cZ cC (nI v) ) (cwS 1 hG (gd_S k_1492 k_1493 k_116 k_1494) rfl rfl rfl (by decide +kernel) ⟨Nat.le_of_ble_eq_true rfl, Nat.le_of_ble_eq_true rfl⟩) (wq_S hP hK [] rfl) rfl rfl hl.1 rfl (lv_room (Nat.le_of_ble_eq_true rfl)) d_MO_operator_8 ⟨Nat.le_of_ble_eq_true rfl, Nat.le_of_ble_eq_true rfl⟩) ?_
  refine W.eq (g2 := F0 m 11 ls [.int (rk (nI v))]) rfl ?_
  refine lv_istore_n (lv' := [(3, .int (rk (nI v))), (2, .int (nI (dp - 1))), (0, .ref h0), (1, .int (nI v))]) hx hb d_MO_operator_11 rfl hl (Nat.le_of_ble_eq_true rfl) rfl (fun ls hl => ?_)
  have hl := lv_sub (l' := [(0, .ref h0), (1, .int (nI v)), (2, .int (nI (dp - 1))), (3, .int (rk (nI v)))]) hl [2, 3, 1, 0] rfl
  exact loop_2 _ bd fs on os le ri opd _ _ _ (Nat.lt_succ_self _) (by omega) (by omega) (by omega) (by first | exact id | exact (fun q => absurd q (by assumption)) | exact (id)) (by assumption) ⟨St, hRX⟩ hl hP hD hS
