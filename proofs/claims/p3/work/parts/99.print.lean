/-! Digits. -/
def rok (z : Int64) : Prop := 0 ≤ z.toInt ∧ z.toInt ≤ 2147483648
theorem rok_pos {v : Int32} (h : 0 ≤ v) : rok v.toInt64 := by
  have h1 : (0 : Int) ≤ v.toInt := Int32.le_iff_toInt_le.mp h
  have h2 : v.toInt < 2 ^ 31 := v.toInt_lt
  have e : v.toInt64.toInt = v.toInt := Int32.toInt_toInt64 v
  unfold rok
  rw [e]
  omega
theorem rok_neg {v : Int32} (h : ¬ 0 ≤ v) : rok (-v.toInt64) := by
  have h1 : ¬ (0 : Int) ≤ v.toInt := fun q => h (Int32.le_iff_toInt_le.mpr q)
  have h2 : -2 ^ 31 ≤ v.toInt := v.le_toInt
  have e : v.toInt64.toInt = v.toInt := Int32.toInt_toInt64 v
  have e2 : (-v.toInt64).toInt = -v.toInt := by
    rw [Int64.toInt_neg, e]
    apply Int.bmod_eq_of_le_mul_two
    · omega
    · omega
  unfold rok
  rw [e2]
  omega
def pw : Nat → Int64
  | 0 => 1
  | 1 => 10
  | 2 => 100
  | 3 => 1000
  | 4 => 10000
  | 5 => 100000
  | 6 => 1000000
  | 7 => 10000000
  | 8 => 100000000
  | _ => 1000000000
def pz : Nat → Int64
  | 0 => 0
  | j + 1 => pw j
theorem pw_ne (k : Nat) (hk : k ≤ 9) : ¬ pw k = 0 := by
  rcases (show k = 0 ∨ k = 1 ∨ k = 2 ∨ k = 3 ∨ k = 4 ∨ k = 5 ∨ k = 6 ∨ k = 7 ∨ k = 8 ∨ k = 9 by omega) with rfl | rfl | rfl | rfl | rfl | rfl | rfl | rfl | rfl | rfl <;> decide
theorem pz_ne (j : Nat) (h1 : 1 ≤ j) (h2 : j ≤ 10) : ¬ pz j = 0 := by
  obtain ⟨k, rfl⟩ : ∃ k, j = k + 1 := ⟨j - 1, by omega⟩
  exact pw_ne k (by omega)
theorem pw_mul (k : Nat) (hk : k ≤ 8) : pw k * 10 = pw (k + 1) := by
  rcases (show k = 0 ∨ k = 1 ∨ k = 2 ∨ k = 3 ∨ k = 4 ∨ k = 5 ∨ k = 6 ∨ k = 7 ∨ k = 8 by omega) with rfl | rfl | rfl | rfl | rfl | rfl | rfl | rfl | rfl <;> decide
theorem pz_div (j : Nat) (h1 : 1 ≤ j) (h2 : j ≤ 10) : pz j / 10 = pz (j - 1) := by
  rcases (show j = 1 ∨ j = 2 ∨ j = 3 ∨ j = 4 ∨ j = 5 ∨ j = 6 ∨ j = 7 ∨ j = 8 ∨ j = 9 ∨ j = 10 by omega) with rfl | rfl | rfl | rfl | rfl | rfl | rfl | rfl | rfl | rfl <;> decide
theorem dig_end {x : Int64} (h : rok x) : lg_cmp (x / pw 9) 9 ≤ 0 := by
  rw [lg_cmp_le]
  apply Int64.le_iff_toInt_le.mpr
  rw [Int64.toInt_div]
  have e1 : (pw 9).toInt = 1000000000 := by decide
  have e2 : (9 : Int64).toInt = 9 := by decide
  rw [e1, e2]
  obtain ⟨h1, h2⟩ := h
  have h3 : x.toInt.tdiv 1000000000 = x.toInt / 1000000000 := Int.tdiv_eq_ediv_of_nonneg h1
  rw [h3]
  have h4 : (x.toInt / 1000000000).bmod (2 ^ 64) = x.toInt / 1000000000 := by
    apply Int.bmod_eq_of_le_mul_two
    · omega
    · omega
  rw [h4]
  omega
theorem dig_0 {j : Nat} (h : ¬ lg_cmp (pz j) 0 ≤ 0) : 1 ≤ j := by
  rcases Nat.eq_zero_or_pos j with rfl | h1
  · exact absurd (by decide) h
  · exact h1

set_option maxHeartbeats 8000000 in
set_option maxRecDepth 100000 in
theorem mo_letterOut (l : Launch) (D : va_G) (cI cL cZ cC : ClassId) (f : Nat → Nat) (h0 : Nat) (tn : Int32) (rm : Nat) (ln : Nat) (lx : Nat) (at_ : Nat) (bd : Int32) (fs : Nat) (dp : Nat) (on : Nat) (os : Nat) (bn : Nat) (df : Nat) (th : Int32) (tp : Nat) (mo_ : Int32) (ev : Nat) (ss : Int32) (so : Int32) (lk : Int64) (rs : Int64) (pt : Int32) (ot : Nat) (cl : Int32) (lts : Nat → Int32) (k : Int32) (sz : Nat) (hot : ot < 2147483647) (hnt : l.stackTraces = false) : em_Met l y_MO_letterOut (wz y_MO_letterOut b_MO_letterOut 2 none) ({ frames := 0, cells := 0, slots := 0, locals := 0 }) (va_Pc [.ref h0, .int k] (tw_pre D (tys4 cI cL cZ cC) [(h0, .inr (8, mS f tn rm ln lx at_ bd fs dp on os bn df th tp mo_ ev ss so lk rs pt ot cl)), ((f 29), .inl (cI, 200, .inl lts))] sz)) D (tys4 cI cL cZ cC) (va_A [(h0, .inr (8, mS f tn rm ln lx at_ bd fs dp on os bn df th tp mo_ ev ss so lk rs pt ot cl)), ((f 29), .inl (cI, 200, .inl lts))] sz) (fun (u : Nat × (Nat → Int32)) => [(h0, .inr (8, mS f tn rm ln lx at_ bd fs dp on os bn df th tp mo_ ev ss so lk rs pt u.1 cl)), ((f 29), .inl (cI, 200, .inl u.2))]) (fun v (u : Nat × (Nat → Int32)) => v = none ∧ ((u.1 = ot + 1))) (fun C (u : Nat × (Nat → Int32)) => False) 0 0 := by
  refine em_Met.ofW (cc := b_MO_letterOut) (maxL := 2) (ret := none) (by decide) rfl ?_
  intro p e s m args below meth c s₁ B hml hv hno
  obtain ⟨rfl, ⟨hsz, hP, hK, hD0⟩, hE⟩ := hv
  have hx := B.exec
  have hb := B.bytes
  have hr := B.returns
  have hts := atoms_spec (ws := wz y_MO_letterOut b_MO_letterOut 2 none) B.pre
  have hG := wz_G hts
  have hown : s.vm.findClass rn_MO = some m.cls := findClass_of_methodNamed B.named
  have hlocks := B.notSynchronized
  subst hsz
  have hD := hD0.self (sz := s.heap.size)
  have hst := tw_st hP
  generalize hAe : va_A [(h0, .inr (8, mS f tn rm ln lx at_ bd fs dp on os bn df th tp mo_ ev ss so lk rs pt ot cl)), ((f 29), .inl (cI, 200, .inl lts))] s.heap.size = A at hD hst ⊢
  have hA : ∀ q : Nat, s.heap.size ≤ q → A q := fun q h => by rw [← hAe]; exact Or.inr h
  have hS : va_S A s.heap s.heap [] := va_S.rf
  have hl := lv_entry ([.ref h0, .int k]) (n := 2) (Nat.le_of_ble_eq_true rfl)
  rw [lg_entry_eq]
  generalize (lg_sl ([.ref h0, .int k]) ++ List.replicate (2 - (lg_sl ([.ref h0, .int k])).length) Slot.unset).toArray = ls at hl ⊢
  have hl : lv_has ls 2 [(0, .ref h0), (1, .int k)] := hl
  refine lv_aload_n hx hb d_MO_letterOut_0 rfl (lv_at hl 0 rfl) ?_
  refine va_get (D := D) (ci := 8) (v := .int (nI ot)) (C := rn_MO) (T := fl_MO) (N := 55) hx hb hG in_MO hown hK hP 0 rfl rfl 50 (by decide) (hG _ k_1241) (fun _ h9 => h9) rfl d_MO_letterOut_1 ?_
  refine lv_sipush (v := 200) hx hb d_MO_letterOut_4 (by decide) ?_
  refine lv_icmp_ge (tgt := 20) hx hb d_MO_letterOut_7 (by decide) (fun hb_1 => ?_) (fun hb_1 => ?_)
  · skip
    have hn_2 : 200 ≤ ot := (nI_leI (a := 200) (b := ot) (by omega) (by omega)).mp hb_1
    refine lv_aload_n hx hb d_MO_letterOut_20 rfl (lv_at hl 0 rfl) ?_
    refine lv_dup hx hb d_MO_letterOut_21 rfl ?_
    refine va_get (D := D) (ci := 8) (v := .int (nI ot)) (C := rn_MO) (T := fl_MO) (N := 55) hx hb hG in_MO hown hK hP 0 rfl rfl 50 (by decide) (hG _ k_1241) (fun _ h9 => h9) rfl d_MO_letterOut_22 ?_
    refine lv_iconst (v := 1) hx hb d_MO_letterOut_25 (by decide) ?_
    refine lw_iadd (a := ot) (b := 1) hx hb d_MO_letterOut_26 ?_
    refine va_put (D := D) (ci := 8) (v := .int (nI (ot + 1))) (ty := .int) (C := rn_MO) (T := fl_MO) (N := 55) hx hb hG in_MO tt_MO tk_MO nn_MO hown hK hP hD hS 0 rfl rfl 50 (by decide) (hG _ k_1241) (fun _ h9 => h9) rfl (by decide +kernel) rfl rfl (Nat.le_of_ble_eq_true rfl) d_MO_letterOut_27 (fun H locs hP hD hS => ?_)
    have hP : va_P D classes [(h0, .inr (8, mS f tn rm ln lx at_ bd fs dp on os bn df th tp mo_ ev ss so lk rs pt (ot + 1) cl)), ((f 29), .inl (cI, 200, .inl lts))] H := hP
    have hD : va_D A [(h0, .inr (8, mS f tn rm ln lx at_ bd fs dp on os bn df th tp mo_ ev ss so lk rs pt (ot + 1) cl)), ((f 29), .inl (cI, 200, .inl lts))] := hD
    exact em_vret hx hb hr hlocks hP hD hK hS (ot + 1, lts) [0, 1] (by decide) rfl ⟨rfl, (show (ot + 1) = ot + 1 from (by first | assumption | omega | exact Or.inl rfl))⟩ d_MO_letterOut_30
  · skip
    have hn_3 : ¬ 200 ≤ ot := fun h => hb_1 ((nI_leI (a := 200) (b := ot) (by omega) (by omega)).mpr h)
    refine lv_aload_n hx hb d_MO_letterOut_10 rfl (lv_at hl 0 rfl) ?_
    refine va_get (D := D) (ci := 8) (v := .ref (f 29)) (C := rn_MO) (T := fl_MO) (N := 55) hx hb hG in_MO hown hK hP 0 rfl rfl 51 (by decide) (hG _ k_1242) (fun _ h9 => h9) rfl d_MO_letterOut_11 ?_
    refine lv_aload_n hx hb d_MO_letterOut_14 rfl (lv_at hl 0 rfl) ?_
    refine va_get (D := D) (ci := 8) (v := .int (nI ot)) (C := rn_MO) (T := fl_MO) (N := 55) hx hb hG in_MO hown hK hP 0 rfl rfl 50 (by decide) (hG _ k_1241) (fun _ h9 => h9) rfl d_MO_letterOut_15 ?_
    refine lv_iload_n hx hb d_MO_letterOut_18 rfl (lv_at hl 1 rfl) ?_
    refine va_iast hx hb hK hP hD hS 1 0 rfl rfl (vp_in_nI (n := ot) (N := 200) (by omega) (by omega)) d_MO_letterOut_19 (fun H locs hP hD hS => ?_)
    have hP : va_P D classes [(h0, .inr (8, mS f tn rm ln lx at_ bd fs dp on os bn df th tp mo_ ev ss so lk rs pt ot cl)), ((f 29), .inl (cI, 200, .inl (upd lts (nI ot).toNatClampNeg k)))] H := hP
    have hD : va_D A [(h0, .inr (8, mS f tn rm ln lx at_ bd fs dp on os bn df th tp mo_ ev ss so lk rs pt ot cl)), ((f 29), .inl (cI, 200, .inl (upd lts (nI ot).toNatClampNeg k)))] := hD
    obtain ⟨g_4, eg_4⟩ : ∃ z, z = upd lts ot k := ⟨_, rfl⟩
    rw [nI_clamp (n := ot) (by omega), ← eg_4] at hP hD
    refine lv_aload_n hx hb d_MO_letterOut_20 rfl (lv_at hl 0 rfl) ?_
    refine lv_dup hx hb d_MO_letterOut_21 rfl ?_
    refine va_get (D := D) (ci := 8) (v := .int (nI ot)) (C := rn_MO) (T := fl_MO) (N := 55) hx hb hG in_MO hown hK hP 0 rfl rfl 50 (by decide) (hG _ k_1241) (fun _ h9 => h9) rfl d_MO_letterOut_22 ?_
    refine lv_iconst (v := 1) hx hb d_MO_letterOut_25 (by decide) ?_
    refine lw_iadd (a := ot) (b := 1) hx hb d_MO_letterOut_26 ?_
    refine va_put (D := D) (ci := 8) (v := .int (nI (ot + 1))) (ty := .int) (C := rn_MO) (T := fl_MO) (N := 55) hx hb hG in_MO tt_MO tk_MO nn_MO hown hK hP hD hS 0 rfl rfl 50 (by decide) (hG _ k_1241) (fun _ h9 => h9) rfl (by decide +kernel) rfl rfl (Nat.le_of_ble_eq_true rfl) d_MO_letterOut_27 (fun H locs hP hD hS => ?_)
    have hP : va_P D classes [(h0, .inr (8, mS f tn rm ln lx at_ bd fs dp on os bn df th tp mo_ ev ss so lk rs pt (ot + 1) cl)), ((f 29), .inl (cI, 200, .inl g_4))] H := hP
    have hD : va_D A [(h0, .inr (8, mS f tn rm ln lx at_ bd fs dp on os bn df th tp mo_ ev ss so lk rs pt (ot + 1) cl)), ((f 29), .inl (cI, 200, .inl g_4))] := hD
    exact em_vret hx hb hr hlocks hP hD hK hS (ot + 1, g_4) [0, 1] (by decide) rfl ⟨rfl, (show (ot + 1) = ot + 1 from (by first | assumption | omega | exact Or.inl rfl))⟩ d_MO_letterOut_30
set_option maxHeartbeats 8000000 in
set_option maxRecDepth 100000 in
theorem mo_digits (l : Launch) (D : va_G) (cI cL cZ cC : ClassId) (f : Nat → Nat) (h0 : Nat) (tn : Int32) (rm : Nat) (ln : Nat) (lx : Nat) (at_ : Nat) (bd : Int32) (fs : Nat) (dp : Nat) (on : Nat) (os : Nat) (bn : Nat) (df : Nat) (th : Int32) (tp : Nat) (mo_ : Int32) (ev : Nat) (ss : Int32) (so : Int32) (lk : Int64) (rs : Int64) (pt : Int32) (ot : Nat) (cl : Int32) (lts : Nat → Int32) (v : Int32) (sz : Nat) (hot : ot + 11 < 2147483647) (hnt : l.stackTraces = false) : em_Met l y_MO_digits (wz y_MO_digits b_MO_digits 8 none) ({ frames := 1, cells := 0, slots := 0, locals := 21 }) (va_Pc [.ref h0, .int v] (tw_pre D (tys4 cI cL cZ cC) [(h0, .inr (8, mS f tn rm ln lx at_ bd fs dp on os bn df th tp mo_ ev ss so lk rs pt ot cl)), ((f 29), .inl (cI, 200, .inl lts))] sz)) D (tys4 cI cL cZ cC) (va_A [(h0, .inr (8, mS f tn rm ln lx at_ bd fs dp on os bn df th tp mo_ ev ss so lk rs pt ot cl)), ((f 29), .inl (cI, 200, .inl lts))] sz) (fun (u : Nat × (Nat → Int32)) => [(h0, .inr (8, mS f tn rm ln lx at_ bd fs dp on os bn df th tp mo_ ev ss so lk rs pt u.1 cl)), ((f 29), .inl (cI, 200, .inl u.2))]) (fun v (u : Nat × (Nat → Int32)) => v = none ∧ ((u.1 ≤ ot + 11))) (fun C (u : Nat × (Nat → Int32)) => False) 0 0 := by
  refine em_Met.ofW (cc := b_MO_digits) (maxL := 8) (ret := none) (by decide) rfl ?_
  intro p e s m args below meth c s₁ B hml hv hno
  obtain ⟨rfl, ⟨hsz, hP, hK, hD0⟩, hE⟩ := hv
  have hx := B.exec
  have hb := B.bytes
  have hr := B.returns
  have hts := atoms_spec (ws := wz y_MO_digits b_MO_digits 8 none) B.pre
  have hG := wz_G hts
  have hown : s.vm.findClass rn_MO = some m.cls := findClass_of_methodNamed B.named
  have hlocks := B.notSynchronized
  subst hsz
  have hD := hD0.self (sz := s.heap.size)
  have hst := tw_st hP
  generalize hAe : va_A [(h0, .inr (8, mS f tn rm ln lx at_ bd fs dp on os bn df th tp mo_ ev ss so lk rs pt ot cl)), ((f 29), .inl (cI, 200, .inl lts))] s.heap.size = A at hD hst ⊢
  have hA : ∀ q : Nat, s.heap.size ≤ q → A q := fun q h => by rw [← hAe]; exact Or.inr h
  have hS : va_S A s.heap s.heap [] := va_S.rf
  have hl := lv_entry ([.ref h0, .int v]) (n := 8) (Nat.le_of_ble_eq_true rfl)
  rw [lg_entry_eq]
  generalize (lg_sl ([.ref h0, .int v]) ++ List.replicate (8 - (lg_sl ([.ref h0, .int v])).length) Slot.unset).toArray = ls at hl ⊢
  have hl : lv_has ls 8 [(0, .ref h0), (1, .int v)] := hl
  refine lv_iload_n hx hb d_MO_digits_0 rfl (lv_at hl 1 rfl) ?_
  refine lv_if_ge (tgt := 10) hx hb d_MO_digits_1 (by decide) (fun hb_1 => ?_) (fun hb_1 => ?_)
  · skip
    refine lv_iload_n hx hb d_MO_digits_10 rfl (lv_at hl 1 rfl) ?_
    refine lv_i2l hx hb d_MO_digits_11 rfl ?_
    refine lv_lstore_n (lv' := [(2, .long v.toInt64), (0, .ref h0), (1, .int v)]) hx hb d_MO_digits_12 rfl hl (Nat.le_of_ble_eq_true rfl) rfl (fun ls hl => ?_)
    obtain ⟨x1, ex1, hx1⟩ : ∃ z : Int64, z = v.toInt64 ∧ rok z := ⟨_, rfl, rok_pos hb_1⟩
    have hl : lv_has ls 8 [(2, .long x1), (0, .ref h0), (1, .int v)] := by rw [← ex1] at hl; exact hl
    have loop_3 : ∀ (k_2 : Nat) (j : Nat) (ot2 : Nat) (lts2 : Nat → Int32) (H : Heap) (locs : List Loc) (ls : Array Slot), j < k_2 → (j ≤ 10) → (ot2 + j ≤ ot + 11) → lv_has ls 8 [(0, .ref h0), (2, .long x1), (6, .long (pz j))] → va_P D classes [(h0, .inr (8, mS f tn rm ln lx at_ bd fs dp on os bn df th tp mo_ ev ss so lk rs pt ot2 cl)), ((f 29), .inl (cI, 200, .inl lts2))] H → va_D A [(h0, .inr (8, mS f tn rm ln lx at_ bd fs dp on os bn df th tp mo_ ev ss so lk rs pt ot2 cl)), ((f 29), .inl (cI, 200, .inl lts2))] → va_S A s.heap H locs → W p l e (headSpec (wz y_MO_digits b_MO_digits 8 none) ({ frames := 1, cells := 0, slots := 0, locals := 21 })).room s m ([.ref h0, .int v] : List Value).toArray below meth c H locs 0 0 (em_MQ below D (tys4 cI cL cZ cC) A (fun (u : Nat × (Nat → Int32)) => [(h0, .inr (8, mS f tn rm ln lx at_ bd fs dp on os bn df th tp mo_ ev ss so lk rs pt u.1 cl)), ((f 29), .inl (cI, 200, .inl u.2))]) (fun v (u : Nat × (Nat → Int32)) => v = none ∧ ((u.1 ≤ ot + 11))) (fun C (u : Nat × (Nat → Int32)) => False) s 0 0) (F0 m 52 ls []) := by
      intro k_2
      induction k_2 with
      | zero => intro j ot2 lts2 H locs ls hm; exact absurd hm (Nat.not_lt_zero _)
      | succ k_2 ih_4 =>
        intro j ot2 lts2 H locs ls hm hj hot2 hl hP hD hS
        refine lv_lload hx hb d_MO_digits_52 (lv_at hl 2 rfl) ?_
        refine lv_lconst (v := 0) hx hb d_MO_digits_54 (by decide) ?_
        refine W.lcmp hx hb d_MO_digits_55 ?_
        refine lv_if_le (tgt := 86) hx hb d_MO_digits_56 (by decide) (fun hb_5 => ?_) (fun hb_5 => ?_)
        · skip
          exact em_vret hx hb hr hlocks hP hD hK hS (ot2, lts2) [0, 1] (by decide) rfl ⟨rfl, (show ot2 ≤ ot + 11 from (by first | assumption | omega | exact Or.inl rfl))⟩ d_MO_digits_86
        · skip
          have hj1 : 1 ≤ j := dig_0 hb_5
          refine lv_aload_n hx hb d_MO_digits_59 rfl (lv_at hl 0 rfl) ?_
          refine lv_bipush (v := 48) hx hb d_MO_digits_60 (by decide) ?_
          refine lv_lload_n hx hb d_MO_digits_62 rfl (lv_at hl 1 rfl) ?_
          refine lv_lload hx hb d_MO_digits_63 (lv_at hl 2 rfl) ?_
          refine lv_ldiv hx hb d_MO_digits_65 (pz_ne j (by omega) (by omega)) ?_
          refine lv_ldc2 (v := 10) hx hb hown (hG _ k_1395) d_MO_digits_66 ?_
          refine lv_lrem hx hb d_MO_digits_69 (by decide) ?_
          refine lv_l2i hx hb d_MO_digits_70 rfl ?_
          refine lv_iadd hx hb d_MO_digits_71 ?_
          refine em_call (wr := []) (em_runV (As := [.int (48 + (((x1 / (pz j)) - (x1 / (pz j)) / 10 * 10).toInt32))]) (rest := []) ⟨hx, hb, hml, hown, hG⟩ (mo_letterOut l D cI cL cZ cC f h0 tn rm ln lx at_ bd fs dp on os bn df th tp mo_ ev ss so lk rs pt ot2 cl lts2 (48 + (((x1 / (pz j)) - (x1 / (pz j)) / 10 * 10).toInt32)) _ (by first | assumption | omega | exact Or.inl rfl) hnt) (cwV 1 hG (gd_V k_1616 k_1618 k_100 k_116 k_1619) rfl rfl rfl (by decide +kernel) ⟨Nat.le_of_ble_eq_true rfl, Nat.le_of_ble_eq_true rfl⟩) (tw_V (q0 := 0) hP hD hK hE hst hS rfl rfl [0, 1] rfl (by decide)) rfl rfl hl.1 rfl (lv_room (Nat.le_of_ble_eq_true rfl)) d_MO_digits_72 ⟨Nat.le_of_ble_eq_true rfl, Nat.le_of_ble_eq_true rfl⟩) hP hD hS hA [0, 1] [] rfl rfl (by decide) (by decide) (fun v u H locs hok hP hD hS => ?_) (fun x C u H locs hbad hxx hP hD hS => ?_)
          · skip
            obtain ⟨ot_6, lts_7⟩ := u
            obtain ⟨rfl, hp_9⟩ := hok
            have hot_10 : (ot_6 = ot2 + 1) := hp_9
            have hP : va_P D classes [(h0, .inr (8, mS f tn rm ln lx at_ bd fs dp on os bn df th tp mo_ ev ss so lk rs pt ot_6 cl)), ((f 29), .inl (cI, 200, .inl lts_7))] H := hP
            have hD : va_D A [(h0, .inr (8, mS f tn rm ln lx at_ bd fs dp on os bn df th tp mo_ ev ss so lk rs pt ot_6 cl)), ((f 29), .inl (cI, 200, .inl lts_7))] := hD
            refine W.eq (g2 := F0 m 75 ls []) rfl ?_
            refine lv_lload hx hb d_MO_digits_75 (lv_at hl 2 rfl) ?_
            refine lv_ldc2 (v := 10) hx hb hown (hG _ k_1395) d_MO_digits_77 ?_
            refine lv_ldiv hx hb d_MO_digits_80 (by decide) ?_
            refine lv_lstore (lv' := [(6, .long ((pz j) / 10)), (0, .ref h0), (2, .long x1)]) hx hb d_MO_digits_81 hl (Nat.le_of_ble_eq_true rfl) rfl (fun ls hl => ?_)
            have hl : lv_has ls 8 [(6, .long (pz (j - 1))), (0, .ref h0), (2, .long x1)] := by rw [← pz_div j (by omega) (by omega)]; exact hl
            refine lv_goto (tgt := 52) hx hb d_MO_digits_83 (by decide) ?_
            have hl := lv_sub (l' := [(0, .ref h0), (2, .long x1), (6, .long (pz (j - 1)))]) hl [1, 2, 0] rfl
            exact ih_4 (j - 1) ot_6 lts_7 _ _ _ (by omega) (by omega) (by omega) hl hP hD hS
          · skip
            exact hbad.elim
    have loop_13 : ∀ (k_12 : Nat) (k : Nat) (ot1 : Nat) (lts1 : Nat → Int32) (H : Heap) (locs : List Loc) (ls : Array Slot), 9 - k < k_12 → (k ≤ 9) → (ot1 ≤ ot + 1) → lv_has ls 8 [(0, .ref h0), (2, .long x1), (4, .long (pw k))] → va_P D classes [(h0, .inr (8, mS f tn rm ln lx at_ bd fs dp on os bn df th tp mo_ ev ss so lk rs pt ot1 cl)), ((f 29), .inl (cI, 200, .inl lts1))] H → va_D A [(h0, .inr (8, mS f tn rm ln lx at_ bd fs dp on os bn df th tp mo_ ev ss so lk rs pt ot1 cl)), ((f 29), .inl (cI, 200, .inl lts1))] → va_S A s.heap H locs → W p l e (headSpec (wz y_MO_digits b_MO_digits 8 none) ({ frames := 1, cells := 0, slots := 0, locals := 21 })).room s m ([.ref h0, .int v] : List Value).toArray below meth c H locs 0 0 (em_MQ below D (tys4 cI cL cZ cC) A (fun (u : Nat × (Nat → Int32)) => [(h0, .inr (8, mS f tn rm ln lx at_ bd fs dp on os bn df th tp mo_ ev ss so lk rs pt u.1 cl)), ((f 29), .inl (cI, 200, .inl u.2))]) (fun v (u : Nat × (Nat → Int32)) => v = none ∧ ((u.1 ≤ ot + 11))) (fun C (u : Nat × (Nat → Int32)) => False) s 0 0) (F0 m 26 ls []) := by
      intro k_12
      induction k_12 with
      | zero => intro k ot1 lts1 H locs ls hm; exact absurd hm (Nat.not_lt_zero _)
      | succ k_12 ih_14 =>
        intro k ot1 lts1 H locs ls hm hk hot1 hl hP hD hS
        refine lv_lload_n hx hb d_MO_digits_26 rfl (lv_at hl 1 rfl) ?_
        refine lv_lload hx hb d_MO_digits_27 (lv_at hl 2 rfl) ?_
        refine lv_ldiv hx hb d_MO_digits_29 (pw_ne k (by omega)) ?_
        refine lv_ldc2 (v := 9) hx hb hown (hG _ k_1620) d_MO_digits_30 ?_
        refine W.lcmp hx hb d_MO_digits_33 ?_
        refine lv_if_le (tgt := 48) hx hb d_MO_digits_34 (by decide) (fun hb_15 => ?_) (fun hb_15 => ?_)
        · skip
          refine lv_lload hx hb d_MO_digits_48 (lv_at hl 2 rfl) ?_
          refine lv_lstore (lv' := [(6, .long (pw k)), (0, .ref h0), (2, .long x1), (4, .long (pw k))]) hx hb d_MO_digits_50 hl (Nat.le_of_ble_eq_true rfl) rfl (fun ls hl => ?_)
          have hl : lv_has ls 8 [(6, .long (pz (k + 1))), (0, .ref h0), (2, .long x1), (4, .long (pw k))] := hl
          have hl := lv_sub (l' := [(0, .ref h0), (2, .long x1), (6, .long (pz (k + 1)))]) hl [1, 2, 0] rfl
          exact loop_3 _ (k + 1) ot1 lts1 _ _ _ (Nat.lt_succ_self _) (by omega) (by omega) hl hP hD hS
        · skip
          have hk8 : k ≤ 8 := by
            rcases Nat.lt_or_ge k 9 with q | q
            · omega
            · exact absurd (by rw [show k = 9 by omega]; exact dig_end hx1) hb_15
          refine lv_lload hx hb d_MO_digits_37 (lv_at hl 2 rfl) ?_
          refine lv_ldc2 (v := 10) hx hb hown (hG _ k_1395) d_MO_digits_39 ?_
          refine lv_lmul hx hb d_MO_digits_42 ?_
          refine lv_lstore (lv' := [(4, .long ((pw k) * 10)), (0, .ref h0), (2, .long x1)]) hx hb d_MO_digits_43 hl (Nat.le_of_ble_eq_true rfl) rfl (fun ls hl => ?_)
          have hl : lv_has ls 8 [(4, .long (pw (k + 1))), (0, .ref h0), (2, .long x1)] := by rw [← pw_mul k (by omega)]; exact hl
          refine lv_goto (tgt := 26) hx hb d_MO_digits_45 (by decide) ?_
          have hl := lv_sub (l' := [(0, .ref h0), (2, .long x1), (4, .long (pw (k + 1)))]) hl [1, 2, 0] rfl
          exact ih_14 (k + 1) ot1 lts1 _ _ _ (by omega) (by omega) (by omega) hl hP hD hS
    refine lv_iload_n hx hb d_MO_digits_13 rfl (lv_at hl 2 rfl) ?_
    refine lv_if_ge (tgt := 23) hx hb d_MO_digits_14 (by decide) (fun hb_16 => ?_) (fun hb_16 => ?_)
    · skip
      refine lv_lconst (v := 1) hx hb d_MO_digits_23 (by decide) ?_
      refine lv_lstore (lv' := [(4, .long 1), (2, .long x1), (0, .ref h0), (1, .int v)]) hx hb d_MO_digits_24 hl (Nat.le_of_ble_eq_true rfl) rfl (fun ls hl => ?_)
      have hl : lv_has ls 8 [(4, .long (pw 0)), (2, .long x1), (0, .ref h0), (1, .int v)] := hl
      have hl := lv_sub (l' := [(0, .ref h0), (2, .long x1), (4, .long (pw 0))]) hl [2, 1, 0] rfl
      exact loop_13 _ 0 ot lts _ _ _ (Nat.lt_succ_self _) (by omega) (by omega) hl hP hD hS
    · skip
      refine lv_aload_n hx hb d_MO_digits_17 rfl (lv_at hl 1 rfl) ?_
      refine lv_bipush (v := 45) hx hb d_MO_digits_18 (by decide) ?_
      refine em_call (wr := []) (em_runV (As := [.int 45]) (rest := []) ⟨hx, hb, hml, hown, hG⟩ (mo_letterOut l D cI cL cZ cC f h0 tn rm ln lx at_ bd fs dp on os bn df th tp mo_ ev ss so lk rs pt ot cl lts 45 _ (by first | assumption | omega | exact Or.inl rfl) hnt) (cwV 1 hG (gd_V k_1616 k_1618 k_100 k_116 k_1619) rfl rfl rfl (by decide +kernel) ⟨Nat.le_of_ble_eq_true rfl, Nat.le_of_ble_eq_true rfl⟩) (tw_V (q0 := 0) hP hD hK hE hst hS rfl rfl [0, 1] rfl (by decide)) rfl rfl hl.1 rfl (lv_room (Nat.le_of_ble_eq_true rfl)) d_MO_digits_20 ⟨Nat.le_of_ble_eq_true rfl, Nat.le_of_ble_eq_true rfl⟩) hP hD hS hA [0, 1] [] rfl rfl (by decide) (by decide) (fun v u H locs hok hP hD hS => ?_) (fun x C u H locs hbad hxx hP hD hS => ?_)
      · skip
        obtain ⟨ot_17, lts_18⟩ := u
        obtain ⟨rfl, hp_20⟩ := hok
        have hot_21 : (ot_17 = ot + 1) := hp_20
        have hP : va_P D classes [(h0, .inr (8, mS f tn rm ln lx at_ bd fs dp on os bn df th tp mo_ ev ss so lk rs pt ot_17 cl)), ((f 29), .inl (cI, 200, .inl lts_18))] H := hP
        have hD : va_D A [(h0, .inr (8, mS f tn rm ln lx at_ bd fs dp on os bn df th tp mo_ ev ss so lk rs pt ot_17 cl)), ((f 29), .inl (cI, 200, .inl lts_18))] := hD
        refine W.eq (g2 := F0 m 23 ls []) rfl ?_
        refine lv_lconst (v := 1) hx hb d_MO_digits_23 (by decide) ?_
        refine lv_lstore (lv' := [(4, .long 1), (2, .long x1), (0, .ref h0), (1, .int v)]) hx hb d_MO_digits_24 hl (Nat.le_of_ble_eq_true rfl) rfl (fun ls hl => ?_)
        have hl : lv_has ls 8 [(4, .long (pw 0)), (2, .long x1), (0, .ref h0), (1, .int v)] := hl
        have hl := lv_sub (l' := [(0, .ref h0), (2, .long x1), (4, .long (pw 0))]) hl [2, 1, 0] rfl
        exact loop_13 _ 0 ot_17 lts_18 _ _ _ (Nat.lt_succ_self _) (by omega) (by omega) hl hP hD hS
      · skip
        exact hbad.elim
  · skip
    refine lv_iload_n hx hb d_MO_digits_4 rfl (lv_at hl 1 rfl) ?_
    refine lv_i2l hx hb d_MO_digits_5 rfl ?_
    refine lv_lneg hx hb d_MO_digits_6 ?_
    refine lv_goto (tgt := 12) hx hb d_MO_digits_7 (by decide) ?_
    refine lv_lstore_n (lv' := [(2, .long (-v.toInt64)), (0, .ref h0), (1, .int v)]) hx hb d_MO_digits_12 rfl hl (Nat.le_of_ble_eq_true rfl) rfl (fun ls hl => ?_)
    obtain ⟨x1, ex1, hx1⟩ : ∃ z : Int64, z = -v.toInt64 ∧ rok z := ⟨_, rfl, rok_neg hb_1⟩
    have hl : lv_has ls 8 [(2, .long x1), (0, .ref h0), (1, .int v)] := by rw [← ex1] at hl; exact hl
    have loop_24 : ∀ (k_23 : Nat) (j : Nat) (ot2 : Nat) (lts2 : Nat → Int32) (H : Heap) (locs : List Loc) (ls : Array Slot), j < k_23 → (j ≤ 10) → (ot2 + j ≤ ot + 11) → lv_has ls 8 [(0, .ref h0), (2, .long x1), (6, .long (pz j))] → va_P D classes [(h0, .inr (8, mS f tn rm ln lx at_ bd fs dp on os bn df th tp mo_ ev ss so lk rs pt ot2 cl)), ((f 29), .inl (cI, 200, .inl lts2))] H → va_D A [(h0, .inr (8, mS f tn rm ln lx at_ bd fs dp on os bn df th tp mo_ ev ss so lk rs pt ot2 cl)), ((f 29), .inl (cI, 200, .inl lts2))] → va_S A s.heap H locs → W p l e (headSpec (wz y_MO_digits b_MO_digits 8 none) ({ frames := 1, cells := 0, slots := 0, locals := 21 })).room s m ([.ref h0, .int v] : List Value).toArray below meth c H locs 0 0 (em_MQ below D (tys4 cI cL cZ cC) A (fun (u : Nat × (Nat → Int32)) => [(h0, .inr (8, mS f tn rm ln lx at_ bd fs dp on os bn df th tp mo_ ev ss so lk rs pt u.1 cl)), ((f 29), .inl (cI, 200, .inl u.2))]) (fun v (u : Nat × (Nat → Int32)) => v = none ∧ ((u.1 ≤ ot + 11))) (fun C (u : Nat × (Nat → Int32)) => False) s 0 0) (F0 m 52 ls []) := by
      intro k_23
      induction k_23 with
      | zero => intro j ot2 lts2 H locs ls hm; exact absurd hm (Nat.not_lt_zero _)
      | succ k_23 ih_25 =>
        intro j ot2 lts2 H locs ls hm hj hot2 hl hP hD hS
        refine lv_lload hx hb d_MO_digits_52 (lv_at hl 2 rfl) ?_
        refine lv_lconst (v := 0) hx hb d_MO_digits_54 (by decide) ?_
        refine W.lcmp hx hb d_MO_digits_55 ?_
        refine lv_if_le (tgt := 86) hx hb d_MO_digits_56 (by decide) (fun hb_26 => ?_) (fun hb_26 => ?_)
        · skip
          exact em_vret hx hb hr hlocks hP hD hK hS (ot2, lts2) [0, 1] (by decide) rfl ⟨rfl, (show ot2 ≤ ot + 11 from (by first | assumption | omega | exact Or.inl rfl))⟩ d_MO_digits_86
        · skip
          have hj1 : 1 ≤ j := dig_0 hb_26
          refine lv_aload_n hx hb d_MO_digits_59 rfl (lv_at hl 0 rfl) ?_
          refine lv_bipush (v := 48) hx hb d_MO_digits_60 (by decide) ?_
          refine lv_lload_n hx hb d_MO_digits_62 rfl (lv_at hl 1 rfl) ?_
          refine lv_lload hx hb d_MO_digits_63 (lv_at hl 2 rfl) ?_
          refine lv_ldiv hx hb d_MO_digits_65 (pz_ne j (by omega) (by omega)) ?_
          refine lv_ldc2 (v := 10) hx hb hown (hG _ k_1395) d_MO_digits_66 ?_
          refine lv_lrem hx hb d_MO_digits_69 (by decide) ?_
          refine lv_l2i hx hb d_MO_digits_70 rfl ?_
          refine lv_iadd hx hb d_MO_digits_71 ?_
          refine em_call (wr := []) (em_runV (As := [.int (48 + (((x1 / (pz j)) - (x1 / (pz j)) / 10 * 10).toInt32))]) (rest := []) ⟨hx, hb, hml, hown, hG⟩ (mo_letterOut l D cI cL cZ cC f h0 tn rm ln lx at_ bd fs dp on os bn df th tp mo_ ev ss so lk rs pt ot2 cl lts2 (48 + (((x1 / (pz j)) - (x1 / (pz j)) / 10 * 10).toInt32)) _ (by first | assumption | omega | exact Or.inl rfl) hnt) (cwV 1 hG (gd_V k_1616 k_1618 k_100 k_116 k_1619) rfl rfl rfl (by decide +kernel) ⟨Nat.le_of_ble_eq_true rfl, Nat.le_of_ble_eq_true rfl⟩) (tw_V (q0 := 0) hP hD hK hE hst hS rfl rfl [0, 1] rfl (by decide)) rfl rfl hl.1 rfl (lv_room (Nat.le_of_ble_eq_true rfl)) d_MO_digits_72 ⟨Nat.le_of_ble_eq_true rfl, Nat.le_of_ble_eq_true rfl⟩) hP hD hS hA [0, 1] [] rfl rfl (by decide) (by decide) (fun v u H locs hok hP hD hS => ?_) (fun x C u H locs hbad hxx hP hD hS => ?_)
          · skip
            obtain ⟨ot_27, lts_28⟩ := u
            obtain ⟨rfl, hp_30⟩ := hok
            have hot_31 : (ot_27 = ot2 + 1) := hp_30
            have hP : va_P D classes [(h0, .inr (8, mS f tn rm ln lx at_ bd fs dp on os bn df th tp mo_ ev ss so lk rs pt ot_27 cl)), ((f 29), .inl (cI, 200, .inl lts_28))] H := hP
            have hD : va_D A [(h0, .inr (8, mS f tn rm ln lx at_ bd fs dp on os bn df th tp mo_ ev ss so lk rs pt ot_27 cl)), ((f 29), .inl (cI, 200, .inl lts_28))] := hD
            refine W.eq (g2 := F0 m 75 ls []) rfl ?_
            refine lv_lload hx hb d_MO_digits_75 (lv_at hl 2 rfl) ?_
            refine lv_ldc2 (v := 10) hx hb hown (hG _ k_1395) d_MO_digits_77 ?_
            refine lv_ldiv hx hb d_MO_digits_80 (by decide) ?_
            refine lv_lstore (lv' := [(6, .long ((pz j) / 10)), (0, .ref h0), (2, .long x1)]) hx hb d_MO_digits_81 hl (Nat.le_of_ble_eq_true rfl) rfl (fun ls hl => ?_)
            have hl : lv_has ls 8 [(6, .long (pz (j - 1))), (0, .ref h0), (2, .long x1)] := by rw [← pz_div j (by omega) (by omega)]; exact hl
            refine lv_goto (tgt := 52) hx hb d_MO_digits_83 (by decide) ?_
            have hl := lv_sub (l' := [(0, .ref h0), (2, .long x1), (6, .long (pz (j - 1)))]) hl [1, 2, 0] rfl
            exact ih_25 (j - 1) ot_27 lts_28 _ _ _ (by omega) (by omega) (by omega) hl hP hD hS
          · skip
            exact hbad.elim
    have loop_34 : ∀ (k_33 : Nat) (k : Nat) (ot1 : Nat) (lts1 : Nat → Int32) (H : Heap) (locs : List Loc) (ls : Array Slot), 9 - k < k_33 → (k ≤ 9) → (ot1 ≤ ot + 1) → lv_has ls 8 [(0, .ref h0), (2, .long x1), (4, .long (pw k))] → va_P D classes [(h0, .inr (8, mS f tn rm ln lx at_ bd fs dp on os bn df th tp mo_ ev ss so lk rs pt ot1 cl)), ((f 29), .inl (cI, 200, .inl lts1))] H → va_D A [(h0, .inr (8, mS f tn rm ln lx at_ bd fs dp on os bn df th tp mo_ ev ss so lk rs pt ot1 cl)), ((f 29), .inl (cI, 200, .inl lts1))] → va_S A s.heap H locs → W p l e (headSpec (wz y_MO_digits b_MO_digits 8 none) ({ frames := 1, cells := 0, slots := 0, locals := 21 })).room s m ([.ref h0, .int v] : List Value).toArray below meth c H locs 0 0 (em_MQ below D (tys4 cI cL cZ cC) A (fun (u : Nat × (Nat → Int32)) => [(h0, .inr (8, mS f tn rm ln lx at_ bd fs dp on os bn df th tp mo_ ev ss so lk rs pt u.1 cl)), ((f 29), .inl (cI, 200, .inl u.2))]) (fun v (u : Nat × (Nat → Int32)) => v = none ∧ ((u.1 ≤ ot + 11))) (fun C (u : Nat × (Nat → Int32)) => False) s 0 0) (F0 m 26 ls []) := by
      intro k_33
      induction k_33 with
      | zero => intro k ot1 lts1 H locs ls hm; exact absurd hm (Nat.not_lt_zero _)
      | succ k_33 ih_35 =>
        intro k ot1 lts1 H locs ls hm hk hot1 hl hP hD hS
        refine lv_lload_n hx hb d_MO_digits_26 rfl (lv_at hl 1 rfl) ?_
        refine lv_lload hx hb d_MO_digits_27 (lv_at hl 2 rfl) ?_
        refine lv_ldiv hx hb d_MO_digits_29 (pw_ne k (by omega)) ?_
        refine lv_ldc2 (v := 9) hx hb hown (hG _ k_1620) d_MO_digits_30 ?_
        refine W.lcmp hx hb d_MO_digits_33 ?_
        refine lv_if_le (tgt := 48) hx hb d_MO_digits_34 (by decide) (fun hb_36 => ?_) (fun hb_36 => ?_)
        · skip
          refine lv_lload hx hb d_MO_digits_48 (lv_at hl 2 rfl) ?_
          refine lv_lstore (lv' := [(6, .long (pw k)), (0, .ref h0), (2, .long x1), (4, .long (pw k))]) hx hb d_MO_digits_50 hl (Nat.le_of_ble_eq_true rfl) rfl (fun ls hl => ?_)
          have hl : lv_has ls 8 [(6, .long (pz (k + 1))), (0, .ref h0), (2, .long x1), (4, .long (pw k))] := hl
          have hl := lv_sub (l' := [(0, .ref h0), (2, .long x1), (6, .long (pz (k + 1)))]) hl [1, 2, 0] rfl
          exact loop_24 _ (k + 1) ot1 lts1 _ _ _ (Nat.lt_succ_self _) (by omega) (by omega) hl hP hD hS
        · skip
          have hk8 : k ≤ 8 := by
            rcases Nat.lt_or_ge k 9 with q | q
            · omega
            · exact absurd (by rw [show k = 9 by omega]; exact dig_end hx1) hb_36
          refine lv_lload hx hb d_MO_digits_37 (lv_at hl 2 rfl) ?_
          refine lv_ldc2 (v := 10) hx hb hown (hG _ k_1395) d_MO_digits_39 ?_
          refine lv_lmul hx hb d_MO_digits_42 ?_
          refine lv_lstore (lv' := [(4, .long ((pw k) * 10)), (0, .ref h0), (2, .long x1)]) hx hb d_MO_digits_43 hl (Nat.le_of_ble_eq_true rfl) rfl (fun ls hl => ?_)
          have hl : lv_has ls 8 [(4, .long (pw (k + 1))), (0, .ref h0), (2, .long x1)] := by rw [← pw_mul k (by omega)]; exact hl
          refine lv_goto (tgt := 26) hx hb d_MO_digits_45 (by decide) ?_
          have hl := lv_sub (l' := [(0, .ref h0), (2, .long x1), (4, .long (pw (k + 1)))]) hl [1, 2, 0] rfl
          exact ih_35 (k + 1) ot1 lts1 _ _ _ (by omega) (by omega) (by omega) hl hP hD hS
    refine lv_iload_n hx hb d_MO_digits_13 rfl (lv_at hl 2 rfl) ?_
    refine lv_if_ge (tgt := 23) hx hb d_MO_digits_14 (by decide) (fun hb_37 => ?_) (fun hb_37 => ?_)
    · skip
      refine lv_lconst (v := 1) hx hb d_MO_digits_23 (by decide) ?_
      refine lv_lstore (lv' := [(4, .long 1), (2, .long x1), (0, .ref h0), (1, .int v)]) hx hb d_MO_digits_24 hl (Nat.le_of_ble_eq_true rfl) rfl (fun ls hl => ?_)
      have hl : lv_has ls 8 [(4, .long (pw 0)), (2, .long x1), (0, .ref h0), (1, .int v)] := hl
      have hl := lv_sub (l' := [(0, .ref h0), (2, .long x1), (4, .long (pw 0))]) hl [2, 1, 0] rfl
      exact loop_34 _ 0 ot lts _ _ _ (Nat.lt_succ_self _) (by omega) (by omega) hl hP hD hS
    · skip
      refine lv_aload_n hx hb d_MO_digits_17 rfl (lv_at hl 1 rfl) ?_
      refine lv_bipush (v := 45) hx hb d_MO_digits_18 (by decide) ?_
      refine em_call (wr := []) (em_runV (As := [.int 45]) (rest := []) ⟨hx, hb, hml, hown, hG⟩ (mo_letterOut l D cI cL cZ cC f h0 tn rm ln lx at_ bd fs dp on os bn df th tp mo_ ev ss so lk rs pt ot cl lts 45 _ (by first | assumption | omega | exact Or.inl rfl) hnt) (cwV 1 hG (gd_V k_1616 k_1618 k_100 k_116 k_1619) rfl rfl rfl (by decide +kernel) ⟨Nat.le_of_ble_eq_true rfl, Nat.le_of_ble_eq_true rfl⟩) (tw_V (q0 := 0) hP hD hK hE hst hS rfl rfl [0, 1] rfl (by decide)) rfl rfl hl.1 rfl (lv_room (Nat.le_of_ble_eq_true rfl)) d_MO_digits_20 ⟨Nat.le_of_ble_eq_true rfl, Nat.le_of_ble_eq_true rfl⟩) hP hD hS hA [0, 1] [] rfl rfl (by decide) (by decide) (fun v u H locs hok hP hD hS => ?_) (fun x C u H locs hbad hxx hP hD hS => ?_)
      · skip
        obtain ⟨ot_38, lts_39⟩ := u
        obtain ⟨rfl, hp_41⟩ := hok
        have hot_42 : (ot_38 = ot + 1) := hp_41
        have hP : va_P D classes [(h0, .inr (8, mS f tn rm ln lx at_ bd fs dp on os bn df th tp mo_ ev ss so lk rs pt ot_38 cl)), ((f 29), .inl (cI, 200, .inl lts_39))] H := hP
        have hD : va_D A [(h0, .inr (8, mS f tn rm ln lx at_ bd fs dp on os bn df th tp mo_ ev ss so lk rs pt ot_38 cl)), ((f 29), .inl (cI, 200, .inl lts_39))] := hD
        refine W.eq (g2 := F0 m 23 ls []) rfl ?_
        refine lv_lconst (v := 1) hx hb d_MO_digits_23 (by decide) ?_
        refine lv_lstore (lv' := [(4, .long 1), (2, .long x1), (0, .ref h0), (1, .int v)]) hx hb d_MO_digits_24 hl (Nat.le_of_ble_eq_true rfl) rfl (fun ls hl => ?_)
        have hl : lv_has ls 8 [(4, .long (pw 0)), (2, .long x1), (0, .ref h0), (1, .int v)] := hl
        have hl := lv_sub (l' := [(0, .ref h0), (2, .long x1), (4, .long (pw 0))]) hl [2, 1, 0] rfl
        exact loop_34 _ 0 ot_38 lts_39 _ _ _ (Nat.lt_succ_self _) (by omega) (by omega) hl hP hD hS
      · skip
        exact hbad.elim
set_option maxHeartbeats 8000000 in
set_option maxRecDepth 100000 in
theorem mo_say (l : Launch) (D : va_G) (cI cL cZ cC : ClassId) (f : Nat → Nat) (h0 : Nat) (tn : Int32) (rm : Nat) (ln : Nat) (lx : Nat) (at_ : Nat) (bd : Int32) (fs : Nat) (dp : Nat) (on : Nat) (os : Nat) (bn : Nat) (df : Nat) (th : Int32) (tp : Nat) (mo_ : Int32) (ev : Nat) (ss : Int32) (so : Int32) (lk : Int64) (rs : Int64) (pt : Int32) (ot : Nat) (cl : Int32) (lts : Nat → Int32) (t : Int64) (sz : Nat) (hot : ot + 11 < 2147483647) (hnt : l.stackTraces = false) : em_Met l y_MO_say (wz y_MO_say b_MO_say 3 none) ({ frames := 2, cells := 0, slots := 0, locals := 48 }) (va_Pc [.ref h0, .long t] (tw_pre D (tys4 cI cL cZ cC) [(h0, .inr (8, mS f tn rm ln lx at_ bd fs dp on os bn df th tp mo_ ev ss so lk rs pt ot cl)), ((f 29), .inl (cI, 200, .inl lts))] sz)) D (tys4 cI cL cZ cC) (va_A [(h0, .inr (8, mS f tn rm ln lx at_ bd fs dp on os bn df th tp mo_ ev ss so lk rs pt ot cl)), ((f 29), .inl (cI, 200, .inl lts))] sz) (fun (u : Nat × (Nat → Int32)) => [(h0, .inr (8, mS f tn rm ln lx at_ bd fs dp on os bn df th tp mo_ ev ss so lk rs pt u.1 cl)), ((f 29), .inl (cI, 200, .inl u.2))]) (fun v (u : Nat × (Nat → Int32)) => v = none ∧ ((u.1 ≤ ot + 11))) (fun C (u : Nat × (Nat → Int32)) => False) 0 0 := by
  refine em_Met.ofW (cc := b_MO_say) (maxL := 3) (ret := none) (by decide) rfl ?_
  intro p e s m args below meth c s₁ B hml hv hno
  obtain ⟨rfl, ⟨hsz, hP, hK, hD0⟩, hE⟩ := hv
  have hx := B.exec
  have hb := B.bytes
  have hr := B.returns
  have hts := atoms_spec (ws := wz y_MO_say b_MO_say 3 none) B.pre
  have hG := wz_G hts
  have hown : s.vm.findClass rn_MO = some m.cls := findClass_of_methodNamed B.named
  have hlocks := B.notSynchronized
  subst hsz
  have hD := hD0.self (sz := s.heap.size)
  have hst := tw_st hP
  generalize hAe : va_A [(h0, .inr (8, mS f tn rm ln lx at_ bd fs dp on os bn df th tp mo_ ev ss so lk rs pt ot cl)), ((f 29), .inl (cI, 200, .inl lts))] s.heap.size = A at hD hst ⊢
  have hA : ∀ q : Nat, s.heap.size ≤ q → A q := fun q h => by rw [← hAe]; exact Or.inr h
  have hS : va_S A s.heap s.heap [] := va_S.rf
  have hl := lv_entry ([.ref h0, .long t]) (n := 3) (Nat.le_of_ble_eq_true rfl)
  rw [lg_entry_eq]
  generalize (lg_sl ([.ref h0, .long t]) ++ List.replicate (3 - (lg_sl ([.ref h0, .long t])).length) Slot.unset).toArray = ls at hl ⊢
  have hl : lv_has ls 3 [(0, .ref h0), (1, .long t)] := hl
  refine lv_lload_n hx hb d_MO_say_0 rfl (lv_at hl 1 rfl) ?_
  refine W.callR (W.runS (As := [.long t]) (rest := []) ⟨hx, hb, hml, hown, hG⟩ (mo_kindOf l D cI cL cZ cC t ) (cwS 1 hG (gd_S k_1519 k_1520 k_116 k_1521) rfl rfl rfl (by decide +kernel) ⟨Nat.le_of_ble_eq_true rfl, Nat.le_of_ble_eq_true rfl⟩) (wq_S hP hK [] rfl) rfl rfl hl.1 rfl (lv_room (Nat.le_of_ble_eq_true rfl)) d_MO_say_1 ⟨Nat.le_of_ble_eq_true rfl, Nat.le_of_ble_eq_true rfl⟩) ?_
  refine W.eq (g2 := F0 m 4 ls [.int (wkind t)]) rfl ?_
  refine lv_if_ne (tgt := 18) hx hb d_MO_say_4 (by decide) (fun hb_1 => ?_) (fun hb_1 => ?_)
  · skip
    refine lv_aload_n hx hb d_MO_say_18 rfl (lv_at hl 0 rfl) ?_
    refine lv_lload_n hx hb d_MO_say_19 rfl (lv_at hl 1 rfl) ?_
    refine lv_bipush (v := 21) hx hb d_MO_say_20 (by decide) ?_
    refine W.callRL (W.runS (As := [.int 21]) (rest := [.long t, .ref h0]) ⟨hx, hb, hml, hown, hG⟩ (mo_constant l D cI cL cZ cC 21 ) (cwS 1 hG (gd_S k_1461 k_1462 k_116 k_1463) rfl rfl rfl (by decide +kernel) ⟨Nat.le_of_ble_eq_true rfl, Nat.le_of_ble_eq_true rfl⟩) (wq_S hP hK [] rfl) rfl rfl hl.1 rfl (lv_room (Nat.le_of_ble_eq_true rfl)) d_MO_say_22 ⟨Nat.le_of_ble_eq_true rfl, Nat.le_of_ble_eq_true rfl⟩) ?_
    refine W.eq (g2 := F0 m 25 ls [.long (wof 2 21), .long t, .ref h0]) rfl ?_
    refine W.lcmp hx hb d_MO_say_25 ?_
    refine lv_if_ne (tgt := 34) hx hb d_MO_say_26 (by decide) (fun hb_2 => ?_) (fun hb_2 => ?_)
    · skip
      have hq_3 : ¬ _ := fun h => hb_2 ((lg_cmp_eq _ _).mpr h)
      refine lv_bipush (v := 102) hx hb d_MO_say_34 (by decide) ?_
      refine em_call (wr := []) (em_runV (As := [.int 102]) (rest := []) ⟨hx, hb, hml, hown, hG⟩ (mo_letterOut l D cI cL cZ cC f h0 tn rm ln lx at_ bd fs dp on os bn df th tp mo_ ev ss so lk rs pt ot cl lts 102 _ (by first | assumption | omega | exact Or.inl rfl) hnt) (cwV 1 hG (gd_V k_1616 k_1618 k_100 k_116 k_1619) rfl rfl rfl (by decide +kernel) ⟨Nat.le_of_ble_eq_true rfl, Nat.le_of_ble_eq_true rfl⟩) (tw_V (q0 := 0) hP hD hK hE hst hS rfl rfl [0, 1] rfl (by decide)) rfl rfl hl.1 rfl (lv_room (Nat.le_of_ble_eq_true rfl)) d_MO_say_36 ⟨Nat.le_of_ble_eq_true rfl, Nat.le_of_ble_eq_true rfl⟩) hP hD hS hA [0, 1] [] rfl rfl (by decide) (by decide) (fun v u H locs hok hP hD hS => ?_) (fun x C u H locs hbad hxx hP hD hS => ?_)
      · skip
        obtain ⟨ot_4, lts_5⟩ := u
        obtain ⟨rfl, hp_7⟩ := hok
        have hot_8 : (ot_4 = ot + 1) := hp_7
        have hP : va_P D classes [(h0, .inr (8, mS f tn rm ln lx at_ bd fs dp on os bn df th tp mo_ ev ss so lk rs pt ot_4 cl)), ((f 29), .inl (cI, 200, .inl lts_5))] H := hP
        have hD : va_D A [(h0, .inr (8, mS f tn rm ln lx at_ bd fs dp on os bn df th tp mo_ ev ss so lk rs pt ot_4 cl)), ((f 29), .inl (cI, 200, .inl lts_5))] := hD
        refine W.eq (g2 := F0 m 39 ls []) rfl ?_
        exact em_vret hx hb hr hlocks hP hD hK hS (ot_4, lts_5) [0, 1] (by decide) rfl ⟨rfl, (show ot_4 ≤ ot + 11 from (by first | assumption | omega | exact Or.inl rfl))⟩ d_MO_say_39
      · skip
        exact hbad.elim
    · skip
      have hq_10 := (lg_cmp_eq _ _).mp hb_2
      refine lv_bipush (v := 116) hx hb d_MO_say_29 (by decide) ?_
      refine lv_goto (tgt := 36) hx hb d_MO_say_31 (by decide) ?_
      refine em_call (wr := []) (em_runV (As := [.int 116]) (rest := []) ⟨hx, hb, hml, hown, hG⟩ (mo_letterOut l D cI cL cZ cC f h0 tn rm ln lx at_ bd fs dp on os bn df th tp mo_ ev ss so lk rs pt ot cl lts 116 _ (by first | assumption | omega | exact Or.inl rfl) hnt) (cwV 1 hG (gd_V k_1616 k_1618 k_100 k_116 k_1619) rfl rfl rfl (by decide +kernel) ⟨Nat.le_of_ble_eq_true rfl, Nat.le_of_ble_eq_true rfl⟩) (tw_V (q0 := 0) hP hD hK hE hst hS rfl rfl [0, 1] rfl (by decide)) rfl rfl hl.1 rfl (lv_room (Nat.le_of_ble_eq_true rfl)) d_MO_say_36 ⟨Nat.le_of_ble_eq_true rfl, Nat.le_of_ble_eq_true rfl⟩) hP hD hS hA [0, 1] [] rfl rfl (by decide) (by decide) (fun v u H locs hok hP hD hS => ?_) (fun x C u H locs hbad hxx hP hD hS => ?_)
      · skip
        obtain ⟨ot_11, lts_12⟩ := u
        obtain ⟨rfl, hp_14⟩ := hok
        have hot_15 : (ot_11 = ot + 1) := hp_14
        have hP : va_P D classes [(h0, .inr (8, mS f tn rm ln lx at_ bd fs dp on os bn df th tp mo_ ev ss so lk rs pt ot_11 cl)), ((f 29), .inl (cI, 200, .inl lts_12))] H := hP
        have hD : va_D A [(h0, .inr (8, mS f tn rm ln lx at_ bd fs dp on os bn df th tp mo_ ev ss so lk rs pt ot_11 cl)), ((f 29), .inl (cI, 200, .inl lts_12))] := hD
        refine W.eq (g2 := F0 m 39 ls []) rfl ?_
        exact em_vret hx hb hr hlocks hP hD hK hS (ot_11, lts_12) [0, 1] (by decide) rfl ⟨rfl, (show ot_11 ≤ ot + 11 from (by first | assumption | omega | exact Or.inl rfl))⟩ d_MO_say_39
      · skip
        exact hbad.elim
  · skip
    refine lv_aload_n hx hb d_MO_say_7 rfl (lv_at hl 0 rfl) ?_
    refine lv_lload_n hx hb d_MO_say_8 rfl (lv_at hl 1 rfl) ?_
    refine W.callR (W.runS (As := [.long t]) (rest := [.ref h0]) ⟨hx, hb, hml, hown, hG⟩ (mo_valueOf l D cI cL cZ cC t ) (cwS 1 hG (gd_S k_1522 k_1523 k_116 k_1524) rfl rfl rfl (by decide +kernel) ⟨Nat.le_of_ble_eq_true rfl, Nat.le_of_ble_eq_true rfl⟩) (wq_S hP hK [] rfl) rfl rfl hl.1 rfl (lv_room (Nat.le_of_ble_eq_true rfl)) d_MO_say_9 ⟨Nat.le_of_ble_eq_true rfl, Nat.le_of_ble_eq_true rfl⟩) ?_
    refine W.eq (g2 := F0 m 12 ls [.int t.toInt32, .ref h0]) rfl ?_
    refine em_call (wr := []) (em_runV (As := [.int t.toInt32]) (rest := []) ⟨hx, hb, hml, hown, hG⟩ (mo_digits l D cI cL cZ cC f h0 tn rm ln lx at_ bd fs dp on os bn df th tp mo_ ev ss so lk rs pt ot cl lts t.toInt32 _ (by first | assumption | omega | exact Or.inl rfl) hnt) (cwV 1 hG (gd_V k_1612 k_1614 k_99 k_116 k_1615) rfl rfl rfl (by decide +kernel) ⟨Nat.le_of_ble_eq_true rfl, Nat.le_of_ble_eq_true rfl⟩) (tw_V (q0 := 0) hP hD hK hE hst hS rfl rfl [0, 1] rfl (by decide)) rfl rfl hl.1 rfl (lv_room (Nat.le_of_ble_eq_true rfl)) d_MO_say_12 ⟨Nat.le_of_ble_eq_true rfl, Nat.le_of_ble_eq_true rfl⟩) hP hD hS hA [0, 1] [] rfl rfl (by decide) (by decide) (fun v u H locs hok hP hD hS => ?_) (fun x C u H locs hbad hxx hP hD hS => ?_)
    · skip
      obtain ⟨ot_17, lts_18⟩ := u
      obtain ⟨rfl, hp_20⟩ := hok
      have hot_21 : (ot_17 ≤ ot + 11) := hp_20
      have hP : va_P D classes [(h0, .inr (8, mS f tn rm ln lx at_ bd fs dp on os bn df th tp mo_ ev ss so lk rs pt ot_17 cl)), ((f 29), .inl (cI, 200, .inl lts_18))] H := hP
      have hD : va_D A [(h0, .inr (8, mS f tn rm ln lx at_ bd fs dp on os bn df th tp mo_ ev ss so lk rs pt ot_17 cl)), ((f 29), .inl (cI, 200, .inl lts_18))] := hD
      refine W.eq (g2 := F0 m 15 ls []) rfl ?_
      refine lv_goto (tgt := 39) hx hb d_MO_say_15 (by decide) ?_
      exact em_vret hx hb hr hlocks hP hD hK hS (ot_17, lts_18) [0, 1] (by decide) rfl ⟨rfl, (show ot_17 ≤ ot + 11 from (by first | assumption | omega | exact Or.inl rfl))⟩ d_MO_say_39
    · skip
      exact hbad.elim
set_option maxHeartbeats 8000000 in
set_option maxRecDepth 100000 in
theorem mo_prt00 (l : Launch) (D : va_G) (cI cL cZ cC : ClassId) (f : Nat → Nat) (h0 : Nat) (tn : Int32) (rm : Nat) (ln : Nat) (lx : Nat) (at_ : Nat) (bd : Int32) (fs : Nat) (dp : Nat) (on : Nat) (os : Nat) (bn : Nat) (df : Nat) (th : Int32) (tp : Nat) (mo_ : Int32) (ev : Nat) (ss : Int32) (so : Int32) (lk : Int64) (rs : Int64) (pt : Int32) (ot : Nat) (cl : Int32) (lts : Nat → Int32) (Gc : Nat → Prop) (v : Int64) (x : Int64) (y : Int64) (sz : Nat) (hv : okh df Gc v) (hrs : pt = 2 → okh df Gc rs) (hot : ot + 12 < 2147483647) (hnt : l.stackTraces = false) : em_Met l y_MO_printed (wz y_MO_printed b_MO_printed 10 none) ({ frames := 3, cells := 0, slots := 0, locals := 70 }) (va_Pc [.ref h0, .long v, .int 0, .long x, .long y, .int 0] (tw_pre D (tys4 cI cL cZ cC) [(h0, .inr (8, mS f tn rm ln lx at_ bd fs dp on os bn df th tp mo_ ev ss so lk rs pt ot cl)), ((f 29), .inl (cI, 200, .inl lts))] sz)) D (tys4 cI cL cZ cC) (va_A [(h0, .inr (8, mS f tn rm ln lx at_ bd fs dp on os bn df th tp mo_ ev ss so lk rs pt ot cl)), ((f 29), .inl (cI, 200, .inl lts))] sz) (fun (u : Nat × Int64 × Int32 × Int32 × Int64 × Int32 × Nat × (Nat → Int32)) => [(h0, .inr (8, mS f tn rm ln lx at_ bd fs dp on os bn df th u.1 mo_ ev u.2.2.2.1 u.2.2.1 u.2.1 u.2.2.2.2.1 u.2.2.2.2.2.1 u.2.2.2.2.2.2.1 cl)), ((f 29), .inl (cI, 200, .inl u.2.2.2.2.2.2.2))]) (fun v (u : Nat × Int64 × Int32 × Int32 × Int64 × Int32 × Nat × (Nat → Int32)) => v = none ∧ ((u.1 = 0) ∧ (okh df Gc u.2.1) ∧ (u.2.2.2.2.2.1 = 2 → okh df Gc u.2.2.2.2.1) ∧ (u.2.2.2.2.2.2.1 ≤ ot + 12) ∧ ((u.2.2.2.1 = ss + 1 ∨ (u.2.2.2.1 = ss ∧ ¬ u.2.2.1 = 0 ∧ u.2.2.2.2.2.2.1 = ot) ∨ (u.2.2.2.1 = ss ∧ u.2.2.1 = so ∧ u.2.2.2.2.2.1 = 2 ∧ ¬ pt = 2 ∧ u.2.2.2.2.2.2.1 = ot))))) (fun C (u : Nat × Int64 × Int32 × Int32 × Int64 × Int32 × Nat × (Nat → Int32)) => False) 0 0 := by
  refine em_Met.ofW (cc := b_MO_printed) (maxL := 10) (ret := none) (by decide) rfl ?_
  intro p e s m args below meth c s₁ B hml hv hno
  obtain ⟨rfl, ⟨hsz, hP, hK, hD0⟩, hE⟩ := hv
  have hx := B.exec
  have hb := B.bytes
  have hr := B.returns
  have hts := atoms_spec (ws := wz y_MO_printed b_MO_printed 10 none) B.pre
  have hG := wz_G hts
  have hown : s.vm.findClass rn_MO = some m.cls := findClass_of_methodNamed B.named
  have hlocks := B.notSynchronized
  subst hsz
  have hD := hD0.self (sz := s.heap.size)
  have hst := tw_st hP
  generalize hAe : va_A [(h0, .inr (8, mS f tn rm ln lx at_ bd fs dp on os bn df th tp mo_ ev ss so lk rs pt ot cl)), ((f 29), .inl (cI, 200, .inl lts))] s.heap.size = A at hD hst ⊢
  have hA : ∀ q : Nat, s.heap.size ≤ q → A q := fun q h => by rw [← hAe]; exact Or.inr h
  have hS : va_S A s.heap s.heap [] := va_S.rf
  have hl := lv_entry ([.ref h0, .long v, .int 0, .long x, .long y, .int 0]) (n := 10) (Nat.le_of_ble_eq_true rfl)
  rw [lg_entry_eq]
  generalize (lg_sl ([.ref h0, .long v, .int 0, .long x, .long y, .int 0]) ++ List.replicate (10 - (lg_sl ([.ref h0, .long v, .int 0, .long x, .long y, .int 0])).length) Slot.unset).toArray = ls at hl ⊢
  have hl : lv_has ls 10 [(0, .ref h0), (1, .long v), (3, .int 0), (4, .long x), (6, .long y), (8, .int 0)] := hl
  refine lv_aload_n hx hb d_MO_printed_0 rfl (lv_at hl 0 rfl) ?_
  refine lv_iconst (v := 0) hx hb d_MO_printed_1 (by decide) ?_
  refine va_put (D := D) (ci := 8) (v := .int 0) (ty := .int) (C := rn_MO) (T := fl_MO) (N := 55) hx hb hG in_MO tt_MO tk_MO nn_MO hown hK hP hD hS 0 rfl rfl 38 (by decide) (hG _ k_1229) (fun _ h9 => h9) rfl (by decide +kernel) rfl rfl (Nat.le_of_ble_eq_true rfl) d_MO_printed_2 (fun H locs hP hD hS => ?_)
  have hP : va_P D classes [(h0, .inr (8, mS f tn rm ln lx at_ bd fs dp on os bn df th 0 mo_ ev ss so lk rs pt ot cl)), ((f 29), .inl (cI, 200, .inl lts))] H := hP
  have hD : va_D A [(h0, .inr (8, mS f tn rm ln lx at_ bd fs dp on os bn df th 0 mo_ ev ss so lk rs pt ot cl)), ((f 29), .inl (cI, 200, .inl lts))] := hD
  refine lv_aload_n hx hb d_MO_printed_5 rfl (lv_at hl 0 rfl) ?_
  refine lv_lload_n hx hb d_MO_printed_6 rfl (lv_at hl 1 rfl) ?_
  refine va_put (D := D) (ci := 8) (v := .long v) (ty := .long) (C := rn_MO) (T := fl_MO) (N := 55) hx hb hG in_MO tt_MO tk_MO nn_MO hown hK hP hD hS 0 rfl rfl 47 (by decide) (hG _ k_1238) (fun _ h9 => h9) rfl (by decide +kernel) rfl rfl (Nat.le_of_ble_eq_true rfl) d_MO_printed_7 (fun H locs hP hD hS => ?_)
  have hP : va_P D classes [(h0, .inr (8, mS f tn rm ln lx at_ bd fs dp on os bn df th 0 mo_ ev ss so v rs pt ot cl)), ((f 29), .inl (cI, 200, .inl lts))] H := hP
  have hD : va_D A [(h0, .inr (8, mS f tn rm ln lx at_ bd fs dp on os bn df th 0 mo_ ev ss so v rs pt ot cl)), ((f 29), .inl (cI, 200, .inl lts))] := hD
  refine lv_iload_n hx hb d_MO_printed_10 rfl (lv_at hl 2 rfl) ?_
  refine lv_if_ne (tgt := 37) hx hb d_MO_printed_11 (by decide) (fun hbr => absurd (by decide) hbr) (fun hbr => ?_)
  refine lv_iload hx hb d_MO_printed_14 (lv_at hl 5 rfl) ?_
  refine lv_if_ne (tgt := 37) hx hb d_MO_printed_16 (by decide) (fun hbr => absurd (by decide) hbr) (fun hbr => ?_)
  refine lv_lload_n hx hb d_MO_printed_19 rfl (lv_at hl 1 rfl) ?_
  refine W.callR (W.runS (As := [.long v]) (rest := []) ⟨hx, hb, hml, hown, hG⟩ (mo_kindOf l D cI cL cZ cC v ) (cwS 1 hG (gd_S k_1519 k_1520 k_116 k_1521) rfl rfl rfl (by decide +kernel) ⟨Nat.le_of_ble_eq_true rfl, Nat.le_of_ble_eq_true rfl⟩) (wq_S hP hK [] rfl) rfl rfl hl.1 rfl (lv_room (Nat.le_of_ble_eq_true rfl)) d_MO_printed_20 ⟨Nat.le_of_ble_eq_true rfl, Nat.le_of_ble_eq_true rfl⟩) ?_
  refine W.eq (g2 := F0 m 23 ls [.int (wkind v)]) rfl ?_
  refine lv_if_eq (tgt := 33) hx hb d_MO_printed_23 (by decide) (fun hb_1 => ?_) (fun hb_1 => ?_)
  · skip
    refine lv_iconst (v := 1) hx hb d_MO_printed_33 (by decide) ?_
    refine lv_goto (tgt := 38) hx hb d_MO_printed_34 (by decide) ?_
    refine lv_istore (lv' := [(9, .int 1), (0, .ref h0), (1, .long v), (3, .int 0), (4, .long x), (6, .long y), (8, .int 0)]) hx hb d_MO_printed_38 hl (Nat.le_of_ble_eq_true rfl) rfl (fun ls hl => ?_)
    refine lv_aload_n hx hb d_MO_printed_40 rfl (lv_at hl 1 rfl) ?_
    refine va_get (D := D) (ci := 8) (v := .int pt) (C := rn_MO) (T := fl_MO) (N := 55) hx hb hG in_MO hown hK hP 0 rfl rfl 49 (by decide) (hG _ k_1240) (fun _ h9 => h9) rfl d_MO_printed_41 ?_
    refine lv_iconst (v := 2) hx hb d_MO_printed_44 (by decide) ?_
    refine lv_icmp_ne (tgt := 96) hx hb d_MO_printed_45 (by decide) (fun hb_2 => ?_) (fun hb_2 => ?_)
    · skip
      refine lv_iload_n hx hb d_MO_printed_96 rfl (lv_at hl 3 rfl) ?_
      refine lv_if_eq (tgt := 120) hx hb d_MO_printed_97 (by decide) (fun hbr => ?_) (fun hbr => absurd (by decide) hbr)
      refine lv_iload hx hb d_MO_printed_120 (lv_at hl 0 rfl) ?_
      refine lv_if_eq (tgt := 132) hx hb d_MO_printed_122 (by decide) (fun hbr => absurd hbr (by decide)) (fun hbr => ?_)
      refine lv_aload_n hx hb d_MO_printed_125 rfl (lv_at hl 1 rfl) ?_
      refine va_get (D := D) (ci := 8) (v := .int pt) (C := rn_MO) (T := fl_MO) (N := 55) hx hb hG in_MO hown hK hP 0 rfl rfl 49 (by decide) (hG _ k_1240) (fun _ h9 => h9) rfl d_MO_printed_126 ?_
      refine lv_if_eq (tgt := 147) hx hb d_MO_printed_129 (by decide) (fun hb_3 => ?_) (fun hb_3 => ?_)
      · skip
        refine lv_iload hx hb d_MO_printed_147 (lv_at hl 0 rfl) ?_
        refine lv_if_eq (tgt := 157) hx hb d_MO_printed_149 (by decide) (fun hbr => absurd hbr (by decide)) (fun hbr => ?_)
        refine lv_aload_n hx hb d_MO_printed_152 rfl (lv_at hl 1 rfl) ?_
        refine lv_lload_n hx hb d_MO_printed_153 rfl (lv_at hl 2 rfl) ?_
        refine em_call (wr := []) (em_runV (As := [.long v]) (rest := []) ⟨hx, hb, hml, hown, hG⟩ (mo_say l D cI cL cZ cC f h0 tn rm ln lx at_ bd fs dp on os bn df th 0 mo_ ev ss so v rs pt ot cl lts v _ (by first | assumption | omega | exact Or.inl rfl) hnt) (cwV 1 hG (gd_V k_1608 k_1610 k_98 k_116 k_1611) rfl rfl rfl (by decide +kernel) ⟨Nat.le_of_ble_eq_true rfl, Nat.le_of_ble_eq_true rfl⟩) (tw_V (q0 := 0) hP hD hK hE hst hS rfl rfl [0, 1] rfl (by decide)) rfl rfl hl.1 rfl (lv_room (Nat.le_of_ble_eq_true rfl)) d_MO_printed_154 ⟨Nat.le_of_ble_eq_true rfl, Nat.le_of_ble_eq_true rfl⟩) hP hD hS hA [0, 1] [] rfl rfl (by decide) (by decide) (fun v u H locs hok hP hD hS => ?_) (fun x C u H locs hbad hxx hP hD hS => ?_)
        · skip
          obtain ⟨ot_4, lts_5⟩ := u
          obtain ⟨rfl, hp_7⟩ := hok
          have hot_8 : (ot_4 ≤ ot + 11) := hp_7
          have hP : va_P D classes [(h0, .inr (8, mS f tn rm ln lx at_ bd fs dp on os bn df th 0 mo_ ev ss so v rs pt ot_4 cl)), ((f 29), .inl (cI, 200, .inl lts_5))] H := hP
          have hD : va_D A [(h0, .inr (8, mS f tn rm ln lx at_ bd fs dp on os bn df th 0 mo_ ev ss so v rs pt ot_4 cl)), ((f 29), .inl (cI, 200, .inl lts_5))] := hD
          refine W.eq (g2 := F0 m 157 ls []) rfl ?_
          refine lv_aload_n hx hb d_MO_printed_157 rfl (lv_at hl 1 rfl) ?_
          refine lv_dup hx hb d_MO_printed_158 rfl ?_
          refine va_get (D := D) (ci := 8) (v := .int ss) (C := rn_MO) (T := fl_MO) (N := 55) hx hb hG in_MO hown hK hP 0 rfl rfl 41 (by decide) (hG _ k_1232) (fun _ h9 => h9) rfl d_MO_printed_159 ?_
          refine lv_iconst (v := 1) hx hb d_MO_printed_162 (by decide) ?_
          refine lv_iadd hx hb d_MO_printed_163 ?_
          refine va_put (D := D) (ci := 8) (v := .int (ss + 1)) (ty := .int) (C := rn_MO) (T := fl_MO) (N := 55) hx hb hG in_MO tt_MO tk_MO nn_MO hown hK hP hD hS 0 rfl rfl 41 (by decide) (hG _ k_1232) (fun _ h9 => h9) rfl (by decide +kernel) rfl rfl (Nat.le_of_ble_eq_true rfl) d_MO_printed_164 (fun H locs hP hD hS => ?_)
          have hP : va_P D classes [(h0, .inr (8, mS f tn rm ln lx at_ bd fs dp on os bn df th 0 mo_ ev (ss + 1) so v rs pt ot_4 cl)), ((f 29), .inl (cI, 200, .inl lts_5))] H := hP
          have hD : va_D A [(h0, .inr (8, mS f tn rm ln lx at_ bd fs dp on os bn df th 0 mo_ ev (ss + 1) so v rs pt ot_4 cl)), ((f 29), .inl (cI, 200, .inl lts_5))] := hD
          refine lv_aload_n hx hb d_MO_printed_167 rfl (lv_at hl 1 rfl) ?_
          refine lv_iconst (v := 1) hx hb d_MO_printed_168 (by decide) ?_
          refine va_put (D := D) (ci := 8) (v := .int 1) (ty := .int) (C := rn_MO) (T := fl_MO) (N := 55) hx hb hG in_MO tt_MO tk_MO nn_MO hown hK hP hD hS 0 rfl rfl 42 (by decide) (hG _ k_1233) (fun _ h9 => h9) rfl (by decide +kernel) rfl rfl (Nat.le_of_ble_eq_true rfl) d_MO_printed_169 (fun H locs hP hD hS => ?_)
          have hP : va_P D classes [(h0, .inr (8, mS f tn rm ln lx at_ bd fs dp on os bn df th 0 mo_ ev (ss + 1) 1 v rs pt ot_4 cl)), ((f 29), .inl (cI, 200, .inl lts_5))] H := hP
          have hD : va_D A [(h0, .inr (8, mS f tn rm ln lx at_ bd fs dp on os bn df th 0 mo_ ev (ss + 1) 1 v rs pt ot_4 cl)), ((f 29), .inl (cI, 200, .inl lts_5))] := hD
          refine lv_goto (tgt := 180) hx hb d_MO_printed_172 (by decide) ?_
          exact em_vret hx hb hr hlocks hP hD hK hS (0, v, 1, ss + 1, rs, pt, ot_4, lts_5) [0, 1] (by decide) rfl ⟨rfl, ⟨(show 0 = 0 from rfl), (show okh df Gc v from hv), (show pt = 2 → okh df Gc rs from hrs), (show ot_4 ≤ ot + 12 from (by first | assumption | omega | exact Or.inl rfl)), (show ((ss + 1) = ss + 1 ∨ ((ss + 1) = ss ∧ ¬ 1 = 0 ∧ ot_4 = ot) ∨ ((ss + 1) = ss ∧ 1 = so ∧ pt = 2 ∧ ¬ pt = 2 ∧ ot_4 = ot)) from (Or.inl rfl))⟩⟩ d_MO_printed_180
        · skip
          exact hbad.elim
      · skip
        refine lv_lload_n hx hb d_MO_printed_132 rfl (lv_at hl 2 rfl) ?_
        refine lv_bipush (v := 17) hx hb d_MO_printed_133 (by decide) ?_
        refine W.callRL (W.runS (As := [.int 17]) (rest := [.long v]) ⟨hx, hb, hml, hown, hG⟩ (mo_constant l D cI cL cZ cC 17 ) (cwS 1 hG (gd_S k_1461 k_1462 k_116 k_1463) rfl rfl rfl (by decide +kernel) ⟨Nat.le_of_ble_eq_true rfl, Nat.le_of_ble_eq_true rfl⟩) (wq_S hP hK [] rfl) rfl rfl hl.1 rfl (lv_room (Nat.le_of_ble_eq_true rfl)) d_MO_printed_135 ⟨Nat.le_of_ble_eq_true rfl, Nat.le_of_ble_eq_true rfl⟩) ?_
        refine W.eq (g2 := F0 m 138 ls [.long (wof 2 17), .long v]) rfl ?_
        refine W.lcmp hx hb d_MO_printed_138 ?_
        refine lv_if_ne (tgt := 175) hx hb d_MO_printed_139 (by decide) (fun hb_10 => ?_) (fun hb_10 => ?_)
        · skip
          have hq_11 : ¬ _ := fun h => hb_10 ((lg_cmp_eq _ _).mpr h)
          refine lv_aload_n hx hb d_MO_printed_175 rfl (lv_at hl 1 rfl) ?_
          refine lv_iconst (v := 2) hx hb d_MO_printed_176 (by decide) ?_
          refine va_put (D := D) (ci := 8) (v := .int 2) (ty := .int) (C := rn_MO) (T := fl_MO) (N := 55) hx hb hG in_MO tt_MO tk_MO nn_MO hown hK hP hD hS 0 rfl rfl 42 (by decide) (hG _ k_1233) (fun _ h9 => h9) rfl (by decide +kernel) rfl rfl (Nat.le_of_ble_eq_true rfl) d_MO_printed_177 (fun H locs hP hD hS => ?_)
          have hP : va_P D classes [(h0, .inr (8, mS f tn rm ln lx at_ bd fs dp on os bn df th 0 mo_ ev ss 2 v rs pt ot cl)), ((f 29), .inl (cI, 200, .inl lts))] H := hP
          have hD : va_D A [(h0, .inr (8, mS f tn rm ln lx at_ bd fs dp on os bn df th 0 mo_ ev ss 2 v rs pt ot cl)), ((f 29), .inl (cI, 200, .inl lts))] := hD
          exact em_vret hx hb hr hlocks hP hD hK hS (0, v, 2, ss, rs, pt, ot, lts) [0, 1] (by decide) rfl ⟨rfl, ⟨(show 0 = 0 from rfl), (show okh df Gc v from hv), (show pt = 2 → okh df Gc rs from hrs), (show ot ≤ ot + 12 from (by first | assumption | omega | exact Or.inl rfl)), (show (ss = ss + 1 ∨ (ss = ss ∧ ¬ 2 = 0 ∧ ot = ot) ∨ (ss = ss ∧ 2 = so ∧ pt = 2 ∧ ¬ pt = 2 ∧ ot = ot)) from (Or.inr (Or.inl ⟨rfl, by decide, rfl⟩)))⟩⟩ d_MO_printed_180
        · skip
          have hq_12 := (lg_cmp_eq _ _).mp hb_10
          refine lv_iload hx hb d_MO_printed_142 (lv_at hl 6 rfl) ?_
          refine lv_if_ne (tgt := 175) hx hb d_MO_printed_144 (by decide) (fun hbr => absurd (by decide) hbr) (fun hbr => ?_)
          refine lv_iload hx hb d_MO_printed_147 (lv_at hl 0 rfl) ?_
          refine lv_if_eq (tgt := 157) hx hb d_MO_printed_149 (by decide) (fun hbr => absurd hbr (by decide)) (fun hbr => ?_)
          refine lv_aload_n hx hb d_MO_printed_152 rfl (lv_at hl 1 rfl) ?_
          refine lv_lload_n hx hb d_MO_printed_153 rfl (lv_at hl 2 rfl) ?_
          refine em_call (wr := []) (em_runV (As := [.long v]) (rest := []) ⟨hx, hb, hml, hown, hG⟩ (mo_say l D cI cL cZ cC f h0 tn rm ln lx at_ bd fs dp on os bn df th 0 mo_ ev ss so v rs pt ot cl lts v _ (by first | assumption | omega | exact Or.inl rfl) hnt) (cwV 1 hG (gd_V k_1608 k_1610 k_98 k_116 k_1611) rfl rfl rfl (by decide +kernel) ⟨Nat.le_of_ble_eq_true rfl, Nat.le_of_ble_eq_true rfl⟩) (tw_V (q0 := 0) hP hD hK hE hst hS rfl rfl [0, 1] rfl (by decide)) rfl rfl hl.1 rfl (lv_room (Nat.le_of_ble_eq_true rfl)) d_MO_printed_154 ⟨Nat.le_of_ble_eq_true rfl, Nat.le_of_ble_eq_true rfl⟩) hP hD hS hA [0, 1] [] rfl rfl (by decide) (by decide) (fun v u H locs hok hP hD hS => ?_) (fun x C u H locs hbad hxx hP hD hS => ?_)
          · skip
            obtain ⟨ot_13, lts_14⟩ := u
            obtain ⟨rfl, hp_16⟩ := hok
            have hot_17 : (ot_13 ≤ ot + 11) := hp_16
            have hP : va_P D classes [(h0, .inr (8, mS f tn rm ln lx at_ bd fs dp on os bn df th 0 mo_ ev ss so v rs pt ot_13 cl)), ((f 29), .inl (cI, 200, .inl lts_14))] H := hP
            have hD : va_D A [(h0, .inr (8, mS f tn rm ln lx at_ bd fs dp on os bn df th 0 mo_ ev ss so v rs pt ot_13 cl)), ((f 29), .inl (cI, 200, .inl lts_14))] := hD
            refine W.eq (g2 := F0 m 157 ls []) rfl ?_
            refine lv_aload_n hx hb d_MO_printed_157 rfl (lv_at hl 1 rfl) ?_
            refine lv_dup hx hb d_MO_printed_158 rfl ?_
            refine va_get (D := D) (ci := 8) (v := .int ss) (C := rn_MO) (T := fl_MO) (N := 55) hx hb hG in_MO hown hK hP 0 rfl rfl 41 (by decide) (hG _ k_1232) (fun _ h9 => h9) rfl d_MO_printed_159 ?_
            refine lv_iconst (v := 1) hx hb d_MO_printed_162 (by decide) ?_
            refine lv_iadd hx hb d_MO_printed_163 ?_
            refine va_put (D := D) (ci := 8) (v := .int (ss + 1)) (ty := .int) (C := rn_MO) (T := fl_MO) (N := 55) hx hb hG in_MO tt_MO tk_MO nn_MO hown hK hP hD hS 0 rfl rfl 41 (by decide) (hG _ k_1232) (fun _ h9 => h9) rfl (by decide +kernel) rfl rfl (Nat.le_of_ble_eq_true rfl) d_MO_printed_164 (fun H locs hP hD hS => ?_)
            have hP : va_P D classes [(h0, .inr (8, mS f tn rm ln lx at_ bd fs dp on os bn df th 0 mo_ ev (ss + 1) so v rs pt ot_13 cl)), ((f 29), .inl (cI, 200, .inl lts_14))] H := hP
            have hD : va_D A [(h0, .inr (8, mS f tn rm ln lx at_ bd fs dp on os bn df th 0 mo_ ev (ss + 1) so v rs pt ot_13 cl)), ((f 29), .inl (cI, 200, .inl lts_14))] := hD
            refine lv_aload_n hx hb d_MO_printed_167 rfl (lv_at hl 1 rfl) ?_
            refine lv_iconst (v := 1) hx hb d_MO_printed_168 (by decide) ?_
            refine va_put (D := D) (ci := 8) (v := .int 1) (ty := .int) (C := rn_MO) (T := fl_MO) (N := 55) hx hb hG in_MO tt_MO tk_MO nn_MO hown hK hP hD hS 0 rfl rfl 42 (by decide) (hG _ k_1233) (fun _ h9 => h9) rfl (by decide +kernel) rfl rfl (Nat.le_of_ble_eq_true rfl) d_MO_printed_169 (fun H locs hP hD hS => ?_)
            have hP : va_P D classes [(h0, .inr (8, mS f tn rm ln lx at_ bd fs dp on os bn df th 0 mo_ ev (ss + 1) 1 v rs pt ot_13 cl)), ((f 29), .inl (cI, 200, .inl lts_14))] H := hP
            have hD : va_D A [(h0, .inr (8, mS f tn rm ln lx at_ bd fs dp on os bn df th 0 mo_ ev (ss + 1) 1 v rs pt ot_13 cl)), ((f 29), .inl (cI, 200, .inl lts_14))] := hD
            refine lv_goto (tgt := 180) hx hb d_MO_printed_172 (by decide) ?_
            exact em_vret hx hb hr hlocks hP hD hK hS (0, v, 1, ss + 1, rs, pt, ot_13, lts_14) [0, 1] (by decide) rfl ⟨rfl, ⟨(show 0 = 0 from rfl), (show okh df Gc v from hv), (show pt = 2 → okh df Gc rs from hrs), (show ot_13 ≤ ot + 12 from (by first | assumption | omega | exact Or.inl rfl)), (show ((ss + 1) = ss + 1 ∨ ((ss + 1) = ss ∧ ¬ 1 = 0 ∧ ot_13 = ot) ∨ ((ss + 1) = ss ∧ 1 = so ∧ pt = 2 ∧ ¬ pt = 2 ∧ ot_13 = ot)) from (Or.inl rfl))⟩⟩ d_MO_printed_180
          · skip
            exact hbad.elim
    · skip
      refine lv_iload hx hb d_MO_printed_48 (lv_at hl 0 rfl) ?_
      refine lv_if_ne (tgt := 59) hx hb d_MO_printed_50 (by decide) (fun hbr => ?_) (fun hbr => absurd hbr (by decide))
      refine lv_aload_n hx hb d_MO_printed_59 rfl (lv_at hl 1 rfl) ?_
      refine lv_lload_n hx hb d_MO_printed_60 rfl (lv_at hl 2 rfl) ?_
      refine em_call (wr := []) (em_runV (As := [.long v]) (rest := []) ⟨hx, hb, hml, hown, hG⟩ (mo_say l D cI cL cZ cC f h0 tn rm ln lx at_ bd fs dp on os bn df th 0 mo_ ev ss so v rs pt ot cl lts v _ (by first | assumption | omega | exact Or.inl rfl) hnt) (cwV 1 hG (gd_V k_1608 k_1610 k_98 k_116 k_1611) rfl rfl rfl (by decide +kernel) ⟨Nat.le_of_ble_eq_true rfl, Nat.le_of_ble_eq_true rfl⟩) (tw_V (q0 := 0) hP hD hK hE hst hS rfl rfl [0, 1] rfl (by decide)) rfl rfl hl.1 rfl (lv_room (Nat.le_of_ble_eq_true rfl)) d_MO_printed_61 ⟨Nat.le_of_ble_eq_true rfl, Nat.le_of_ble_eq_true rfl⟩) hP hD hS hA [0, 1] [] rfl rfl (by decide) (by decide) (fun v u H locs hok hP hD hS => ?_) (fun x C u H locs hbad hxx hP hD hS => ?_)
      · skip
        obtain ⟨ot_19, lts_20⟩ := u
        obtain ⟨rfl, hp_22⟩ := hok
        have hot_23 : (ot_19 ≤ ot + 11) := hp_22
        have hP : va_P D classes [(h0, .inr (8, mS f tn rm ln lx at_ bd fs dp on os bn df th 0 mo_ ev ss so v rs pt ot_19 cl)), ((f 29), .inl (cI, 200, .inl lts_20))] H := hP
        have hD : va_D A [(h0, .inr (8, mS f tn rm ln lx at_ bd fs dp on os bn df th 0 mo_ ev ss so v rs pt ot_19 cl)), ((f 29), .inl (cI, 200, .inl lts_20))] := hD
        refine W.eq (g2 := F0 m 64 ls []) rfl ?_
        refine lv_aload_n hx hb d_MO_printed_64 rfl (lv_at hl 1 rfl) ?_
        refine lv_bipush (v := 32) hx hb d_MO_printed_65 (by decide) ?_
        refine em_call (wr := []) (em_runV (As := [.int 32]) (rest := []) ⟨hx, hb, hml, hown, hG⟩ (mo_letterOut l D cI cL cZ cC f h0 tn rm ln lx at_ bd fs dp on os bn df th 0 mo_ ev ss so v rs pt ot_19 cl lts_20 32 _ (by first | assumption | omega | exact Or.inl rfl) hnt) (cwV 1 hG (gd_V k_1616 k_1618 k_100 k_116 k_1619) rfl rfl rfl (by decide +kernel) ⟨Nat.le_of_ble_eq_true rfl, Nat.le_of_ble_eq_true rfl⟩) (tw_V (q0 := 0) hP hD hK hE hst hS rfl rfl [0, 1] rfl (by decide)) rfl rfl hl.1 rfl (lv_room (Nat.le_of_ble_eq_true rfl)) d_MO_printed_67 ⟨Nat.le_of_ble_eq_true rfl, Nat.le_of_ble_eq_true rfl⟩) hP hD hS hA [0, 1] [] rfl rfl (by decide) (by decide) (fun v u H locs hok hP hD hS => ?_) (fun x C u H locs hbad hxx hP hD hS => ?_)
        · skip
          obtain ⟨ot_25, lts_26⟩ := u
          obtain ⟨rfl, hp_28⟩ := hok
          have hot_29 : (ot_25 = ot_19 + 1) := hp_28
          have hP : va_P D classes [(h0, .inr (8, mS f tn rm ln lx at_ bd fs dp on os bn df th 0 mo_ ev ss so v rs pt ot_25 cl)), ((f 29), .inl (cI, 200, .inl lts_26))] H := hP
          have hD : va_D A [(h0, .inr (8, mS f tn rm ln lx at_ bd fs dp on os bn df th 0 mo_ ev ss so v rs pt ot_25 cl)), ((f 29), .inl (cI, 200, .inl lts_26))] := hD
          refine W.eq (g2 := F0 m 70 ls []) rfl ?_
          refine lv_aload_n hx hb d_MO_printed_70 rfl (lv_at hl 1 rfl) ?_
          refine lv_dup hx hb d_MO_printed_71 rfl ?_
          refine va_get (D := D) (ci := 8) (v := .int ss) (C := rn_MO) (T := fl_MO) (N := 55) hx hb hG in_MO hown hK hP 0 rfl rfl 41 (by decide) (hG _ k_1232) (fun _ h9 => h9) rfl d_MO_printed_72 ?_
          refine lv_iconst (v := 1) hx hb d_MO_printed_75 (by decide) ?_
          refine lv_iadd hx hb d_MO_printed_76 ?_
          refine va_put (D := D) (ci := 8) (v := .int (ss + 1)) (ty := .int) (C := rn_MO) (T := fl_MO) (N := 55) hx hb hG in_MO tt_MO tk_MO nn_MO hown hK hP hD hS 0 rfl rfl 41 (by decide) (hG _ k_1232) (fun _ h9 => h9) rfl (by decide +kernel) rfl rfl (Nat.le_of_ble_eq_true rfl) d_MO_printed_77 (fun H locs hP hD hS => ?_)
          have hP : va_P D classes [(h0, .inr (8, mS f tn rm ln lx at_ bd fs dp on os bn df th 0 mo_ ev (ss + 1) so v rs pt ot_25 cl)), ((f 29), .inl (cI, 200, .inl lts_26))] H := hP
          have hD : va_D A [(h0, .inr (8, mS f tn rm ln lx at_ bd fs dp on os bn df th 0 mo_ ev (ss + 1) so v rs pt ot_25 cl)), ((f 29), .inl (cI, 200, .inl lts_26))] := hD
          refine lv_aload_n hx hb d_MO_printed_80 rfl (lv_at hl 1 rfl) ?_
          refine lv_aload_n hx hb d_MO_printed_81 rfl (lv_at hl 1 rfl) ?_
          refine va_get (D := D) (ci := 8) (v := .long rs) (C := rn_MO) (T := fl_MO) (N := 55) hx hb hG in_MO hown hK hP 0 rfl rfl 48 (by decide) (hG _ k_1239) (fun _ h9 => h9) rfl d_MO_printed_82 ?_
          refine va_put (D := D) (ci := 8) (v := .long rs) (ty := .long) (C := rn_MO) (T := fl_MO) (N := 55) hx hb hG in_MO tt_MO tk_MO nn_MO hown hK hP hD hS 0 rfl rfl 47 (by decide) (hG _ k_1238) (fun _ h9 => h9) rfl (by decide +kernel) rfl rfl (Nat.le_of_ble_eq_true rfl) d_MO_printed_85 (fun H locs hP hD hS => ?_)
          have hP : va_P D classes [(h0, .inr (8, mS f tn rm ln lx at_ bd fs dp on os bn df th 0 mo_ ev (ss + 1) so rs rs pt ot_25 cl)), ((f 29), .inl (cI, 200, .inl lts_26))] H := hP
          have hD : va_D A [(h0, .inr (8, mS f tn rm ln lx at_ bd fs dp on os bn df th 0 mo_ ev (ss + 1) so rs rs pt ot_25 cl)), ((f 29), .inl (cI, 200, .inl lts_26))] := hD
          refine lv_aload_n hx hb d_MO_printed_88 rfl (lv_at hl 1 rfl) ?_
          refine lv_iconst (v := 1) hx hb d_MO_printed_89 (by decide) ?_
          refine va_put (D := D) (ci := 8) (v := .int 1) (ty := .int) (C := rn_MO) (T := fl_MO) (N := 55) hx hb hG in_MO tt_MO tk_MO nn_MO hown hK hP hD hS 0 rfl rfl 49 (by decide) (hG _ k_1240) (fun _ h9 => h9) rfl (by decide +kernel) rfl rfl (Nat.le_of_ble_eq_true rfl) d_MO_printed_90 (fun H locs hP hD hS => ?_)
          have hP : va_P D classes [(h0, .inr (8, mS f tn rm ln lx at_ bd fs dp on os bn df th 0 mo_ ev (ss + 1) so rs rs 1 ot_25 cl)), ((f 29), .inl (cI, 200, .inl lts_26))] H := hP
          have hD : va_D A [(h0, .inr (8, mS f tn rm ln lx at_ bd fs dp on os bn df th 0 mo_ ev (ss + 1) so rs rs 1 ot_25 cl)), ((f 29), .inl (cI, 200, .inl lts_26))] := hD
          refine lv_goto (tgt := 180) hx hb d_MO_printed_93 (by decide) ?_
          exact em_vret hx hb hr hlocks hP hD hK hS (0, rs, so, ss + 1, rs, 1, ot_25, lts_26) [0, 1] (by decide) rfl ⟨rfl, ⟨(show 0 = 0 from rfl), (show okh df Gc rs from (hrs hb_2)), (show 1 = 2 → okh df Gc rs from (fun q => absurd q (by decide))), (show ot_25 ≤ ot + 12 from (by first | assumption | omega | exact Or.inl rfl)), (show ((ss + 1) = ss + 1 ∨ ((ss + 1) = ss ∧ ¬ so = 0 ∧ ot_25 = ot) ∨ ((ss + 1) = ss ∧ so = so ∧ 1 = 2 ∧ ¬ pt = 2 ∧ ot_25 = ot)) from (Or.inl rfl))⟩⟩ d_MO_printed_180
        · skip
          exact hbad.elim
      · skip
        exact hbad.elim
  · skip
    refine lv_lload_n hx hb d_MO_printed_26 rfl (lv_at hl 1 rfl) ?_
    refine em_call (wr := [(h0, .inr (8, mS f tn rm ln lx at_ bd fs dp on os bn df th 0 mo_ ev ss so v rs pt ot cl)), ((f 29), .inl (cI, 200, .inl lts))]) (em_runS (As := [.long v]) (rest := []) ⟨hx, hb, hml, hown, hG⟩ (mo_truth l D cI cL cZ cC v _  hnt) (cwS 1 hG (gd_S k_1589 k_1590 k_116 k_1591) rfl rfl rfl (by decide +kernel) ⟨Nat.le_of_ble_eq_true rfl, Nat.le_of_ble_eq_true rfl⟩) (tw_S hP hD hK hE hst hS [] rfl (by decide)) rfl rfl hl.1 rfl (lv_room (Nat.le_of_ble_eq_true rfl)) d_MO_printed_27 ⟨Nat.le_of_ble_eq_true rfl, Nat.le_of_ble_eq_true rfl⟩) hP hD hS hA [] [0, 1] rfl rfl (by decide) (by decide) (fun v u H locs hok hP hD hS => ?_) (fun x C u H locs hbad hxx hP hD hS => ?_)
    · skip
      obtain ⟨r_31, rfl, hp_32⟩ := hok
      have hP : va_P D classes [(h0, .inr (8, mS f tn rm ln lx at_ bd fs dp on os bn df th 0 mo_ ev ss so v rs pt ot cl)), ((f 29), .inl (cI, 200, .inl lts))] H := hP
      have hD : va_D A [(h0, .inr (8, mS f tn rm ln lx at_ bd fs dp on os bn df th 0 mo_ ev ss so v rs pt ot cl)), ((f 29), .inl (cI, 200, .inl lts))] := hD
      rcases hp_32 with rfl | rfl
      · skip
        refine W.eq (g2 := F0 m 30 ls [.int 0]) rfl ?_
        refine lv_if_eq (tgt := 37) hx hb d_MO_printed_30 (by decide) (fun hbr => ?_) (fun hbr => absurd (by decide) hbr)
        refine lv_iconst (v := 0) hx hb d_MO_printed_37 (by decide) ?_
        refine lv_istore (lv' := [(9, .int 0), (0, .ref h0), (1, .long v), (3, .int 0), (4, .long x), (6, .long y), (8, .int 0)]) hx hb d_MO_printed_38 hl (Nat.le_of_ble_eq_true rfl) rfl (fun ls hl => ?_)
        refine lv_aload_n hx hb d_MO_printed_40 rfl (lv_at hl 1 rfl) ?_
        refine va_get (D := D) (ci := 8) (v := .int pt) (C := rn_MO) (T := fl_MO) (N := 55) hx hb hG in_MO hown hK hP 0 rfl rfl 49 (by decide) (hG _ k_1240) (fun _ h9 => h9) rfl d_MO_printed_41 ?_
        refine lv_iconst (v := 2) hx hb d_MO_printed_44 (by decide) ?_
        refine lv_icmp_ne (tgt := 96) hx hb d_MO_printed_45 (by decide) (fun hb_33 => ?_) (fun hb_33 => ?_)
        · skip
          refine lv_iload_n hx hb d_MO_printed_96 rfl (lv_at hl 3 rfl) ?_
          refine lv_if_eq (tgt := 120) hx hb d_MO_printed_97 (by decide) (fun hbr => ?_) (fun hbr => absurd (by decide) hbr)
          refine lv_iload hx hb d_MO_printed_120 (lv_at hl 0 rfl) ?_
          refine lv_if_eq (tgt := 132) hx hb d_MO_printed_122 (by decide) (fun hbr => ?_) (fun hbr => absurd (by decide) hbr)
          refine lv_lload_n hx hb d_MO_printed_132 rfl (lv_at hl 2 rfl) ?_
          refine lv_bipush (v := 17) hx hb d_MO_printed_133 (by decide) ?_
          refine W.callRL (W.runS (As := [.int 17]) (rest := [.long v]) ⟨hx, hb, hml, hown, hG⟩ (mo_constant l D cI cL cZ cC 17 ) (cwS 1 hG (gd_S k_1461 k_1462 k_116 k_1463) rfl rfl rfl (by decide +kernel) ⟨Nat.le_of_ble_eq_true rfl, Nat.le_of_ble_eq_true rfl⟩) (wq_S hP hK [] rfl) rfl rfl hl.1 rfl (lv_room (Nat.le_of_ble_eq_true rfl)) d_MO_printed_135 ⟨Nat.le_of_ble_eq_true rfl, Nat.le_of_ble_eq_true rfl⟩) ?_
          refine W.eq (g2 := F0 m 138 ls [.long (wof 2 17), .long v]) rfl ?_
          refine W.lcmp hx hb d_MO_printed_138 ?_
          refine lv_if_ne (tgt := 175) hx hb d_MO_printed_139 (by decide) (fun hb_34 => ?_) (fun hb_34 => ?_)
          · skip
            have hq_35 : ¬ _ := fun h => hb_34 ((lg_cmp_eq _ _).mpr h)
            refine lv_aload_n hx hb d_MO_printed_175 rfl (lv_at hl 1 rfl) ?_
            refine lv_iconst (v := 2) hx hb d_MO_printed_176 (by decide) ?_
            refine va_put (D := D) (ci := 8) (v := .int 2) (ty := .int) (C := rn_MO) (T := fl_MO) (N := 55) hx hb hG in_MO tt_MO tk_MO nn_MO hown hK hP hD hS 0 rfl rfl 42 (by decide) (hG _ k_1233) (fun _ h9 => h9) rfl (by decide +kernel) rfl rfl (Nat.le_of_ble_eq_true rfl) d_MO_printed_177 (fun H locs hP hD hS => ?_)
            have hP : va_P D classes [(h0, .inr (8, mS f tn rm ln lx at_ bd fs dp on os bn df th 0 mo_ ev ss 2 v rs pt ot cl)), ((f 29), .inl (cI, 200, .inl lts))] H := hP
            have hD : va_D A [(h0, .inr (8, mS f tn rm ln lx at_ bd fs dp on os bn df th 0 mo_ ev ss 2 v rs pt ot cl)), ((f 29), .inl (cI, 200, .inl lts))] := hD
            exact em_vret hx hb hr hlocks hP hD hK hS (0, v, 2, ss, rs, pt, ot, lts) [0, 1] (by decide) rfl ⟨rfl, ⟨(show 0 = 0 from rfl), (show okh df Gc v from hv), (show pt = 2 → okh df Gc rs from hrs), (show ot ≤ ot + 12 from (by first | assumption | omega | exact Or.inl rfl)), (show (ss = ss + 1 ∨ (ss = ss ∧ ¬ 2 = 0 ∧ ot = ot) ∨ (ss = ss ∧ 2 = so ∧ pt = 2 ∧ ¬ pt = 2 ∧ ot = ot)) from (Or.inr (Or.inl ⟨rfl, by decide, rfl⟩)))⟩⟩ d_MO_printed_180
          · skip
            have hq_36 := (lg_cmp_eq _ _).mp hb_34
            refine lv_iload hx hb d_MO_printed_142 (lv_at hl 6 rfl) ?_
            refine lv_if_ne (tgt := 175) hx hb d_MO_printed_144 (by decide) (fun hbr => absurd (by decide) hbr) (fun hbr => ?_)
            refine lv_iload hx hb d_MO_printed_147 (lv_at hl 0 rfl) ?_
            refine lv_if_eq (tgt := 157) hx hb d_MO_printed_149 (by decide) (fun hbr => ?_) (fun hbr => absurd (by decide) hbr)
            refine lv_aload_n hx hb d_MO_printed_157 rfl (lv_at hl 1 rfl) ?_
            refine lv_dup hx hb d_MO_printed_158 rfl ?_
            refine va_get (D := D) (ci := 8) (v := .int ss) (C := rn_MO) (T := fl_MO) (N := 55) hx hb hG in_MO hown hK hP 0 rfl rfl 41 (by decide) (hG _ k_1232) (fun _ h9 => h9) rfl d_MO_printed_159 ?_
            refine lv_iconst (v := 1) hx hb d_MO_printed_162 (by decide) ?_
            refine lv_iadd hx hb d_MO_printed_163 ?_
            refine va_put (D := D) (ci := 8) (v := .int (ss + 1)) (ty := .int) (C := rn_MO) (T := fl_MO) (N := 55) hx hb hG in_MO tt_MO tk_MO nn_MO hown hK hP hD hS 0 rfl rfl 41 (by decide) (hG _ k_1232) (fun _ h9 => h9) rfl (by decide +kernel) rfl rfl (Nat.le_of_ble_eq_true rfl) d_MO_printed_164 (fun H locs hP hD hS => ?_)
            have hP : va_P D classes [(h0, .inr (8, mS f tn rm ln lx at_ bd fs dp on os bn df th 0 mo_ ev (ss + 1) so v rs pt ot cl)), ((f 29), .inl (cI, 200, .inl lts))] H := hP
            have hD : va_D A [(h0, .inr (8, mS f tn rm ln lx at_ bd fs dp on os bn df th 0 mo_ ev (ss + 1) so v rs pt ot cl)), ((f 29), .inl (cI, 200, .inl lts))] := hD
            refine lv_aload_n hx hb d_MO_printed_167 rfl (lv_at hl 1 rfl) ?_
            refine lv_iconst (v := 1) hx hb d_MO_printed_168 (by decide) ?_
            refine va_put (D := D) (ci := 8) (v := .int 1) (ty := .int) (C := rn_MO) (T := fl_MO) (N := 55) hx hb hG in_MO tt_MO tk_MO nn_MO hown hK hP hD hS 0 rfl rfl 42 (by decide) (hG _ k_1233) (fun _ h9 => h9) rfl (by decide +kernel) rfl rfl (Nat.le_of_ble_eq_true rfl) d_MO_printed_169 (fun H locs hP hD hS => ?_)
            have hP : va_P D classes [(h0, .inr (8, mS f tn rm ln lx at_ bd fs dp on os bn df th 0 mo_ ev (ss + 1) 1 v rs pt ot cl)), ((f 29), .inl (cI, 200, .inl lts))] H := hP
            have hD : va_D A [(h0, .inr (8, mS f tn rm ln lx at_ bd fs dp on os bn df th 0 mo_ ev (ss + 1) 1 v rs pt ot cl)), ((f 29), .inl (cI, 200, .inl lts))] := hD
            refine lv_goto (tgt := 180) hx hb d_MO_printed_172 (by decide) ?_
            exact em_vret hx hb hr hlocks hP hD hK hS (0, v, 1, ss + 1, rs, pt, ot, lts) [0, 1] (by decide) rfl ⟨rfl, ⟨(show 0 = 0 from rfl), (show okh df Gc v from hv), (show pt = 2 → okh df Gc rs from hrs), (show ot ≤ ot + 12 from (by first | assumption | omega | exact Or.inl rfl)), (show ((ss + 1) = ss + 1 ∨ ((ss + 1) = ss ∧ ¬ 1 = 0 ∧ ot = ot) ∨ ((ss + 1) = ss ∧ 1 = so ∧ pt = 2 ∧ ¬ pt = 2 ∧ ot = ot)) from (Or.inl rfl))⟩⟩ d_MO_printed_180
        · skip
          refine lv_iload hx hb d_MO_printed_48 (lv_at hl 0 rfl) ?_
          refine lv_if_ne (tgt := 59) hx hb d_MO_printed_50 (by decide) (fun hbr => absurd (by decide) hbr) (fun hbr => ?_)
          refine lv_aload_n hx hb d_MO_printed_53 rfl (lv_at hl 1 rfl) ?_
          refine lv_iconst (v := 2) hx hb d_MO_printed_54 (by decide) ?_
          refine va_put (D := D) (ci := 8) (v := .int 2) (ty := .int) (C := rn_MO) (T := fl_MO) (N := 55) hx hb hG in_MO tt_MO tk_MO nn_MO hown hK hP hD hS 0 rfl rfl 42 (by decide) (hG _ k_1233) (fun _ h9 => h9) rfl (by decide +kernel) rfl rfl (Nat.le_of_ble_eq_true rfl) d_MO_printed_55 (fun H locs hP hD hS => ?_)
          have hP : va_P D classes [(h0, .inr (8, mS f tn rm ln lx at_ bd fs dp on os bn df th 0 mo_ ev ss 2 v rs pt ot cl)), ((f 29), .inl (cI, 200, .inl lts))] H := hP
          have hD : va_D A [(h0, .inr (8, mS f tn rm ln lx at_ bd fs dp on os bn df th 0 mo_ ev ss 2 v rs pt ot cl)), ((f 29), .inl (cI, 200, .inl lts))] := hD
          exact em_vret hx hb hr hlocks hP hD hK hS (0, v, 2, ss, rs, pt, ot, lts) [0, 1] (by decide) rfl ⟨rfl, ⟨(show 0 = 0 from rfl), (show okh df Gc v from hv), (show pt = 2 → okh df Gc rs from hrs), (show ot ≤ ot + 12 from (by first | assumption | omega | exact Or.inl rfl)), (show (ss = ss + 1 ∨ (ss = ss ∧ ¬ 2 = 0 ∧ ot = ot) ∨ (ss = ss ∧ 2 = so ∧ pt = 2 ∧ ¬ pt = 2 ∧ ot = ot)) from (Or.inr (Or.inl ⟨rfl, by decide, rfl⟩)))⟩⟩ d_MO_printed_58
      · skip
        refine W.eq (g2 := F0 m 30 ls [.int 1]) rfl ?_
        refine lv_if_eq (tgt := 37) hx hb d_MO_printed_30 (by decide) (fun hbr => absurd hbr (by decide)) (fun hbr => ?_)
        refine lv_iconst (v := 1) hx hb d_MO_printed_33 (by decide) ?_
        refine lv_goto (tgt := 38) hx hb d_MO_printed_34 (by decide) ?_
        refine lv_istore (lv' := [(9, .int 1), (0, .ref h0), (1, .long v), (3, .int 0), (4, .long x), (6, .long y), (8, .int 0)]) hx hb d_MO_printed_38 hl (Nat.le_of_ble_eq_true rfl) rfl (fun ls hl => ?_)
        refine lv_aload_n hx hb d_MO_printed_40 rfl (lv_at hl 1 rfl) ?_
        refine va_get (D := D) (ci := 8) (v := .int pt) (C := rn_MO) (T := fl_MO) (N := 55) hx hb hG in_MO hown hK hP 0 rfl rfl 49 (by decide) (hG _ k_1240) (fun _ h9 => h9) rfl d_MO_printed_41 ?_
        refine lv_iconst (v := 2) hx hb d_MO_printed_44 (by decide) ?_
        refine lv_icmp_ne (tgt := 96) hx hb d_MO_printed_45 (by decide) (fun hb_37 => ?_) (fun hb_37 => ?_)
        · skip
          refine lv_iload_n hx hb d_MO_printed_96 rfl (lv_at hl 3 rfl) ?_
          refine lv_if_eq (tgt := 120) hx hb d_MO_printed_97 (by decide) (fun hbr => ?_) (fun hbr => absurd (by decide) hbr)
          refine lv_iload hx hb d_MO_printed_120 (lv_at hl 0 rfl) ?_
          refine lv_if_eq (tgt := 132) hx hb d_MO_printed_122 (by decide) (fun hbr => absurd hbr (by decide)) (fun hbr => ?_)
          refine lv_aload_n hx hb d_MO_printed_125 rfl (lv_at hl 1 rfl) ?_
          refine va_get (D := D) (ci := 8) (v := .int pt) (C := rn_MO) (T := fl_MO) (N := 55) hx hb hG in_MO hown hK hP 0 rfl rfl 49 (by decide) (hG _ k_1240) (fun _ h9 => h9) rfl d_MO_printed_126 ?_
          refine lv_if_eq (tgt := 147) hx hb d_MO_printed_129 (by decide) (fun hb_38 => ?_) (fun hb_38 => ?_)
          · skip
            refine lv_iload hx hb d_MO_printed_147 (lv_at hl 0 rfl) ?_
            refine lv_if_eq (tgt := 157) hx hb d_MO_printed_149 (by decide) (fun hbr => absurd hbr (by decide)) (fun hbr => ?_)
            refine lv_aload_n hx hb d_MO_printed_152 rfl (lv_at hl 1 rfl) ?_
            refine lv_lload_n hx hb d_MO_printed_153 rfl (lv_at hl 2 rfl) ?_
            refine em_call (wr := []) (em_runV (As := [.long v]) (rest := []) ⟨hx, hb, hml, hown, hG⟩ (mo_say l D cI cL cZ cC f h0 tn rm ln lx at_ bd fs dp on os bn df th 0 mo_ ev ss so v rs pt ot cl lts v _ (by first | assumption | omega | exact Or.inl rfl) hnt) (cwV 1 hG (gd_V k_1608 k_1610 k_98 k_116 k_1611) rfl rfl rfl (by decide +kernel) ⟨Nat.le_of_ble_eq_true rfl, Nat.le_of_ble_eq_true rfl⟩) (tw_V (q0 := 0) hP hD hK hE hst hS rfl rfl [0, 1] rfl (by decide)) rfl rfl hl.1 rfl (lv_room (Nat.le_of_ble_eq_true rfl)) d_MO_printed_154 ⟨Nat.le_of_ble_eq_true rfl, Nat.le_of_ble_eq_true rfl⟩) hP hD hS hA [0, 1] [] rfl rfl (by decide) (by decide) (fun v u H locs hok hP hD hS => ?_) (fun x C u H locs hbad hxx hP hD hS => ?_)
            · skip
              obtain ⟨ot_39, lts_40⟩ := u
              obtain ⟨rfl, hp_42⟩ := hok
              have hot_43 : (ot_39 ≤ ot + 11) := hp_42
              have hP : va_P D classes [(h0, .inr (8, mS f tn rm ln lx at_ bd fs dp on os bn df th 0 mo_ ev ss so v rs pt ot_39 cl)), ((f 29), .inl (cI, 200, .inl lts_40))] H := hP
              have hD : va_D A [(h0, .inr (8, mS f tn rm ln lx at_ bd fs dp on os bn df th 0 mo_ ev ss so v rs pt ot_39 cl)), ((f 29), .inl (cI, 200, .inl lts_40))] := hD
              refine W.eq (g2 := F0 m 157 ls []) rfl ?_
              refine lv_aload_n hx hb d_MO_printed_157 rfl (lv_at hl 1 rfl) ?_
              refine lv_dup hx hb d_MO_printed_158 rfl ?_
              refine va_get (D := D) (ci := 8) (v := .int ss) (C := rn_MO) (T := fl_MO) (N := 55) hx hb hG in_MO hown hK hP 0 rfl rfl 41 (by decide) (hG _ k_1232) (fun _ h9 => h9) rfl d_MO_printed_159 ?_
              refine lv_iconst (v := 1) hx hb d_MO_printed_162 (by decide) ?_
              refine lv_iadd hx hb d_MO_printed_163 ?_
              refine va_put (D := D) (ci := 8) (v := .int (ss + 1)) (ty := .int) (C := rn_MO) (T := fl_MO) (N := 55) hx hb hG in_MO tt_MO tk_MO nn_MO hown hK hP hD hS 0 rfl rfl 41 (by decide) (hG _ k_1232) (fun _ h9 => h9) rfl (by decide +kernel) rfl rfl (Nat.le_of_ble_eq_true rfl) d_MO_printed_164 (fun H locs hP hD hS => ?_)
              have hP : va_P D classes [(h0, .inr (8, mS f tn rm ln lx at_ bd fs dp on os bn df th 0 mo_ ev (ss + 1) so v rs pt ot_39 cl)), ((f 29), .inl (cI, 200, .inl lts_40))] H := hP
              have hD : va_D A [(h0, .inr (8, mS f tn rm ln lx at_ bd fs dp on os bn df th 0 mo_ ev (ss + 1) so v rs pt ot_39 cl)), ((f 29), .inl (cI, 200, .inl lts_40))] := hD
              refine lv_aload_n hx hb d_MO_printed_167 rfl (lv_at hl 1 rfl) ?_
              refine lv_iconst (v := 1) hx hb d_MO_printed_168 (by decide) ?_
              refine va_put (D := D) (ci := 8) (v := .int 1) (ty := .int) (C := rn_MO) (T := fl_MO) (N := 55) hx hb hG in_MO tt_MO tk_MO nn_MO hown hK hP hD hS 0 rfl rfl 42 (by decide) (hG _ k_1233) (fun _ h9 => h9) rfl (by decide +kernel) rfl rfl (Nat.le_of_ble_eq_true rfl) d_MO_printed_169 (fun H locs hP hD hS => ?_)
              have hP : va_P D classes [(h0, .inr (8, mS f tn rm ln lx at_ bd fs dp on os bn df th 0 mo_ ev (ss + 1) 1 v rs pt ot_39 cl)), ((f 29), .inl (cI, 200, .inl lts_40))] H := hP
              have hD : va_D A [(h0, .inr (8, mS f tn rm ln lx at_ bd fs dp on os bn df th 0 mo_ ev (ss + 1) 1 v rs pt ot_39 cl)), ((f 29), .inl (cI, 200, .inl lts_40))] := hD
              refine lv_goto (tgt := 180) hx hb d_MO_printed_172 (by decide) ?_
              exact em_vret hx hb hr hlocks hP hD hK hS (0, v, 1, ss + 1, rs, pt, ot_39, lts_40) [0, 1] (by decide) rfl ⟨rfl, ⟨(show 0 = 0 from rfl), (show okh df Gc v from hv), (show pt = 2 → okh df Gc rs from hrs), (show ot_39 ≤ ot + 12 from (by first | assumption | omega | exact Or.inl rfl)), (show ((ss + 1) = ss + 1 ∨ ((ss + 1) = ss ∧ ¬ 1 = 0 ∧ ot_39 = ot) ∨ ((ss + 1) = ss ∧ 1 = so ∧ pt = 2 ∧ ¬ pt = 2 ∧ ot_39 = ot)) from (Or.inl rfl))⟩⟩ d_MO_printed_180
            · skip
              exact hbad.elim
          · skip
            refine lv_lload_n hx hb d_MO_printed_132 rfl (lv_at hl 2 rfl) ?_
            refine lv_bipush (v := 17) hx hb d_MO_printed_133 (by decide) ?_
            refine W.callRL (W.runS (As := [.int 17]) (rest := [.long v]) ⟨hx, hb, hml, hown, hG⟩ (mo_constant l D cI cL cZ cC 17 ) (cwS 1 hG (gd_S k_1461 k_1462 k_116 k_1463) rfl rfl rfl (by decide +kernel) ⟨Nat.le_of_ble_eq_true rfl, Nat.le_of_ble_eq_true rfl⟩) (wq_S hP hK [] rfl) rfl rfl hl.1 rfl (lv_room (Nat.le_of_ble_eq_true rfl)) d_MO_printed_135 ⟨Nat.le_of_ble_eq_true rfl, Nat.le_of_ble_eq_true rfl⟩) ?_
            refine W.eq (g2 := F0 m 138 ls [.long (wof 2 17), .long v]) rfl ?_
            refine W.lcmp hx hb d_MO_printed_138 ?_
            refine lv_if_ne (tgt := 175) hx hb d_MO_printed_139 (by decide) (fun hb_45 => ?_) (fun hb_45 => ?_)
            · skip
              have hq_46 : ¬ _ := fun h => hb_45 ((lg_cmp_eq _ _).mpr h)
              refine lv_aload_n hx hb d_MO_printed_175 rfl (lv_at hl 1 rfl) ?_
              refine lv_iconst (v := 2) hx hb d_MO_printed_176 (by decide) ?_
              refine va_put (D := D) (ci := 8) (v := .int 2) (ty := .int) (C := rn_MO) (T := fl_MO) (N := 55) hx hb hG in_MO tt_MO tk_MO nn_MO hown hK hP hD hS 0 rfl rfl 42 (by decide) (hG _ k_1233) (fun _ h9 => h9) rfl (by decide +kernel) rfl rfl (Nat.le_of_ble_eq_true rfl) d_MO_printed_177 (fun H locs hP hD hS => ?_)
              have hP : va_P D classes [(h0, .inr (8, mS f tn rm ln lx at_ bd fs dp on os bn df th 0 mo_ ev ss 2 v rs pt ot cl)), ((f 29), .inl (cI, 200, .inl lts))] H := hP
              have hD : va_D A [(h0, .inr (8, mS f tn rm ln lx at_ bd fs dp on os bn df th 0 mo_ ev ss 2 v rs pt ot cl)), ((f 29), .inl (cI, 200, .inl lts))] := hD
              exact em_vret hx hb hr hlocks hP hD hK hS (0, v, 2, ss, rs, pt, ot, lts) [0, 1] (by decide) rfl ⟨rfl, ⟨(show 0 = 0 from rfl), (show okh df Gc v from hv), (show pt = 2 → okh df Gc rs from hrs), (show ot ≤ ot + 12 from (by first | assumption | omega | exact Or.inl rfl)), (show (ss = ss + 1 ∨ (ss = ss ∧ ¬ 2 = 0 ∧ ot = ot) ∨ (ss = ss ∧ 2 = so ∧ pt = 2 ∧ ¬ pt = 2 ∧ ot = ot)) from (Or.inr (Or.inl ⟨rfl, by decide, rfl⟩)))⟩⟩ d_MO_printed_180
            · skip
              have hq_47 := (lg_cmp_eq _ _).mp hb_45
              refine lv_iload hx hb d_MO_printed_142 (lv_at hl 6 rfl) ?_
              refine lv_if_ne (tgt := 175) hx hb d_MO_printed_144 (by decide) (fun hbr => absurd (by decide) hbr) (fun hbr => ?_)
              refine lv_iload hx hb d_MO_printed_147 (lv_at hl 0 rfl) ?_
              refine lv_if_eq (tgt := 157) hx hb d_MO_printed_149 (by decide) (fun hbr => absurd hbr (by decide)) (fun hbr => ?_)
              refine lv_aload_n hx hb d_MO_printed_152 rfl (lv_at hl 1 rfl) ?_
              refine lv_lload_n hx hb d_MO_printed_153 rfl (lv_at hl 2 rfl) ?_
              refine em_call (wr := []) (em_runV (As := [.long v]) (rest := []) ⟨hx, hb, hml, hown, hG⟩ (mo_say l D cI cL cZ cC f h0 tn rm ln lx at_ bd fs dp on os bn df th 0 mo_ ev ss so v rs pt ot cl lts v _ (by first | assumption | omega | exact Or.inl rfl) hnt) (cwV 1 hG (gd_V k_1608 k_1610 k_98 k_116 k_1611) rfl rfl rfl (by decide +kernel) ⟨Nat.le_of_ble_eq_true rfl, Nat.le_of_ble_eq_true rfl⟩) (tw_V (q0 := 0) hP hD hK hE hst hS rfl rfl [0, 1] rfl (by decide)) rfl rfl hl.1 rfl (lv_room (Nat.le_of_ble_eq_true rfl)) d_MO_printed_154 ⟨Nat.le_of_ble_eq_true rfl, Nat.le_of_ble_eq_true rfl⟩) hP hD hS hA [0, 1] [] rfl rfl (by decide) (by decide) (fun v u H locs hok hP hD hS => ?_) (fun x C u H locs hbad hxx hP hD hS => ?_)
              · skip
                obtain ⟨ot_48, lts_49⟩ := u
                obtain ⟨rfl, hp_51⟩ := hok
                have hot_52 : (ot_48 ≤ ot + 11) := hp_51
                have hP : va_P D classes [(h0, .inr (8, mS f tn rm ln lx at_ bd fs dp on os bn df th 0 mo_ ev ss so v rs pt ot_48 cl)), ((f 29), .inl (cI, 200, .inl lts_49))] H := hP
                have hD : va_D A [(h0, .inr (8, mS f tn rm ln lx at_ bd fs dp on os bn df th 0 mo_ ev ss so v rs pt ot_48 cl)), ((f 29), .inl (cI, 200, .inl lts_49))] := hD
                refine W.eq (g2 := F0 m 157 ls []) rfl ?_
                refine lv_aload_n hx hb d_MO_printed_157 rfl (lv_at hl 1 rfl) ?_
                refine lv_dup hx hb d_MO_printed_158 rfl ?_
                refine va_get (D := D) (ci := 8) (v := .int ss) (C := rn_MO) (T := fl_MO) (N := 55) hx hb hG in_MO hown hK hP 0 rfl rfl 41 (by decide) (hG _ k_1232) (fun _ h9 => h9) rfl d_MO_printed_159 ?_
                refine lv_iconst (v := 1) hx hb d_MO_printed_162 (by decide) ?_
                refine lv_iadd hx hb d_MO_printed_163 ?_
                refine va_put (D := D) (ci := 8) (v := .int (ss + 1)) (ty := .int) (C := rn_MO) (T := fl_MO) (N := 55) hx hb hG in_MO tt_MO tk_MO nn_MO hown hK hP hD hS 0 rfl rfl 41 (by decide) (hG _ k_1232) (fun _ h9 => h9) rfl (by decide +kernel) rfl rfl (Nat.le_of_ble_eq_true rfl) d_MO_printed_164 (fun H locs hP hD hS => ?_)
                have hP : va_P D classes [(h0, .inr (8, mS f tn rm ln lx at_ bd fs dp on os bn df th 0 mo_ ev (ss + 1) so v rs pt ot_48 cl)), ((f 29), .inl (cI, 200, .inl lts_49))] H := hP
                have hD : va_D A [(h0, .inr (8, mS f tn rm ln lx at_ bd fs dp on os bn df th 0 mo_ ev (ss + 1) so v rs pt ot_48 cl)), ((f 29), .inl (cI, 200, .inl lts_49))] := hD
                refine lv_aload_n hx hb d_MO_printed_167 rfl (lv_at hl 1 rfl) ?_
                refine lv_iconst (v := 1) hx hb d_MO_printed_168 (by decide) ?_
                refine va_put (D := D) (ci := 8) (v := .int 1) (ty := .int) (C := rn_MO) (T := fl_MO) (N := 55) hx hb hG in_MO tt_MO tk_MO nn_MO hown hK hP hD hS 0 rfl rfl 42 (by decide) (hG _ k_1233) (fun _ h9 => h9) rfl (by decide +kernel) rfl rfl (Nat.le_of_ble_eq_true rfl) d_MO_printed_169 (fun H locs hP hD hS => ?_)
                have hP : va_P D classes [(h0, .inr (8, mS f tn rm ln lx at_ bd fs dp on os bn df th 0 mo_ ev (ss + 1) 1 v rs pt ot_48 cl)), ((f 29), .inl (cI, 200, .inl lts_49))] H := hP
                have hD : va_D A [(h0, .inr (8, mS f tn rm ln lx at_ bd fs dp on os bn df th 0 mo_ ev (ss + 1) 1 v rs pt ot_48 cl)), ((f 29), .inl (cI, 200, .inl lts_49))] := hD
                refine lv_goto (tgt := 180) hx hb d_MO_printed_172 (by decide) ?_
                exact em_vret hx hb hr hlocks hP hD hK hS (0, v, 1, ss + 1, rs, pt, ot_48, lts_49) [0, 1] (by decide) rfl ⟨rfl, ⟨(show 0 = 0 from rfl), (show okh df Gc v from hv), (show pt = 2 → okh df Gc rs from hrs), (show ot_48 ≤ ot + 12 from (by first | assumption | omega | exact Or.inl rfl)), (show ((ss + 1) = ss + 1 ∨ ((ss + 1) = ss ∧ ¬ 1 = 0 ∧ ot_48 = ot) ∨ ((ss + 1) = ss ∧ 1 = so ∧ pt = 2 ∧ ¬ pt = 2 ∧ ot_48 = ot)) from (Or.inl rfl))⟩⟩ d_MO_printed_180
              · skip
                exact hbad.elim
        · skip
          refine lv_iload hx hb d_MO_printed_48 (lv_at hl 0 rfl) ?_
          refine lv_if_ne (tgt := 59) hx hb d_MO_printed_50 (by decide) (fun hbr => ?_) (fun hbr => absurd hbr (by decide))
          refine lv_aload_n hx hb d_MO_printed_59 rfl (lv_at hl 1 rfl) ?_
          refine lv_lload_n hx hb d_MO_printed_60 rfl (lv_at hl 2 rfl) ?_
          refine em_call (wr := []) (em_runV (As := [.long v]) (rest := []) ⟨hx, hb, hml, hown, hG⟩ (mo_say l D cI cL cZ cC f h0 tn rm ln lx at_ bd fs dp on os bn df th 0 mo_ ev ss so v rs pt ot cl lts v _ (by first | assumption | omega | exact Or.inl rfl) hnt) (cwV 1 hG (gd_V k_1608 k_1610 k_98 k_116 k_1611) rfl rfl rfl (by decide +kernel) ⟨Nat.le_of_ble_eq_true rfl, Nat.le_of_ble_eq_true rfl⟩) (tw_V (q0 := 0) hP hD hK hE hst hS rfl rfl [0, 1] rfl (by decide)) rfl rfl hl.1 rfl (lv_room (Nat.le_of_ble_eq_true rfl)) d_MO_printed_61 ⟨Nat.le_of_ble_eq_true rfl, Nat.le_of_ble_eq_true rfl⟩) hP hD hS hA [0, 1] [] rfl rfl (by decide) (by decide) (fun v u H locs hok hP hD hS => ?_) (fun x C u H locs hbad hxx hP hD hS => ?_)
          · skip
            obtain ⟨ot_54, lts_55⟩ := u
            obtain ⟨rfl, hp_57⟩ := hok
            have hot_58 : (ot_54 ≤ ot + 11) := hp_57
            have hP : va_P D classes [(h0, .inr (8, mS f tn rm ln lx at_ bd fs dp on os bn df th 0 mo_ ev ss so v rs pt ot_54 cl)), ((f 29), .inl (cI, 200, .inl lts_55))] H := hP
            have hD : va_D A [(h0, .inr (8, mS f tn rm ln lx at_ bd fs dp on os bn df th 0 mo_ ev ss so v rs pt ot_54 cl)), ((f 29), .inl (cI, 200, .inl lts_55))] := hD
            refine W.eq (g2 := F0 m 64 ls []) rfl ?_
            refine lv_aload_n hx hb d_MO_printed_64 rfl (lv_at hl 1 rfl) ?_
            refine lv_bipush (v := 32) hx hb d_MO_printed_65 (by decide) ?_
            refine em_call (wr := []) (em_runV (As := [.int 32]) (rest := []) ⟨hx, hb, hml, hown, hG⟩ (mo_letterOut l D cI cL cZ cC f h0 tn rm ln lx at_ bd fs dp on os bn df th 0 mo_ ev ss so v rs pt ot_54 cl lts_55 32 _ (by first | assumption | omega | exact Or.inl rfl) hnt) (cwV 1 hG (gd_V k_1616 k_1618 k_100 k_116 k_1619) rfl rfl rfl (by decide +kernel) ⟨Nat.le_of_ble_eq_true rfl, Nat.le_of_ble_eq_true rfl⟩) (tw_V (q0 := 0) hP hD hK hE hst hS rfl rfl [0, 1] rfl (by decide)) rfl rfl hl.1 rfl (lv_room (Nat.le_of_ble_eq_true rfl)) d_MO_printed_67 ⟨Nat.le_of_ble_eq_true rfl, Nat.le_of_ble_eq_true rfl⟩) hP hD hS hA [0, 1] [] rfl rfl (by decide) (by decide) (fun v u H locs hok hP hD hS => ?_) (fun x C u H locs hbad hxx hP hD hS => ?_)
            · skip
              obtain ⟨ot_60, lts_61⟩ := u
              obtain ⟨rfl, hp_63⟩ := hok
              have hot_64 : (ot_60 = ot_54 + 1) := hp_63
              have hP : va_P D classes [(h0, .inr (8, mS f tn rm ln lx at_ bd fs dp on os bn df th 0 mo_ ev ss so v rs pt ot_60 cl)), ((f 29), .inl (cI, 200, .inl lts_61))] H := hP
              have hD : va_D A [(h0, .inr (8, mS f tn rm ln lx at_ bd fs dp on os bn df th 0 mo_ ev ss so v rs pt ot_60 cl)), ((f 29), .inl (cI, 200, .inl lts_61))] := hD
              refine W.eq (g2 := F0 m 70 ls []) rfl ?_
              refine lv_aload_n hx hb d_MO_printed_70 rfl (lv_at hl 1 rfl) ?_
              refine lv_dup hx hb d_MO_printed_71 rfl ?_
              refine va_get (D := D) (ci := 8) (v := .int ss) (C := rn_MO) (T := fl_MO) (N := 55) hx hb hG in_MO hown hK hP 0 rfl rfl 41 (by decide) (hG _ k_1232) (fun _ h9 => h9) rfl d_MO_printed_72 ?_
              refine lv_iconst (v := 1) hx hb d_MO_printed_75 (by decide) ?_
              refine lv_iadd hx hb d_MO_printed_76 ?_
              refine va_put (D := D) (ci := 8) (v := .int (ss + 1)) (ty := .int) (C := rn_MO) (T := fl_MO) (N := 55) hx hb hG in_MO tt_MO tk_MO nn_MO hown hK hP hD hS 0 rfl rfl 41 (by decide) (hG _ k_1232) (fun _ h9 => h9) rfl (by decide +kernel) rfl rfl (Nat.le_of_ble_eq_true rfl) d_MO_printed_77 (fun H locs hP hD hS => ?_)
              have hP : va_P D classes [(h0, .inr (8, mS f tn rm ln lx at_ bd fs dp on os bn df th 0 mo_ ev (ss + 1) so v rs pt ot_60 cl)), ((f 29), .inl (cI, 200, .inl lts_61))] H := hP
              have hD : va_D A [(h0, .inr (8, mS f tn rm ln lx at_ bd fs dp on os bn df th 0 mo_ ev (ss + 1) so v rs pt ot_60 cl)), ((f 29), .inl (cI, 200, .inl lts_61))] := hD
              refine lv_aload_n hx hb d_MO_printed_80 rfl (lv_at hl 1 rfl) ?_
              refine lv_aload_n hx hb d_MO_printed_81 rfl (lv_at hl 1 rfl) ?_
              refine va_get (D := D) (ci := 8) (v := .long rs) (C := rn_MO) (T := fl_MO) (N := 55) hx hb hG in_MO hown hK hP 0 rfl rfl 48 (by decide) (hG _ k_1239) (fun _ h9 => h9) rfl d_MO_printed_82 ?_
              refine va_put (D := D) (ci := 8) (v := .long rs) (ty := .long) (C := rn_MO) (T := fl_MO) (N := 55) hx hb hG in_MO tt_MO tk_MO nn_MO hown hK hP hD hS 0 rfl rfl 47 (by decide) (hG _ k_1238) (fun _ h9 => h9) rfl (by decide +kernel) rfl rfl (Nat.le_of_ble_eq_true rfl) d_MO_printed_85 (fun H locs hP hD hS => ?_)
              have hP : va_P D classes [(h0, .inr (8, mS f tn rm ln lx at_ bd fs dp on os bn df th 0 mo_ ev (ss + 1) so rs rs pt ot_60 cl)), ((f 29), .inl (cI, 200, .inl lts_61))] H := hP
              have hD : va_D A [(h0, .inr (8, mS f tn rm ln lx at_ bd fs dp on os bn df th 0 mo_ ev (ss + 1) so rs rs pt ot_60 cl)), ((f 29), .inl (cI, 200, .inl lts_61))] := hD
              refine lv_aload_n hx hb d_MO_printed_88 rfl (lv_at hl 1 rfl) ?_
              refine lv_iconst (v := 1) hx hb d_MO_printed_89 (by decide) ?_
              refine va_put (D := D) (ci := 8) (v := .int 1) (ty := .int) (C := rn_MO) (T := fl_MO) (N := 55) hx hb hG in_MO tt_MO tk_MO nn_MO hown hK hP hD hS 0 rfl rfl 49 (by decide) (hG _ k_1240) (fun _ h9 => h9) rfl (by decide +kernel) rfl rfl (Nat.le_of_ble_eq_true rfl) d_MO_printed_90 (fun H locs hP hD hS => ?_)
              have hP : va_P D classes [(h0, .inr (8, mS f tn rm ln lx at_ bd fs dp on os bn df th 0 mo_ ev (ss + 1) so rs rs 1 ot_60 cl)), ((f 29), .inl (cI, 200, .inl lts_61))] H := hP
              have hD : va_D A [(h0, .inr (8, mS f tn rm ln lx at_ bd fs dp on os bn df th 0 mo_ ev (ss + 1) so rs rs 1 ot_60 cl)), ((f 29), .inl (cI, 200, .inl lts_61))] := hD
              refine lv_goto (tgt := 180) hx hb d_MO_printed_93 (by decide) ?_
              exact em_vret hx hb hr hlocks hP hD hK hS (0, rs, so, ss + 1, rs, 1, ot_60, lts_61) [0, 1] (by decide) rfl ⟨rfl, ⟨(show 0 = 0 from rfl), (show okh df Gc rs from (hrs hb_37)), (show 1 = 2 → okh df Gc rs from (fun q => absurd q (by decide))), (show ot_60 ≤ ot + 12 from (by first | assumption | omega | exact Or.inl rfl)), (show ((ss + 1) = ss + 1 ∨ ((ss + 1) = ss ∧ ¬ so = 0 ∧ ot_60 = ot) ∨ ((ss + 1) = ss ∧ so = so ∧ 1 = 2 ∧ ¬ pt = 2 ∧ ot_60 = ot)) from (Or.inl rfl))⟩⟩ d_MO_printed_180
            · skip
              exact hbad.elim
          · skip
            exact hbad.elim
    · skip
      exact hbad.elim
set_option maxHeartbeats 8000000 in
set_option maxRecDepth 100000 in
theorem mo_prt10 (l : Launch) (D : va_G) (cI cL cZ cC : ClassId) (f : Nat → Nat) (h0 : Nat) (tn : Int32) (rm : Nat) (ln : Nat) (lx : Nat) (at_ : Nat) (bd : Int32) (fs : Nat) (dp : Nat) (on : Nat) (os : Nat) (bn : Nat) (df : Nat) (th : Int32) (tp : Nat) (mo_ : Int32) (ev : Nat) (ss : Int32) (so : Int32) (lk : Int64) (rs : Int64) (pt : Int32) (ot : Nat) (cl : Int32) (lts : Nat → Int32) (Gc : Nat → Prop) (v : Int64) (x : Int64) (y : Int64) (sz : Nat) (hv : okh df Gc v) (hx1 : okh df Gc x) (hy1 : okh df Gc y) (hrs : pt = 2 → okh df Gc rs) (hot : ot + 12 < 2147483647) (hnt : l.stackTraces = false) : em_Met l y_MO_printed (wz y_MO_printed b_MO_printed 10 none) ({ frames := 0, cells := 0, slots := 0, locals := 0 }) (va_Pc [.ref h0, .long v, .int 1, .long x, .long y, .int 0] (tw_pre D (tys4 cI cL cZ cC) [(h0, .inr (8, mS f tn rm ln lx at_ bd fs dp on os bn df th tp mo_ ev ss so lk rs pt ot cl)), ((f 29), .inl (cI, 200, .inl lts))] sz)) D (tys4 cI cL cZ cC) (va_A [(h0, .inr (8, mS f tn rm ln lx at_ bd fs dp on os bn df th tp mo_ ev ss so lk rs pt ot cl)), ((f 29), .inl (cI, 200, .inl lts))] sz) (fun (u : Nat × Int64 × Int32 × Int32 × Int64 × Int32 × Nat × (Nat → Int32)) => [(h0, .inr (8, mS f tn rm ln lx at_ bd fs dp on os bn df th u.1 mo_ ev u.2.2.2.1 u.2.2.1 u.2.1 u.2.2.2.2.1 u.2.2.2.2.2.1 u.2.2.2.2.2.2.1 cl)), ((f 29), .inl (cI, 200, .inl u.2.2.2.2.2.2.2))]) (fun v (u : Nat × Int64 × Int32 × Int32 × Int64 × Int32 × Nat × (Nat → Int32)) => v = none ∧ ((u.1 = 0) ∧ (okh df Gc u.2.1) ∧ (u.2.2.2.2.2.1 = 2 → okh df Gc u.2.2.2.2.1) ∧ (u.2.2.2.2.2.2.1 ≤ ot + 12) ∧ ((u.2.2.2.1 = ss + 1 ∨ (u.2.2.2.1 = ss ∧ ¬ u.2.2.1 = 0 ∧ u.2.2.2.2.2.2.1 = ot) ∨ (u.2.2.2.1 = ss ∧ u.2.2.1 = so ∧ u.2.2.2.2.2.1 = 2 ∧ ¬ pt = 2 ∧ u.2.2.2.2.2.2.1 = ot))))) (fun C (u : Nat × Int64 × Int32 × Int32 × Int64 × Int32 × Nat × (Nat → Int32)) => False) 0 0 := by
  refine em_Met.ofW (cc := b_MO_printed) (maxL := 10) (ret := none) (by decide) rfl ?_
  intro p e s m args below meth c s₁ B hml hv hno
  obtain ⟨rfl, ⟨hsz, hP, hK, hD0⟩, hE⟩ := hv
  have hx := B.exec
  have hb := B.bytes
  have hr := B.returns
  have hts := atoms_spec (ws := wz y_MO_printed b_MO_printed 10 none) B.pre
  have hG := wz_G hts
  have hown : s.vm.findClass rn_MO = some m.cls := findClass_of_methodNamed B.named
  have hlocks := B.notSynchronized
  subst hsz
  have hD := hD0.self (sz := s.heap.size)
  have hst := tw_st hP
  generalize hAe : va_A [(h0, .inr (8, mS f tn rm ln lx at_ bd fs dp on os bn df th tp mo_ ev ss so lk rs pt ot cl)), ((f 29), .inl (cI, 200, .inl lts))] s.heap.size = A at hD hst ⊢
  have hA : ∀ q : Nat, s.heap.size ≤ q → A q := fun q h => by rw [← hAe]; exact Or.inr h
  have hS : va_S A s.heap s.heap [] := va_S.rf
  have hl := lv_entry ([.ref h0, .long v, .int 1, .long x, .long y, .int 0]) (n := 10) (Nat.le_of_ble_eq_true rfl)
  rw [lg_entry_eq]
  generalize (lg_sl ([.ref h0, .long v, .int 1, .long x, .long y, .int 0]) ++ List.replicate (10 - (lg_sl ([.ref h0, .long v, .int 1, .long x, .long y, .int 0])).length) Slot.unset).toArray = ls at hl ⊢
  have hl : lv_has ls 10 [(0, .ref h0), (1, .long v), (3, .int 1), (4, .long x), (6, .long y), (8, .int 0)] := hl
  refine lv_aload_n hx hb d_MO_printed_0 rfl (lv_at hl 0 rfl) ?_
  refine lv_iconst (v := 0) hx hb d_MO_printed_1 (by decide) ?_
  refine va_put (D := D) (ci := 8) (v := .int 0) (ty := .int) (C := rn_MO) (T := fl_MO) (N := 55) hx hb hG in_MO tt_MO tk_MO nn_MO hown hK hP hD hS 0 rfl rfl 38 (by decide) (hG _ k_1229) (fun _ h9 => h9) rfl (by decide +kernel) rfl rfl (Nat.le_of_ble_eq_true rfl) d_MO_printed_2 (fun H locs hP hD hS => ?_)
  have hP : va_P D classes [(h0, .inr (8, mS f tn rm ln lx at_ bd fs dp on os bn df th 0 mo_ ev ss so lk rs pt ot cl)), ((f 29), .inl (cI, 200, .inl lts))] H := hP
  have hD : va_D A [(h0, .inr (8, mS f tn rm ln lx at_ bd fs dp on os bn df th 0 mo_ ev ss so lk rs pt ot cl)), ((f 29), .inl (cI, 200, .inl lts))] := hD
  refine lv_aload_n hx hb d_MO_printed_5 rfl (lv_at hl 0 rfl) ?_
  refine lv_lload_n hx hb d_MO_printed_6 rfl (lv_at hl 1 rfl) ?_
  refine va_put (D := D) (ci := 8) (v := .long v) (ty := .long) (C := rn_MO) (T := fl_MO) (N := 55) hx hb hG in_MO tt_MO tk_MO nn_MO hown hK hP hD hS 0 rfl rfl 47 (by decide) (hG _ k_1238) (fun _ h9 => h9) rfl (by decide +kernel) rfl rfl (Nat.le_of_ble_eq_true rfl) d_MO_printed_7 (fun H locs hP hD hS => ?_)
  have hP : va_P D classes [(h0, .inr (8, mS f tn rm ln lx at_ bd fs dp on os bn df th 0 mo_ ev ss so v rs pt ot cl)), ((f 29), .inl (cI, 200, .inl lts))] H := hP
  have hD : va_D A [(h0, .inr (8, mS f tn rm ln lx at_ bd fs dp on os bn df th 0 mo_ ev ss so v rs pt ot cl)), ((f 29), .inl (cI, 200, .inl lts))] := hD
  refine lv_iload_n hx hb d_MO_printed_10 rfl (lv_at hl 2 rfl) ?_
  refine lv_if_ne (tgt := 37) hx hb d_MO_printed_11 (by decide) (fun hbr => ?_) (fun hbr => absurd hbr (by decide))
  refine lv_iconst (v := 0) hx hb d_MO_printed_37 (by decide) ?_
  refine lv_istore (lv' := [(9, .int 0), (0, .ref h0), (1, .long v), (3, .int 1), (4, .long x), (6, .long y), (8, .int 0)]) hx hb d_MO_printed_38 hl (Nat.le_of_ble_eq_true rfl) rfl (fun ls hl => ?_)
  refine lv_aload_n hx hb d_MO_printed_40 rfl (lv_at hl 1 rfl) ?_
  refine va_get (D := D) (ci := 8) (v := .int pt) (C := rn_MO) (T := fl_MO) (N := 55) hx hb hG in_MO hown hK hP 0 rfl rfl 49 (by decide) (hG _ k_1240) (fun _ h9 => h9) rfl d_MO_printed_41 ?_
  refine lv_iconst (v := 2) hx hb d_MO_printed_44 (by decide) ?_
  refine lv_icmp_ne (tgt := 96) hx hb d_MO_printed_45 (by decide) (fun hb_1 => ?_) (fun hb_1 => ?_)
  · skip
    refine lv_iload_n hx hb d_MO_printed_96 rfl (lv_at hl 3 rfl) ?_
    refine lv_if_eq (tgt := 120) hx hb d_MO_printed_97 (by decide) (fun hbr => absurd hbr (by decide)) (fun hbr => ?_)
    refine lv_aload_n hx hb d_MO_printed_100 rfl (lv_at hl 1 rfl) ?_
    refine lv_lload hx hb d_MO_printed_101 (lv_at hl 5 rfl) ?_
    refine va_put (D := D) (ci := 8) (v := .long y) (ty := .long) (C := rn_MO) (T := fl_MO) (N := 55) hx hb hG in_MO tt_MO tk_MO nn_MO hown hK hP hD hS 0 rfl rfl 48 (by decide) (hG _ k_1239) (fun _ h9 => h9) rfl (by decide +kernel) rfl rfl (Nat.le_of_ble_eq_true rfl) d_MO_printed_103 (fun H locs hP hD hS => ?_)
    have hP : va_P D classes [(h0, .inr (8, mS f tn rm ln lx at_ bd fs dp on os bn df th 0 mo_ ev ss so v y pt ot cl)), ((f 29), .inl (cI, 200, .inl lts))] H := hP
    have hD : va_D A [(h0, .inr (8, mS f tn rm ln lx at_ bd fs dp on os bn df th 0 mo_ ev ss so v y pt ot cl)), ((f 29), .inl (cI, 200, .inl lts))] := hD
    refine lv_aload_n hx hb d_MO_printed_106 rfl (lv_at hl 1 rfl) ?_
    refine lv_lload hx hb d_MO_printed_107 (lv_at hl 4 rfl) ?_
    refine va_put (D := D) (ci := 8) (v := .long x) (ty := .long) (C := rn_MO) (T := fl_MO) (N := 55) hx hb hG in_MO tt_MO tk_MO nn_MO hown hK hP hD hS 0 rfl rfl 47 (by decide) (hG _ k_1238) (fun _ h9 => h9) rfl (by decide +kernel) rfl rfl (Nat.le_of_ble_eq_true rfl) d_MO_printed_109 (fun H locs hP hD hS => ?_)
    have hP : va_P D classes [(h0, .inr (8, mS f tn rm ln lx at_ bd fs dp on os bn df th 0 mo_ ev ss so x y pt ot cl)), ((f 29), .inl (cI, 200, .inl lts))] H := hP
    have hD : va_D A [(h0, .inr (8, mS f tn rm ln lx at_ bd fs dp on os bn df th 0 mo_ ev ss so x y pt ot cl)), ((f 29), .inl (cI, 200, .inl lts))] := hD
    refine lv_aload_n hx hb d_MO_printed_112 rfl (lv_at hl 1 rfl) ?_
    refine lv_iconst (v := 2) hx hb d_MO_printed_113 (by decide) ?_
    refine va_put (D := D) (ci := 8) (v := .int 2) (ty := .int) (C := rn_MO) (T := fl_MO) (N := 55) hx hb hG in_MO tt_MO tk_MO nn_MO hown hK hP hD hS 0 rfl rfl 49 (by decide) (hG _ k_1240) (fun _ h9 => h9) rfl (by decide +kernel) rfl rfl (Nat.le_of_ble_eq_true rfl) d_MO_printed_114 (fun H locs hP hD hS => ?_)
    have hP : va_P D classes [(h0, .inr (8, mS f tn rm ln lx at_ bd fs dp on os bn df th 0 mo_ ev ss so x y 2 ot cl)), ((f 29), .inl (cI, 200, .inl lts))] H := hP
    have hD : va_D A [(h0, .inr (8, mS f tn rm ln lx at_ bd fs dp on os bn df th 0 mo_ ev ss so x y 2 ot cl)), ((f 29), .inl (cI, 200, .inl lts))] := hD
    refine lv_goto (tgt := 180) hx hb d_MO_printed_117 (by decide) ?_
    exact em_vret hx hb hr hlocks hP hD hK hS (0, x, so, ss, y, 2, ot, lts) [0, 1] (by decide) rfl ⟨rfl, ⟨(show 0 = 0 from rfl), (show okh df Gc x from hx1), (show 2 = 2 → okh df Gc y from (fun _ => hy1)), (show ot ≤ ot + 12 from (by first | assumption | omega | exact Or.inl rfl)), (show (ss = ss + 1 ∨ (ss = ss ∧ ¬ so = 0 ∧ ot = ot) ∨ (ss = ss ∧ so = so ∧ 2 = 2 ∧ ¬ pt = 2 ∧ ot = ot)) from (Or.inr (Or.inr ⟨rfl, rfl, rfl, hb_1, rfl⟩)))⟩⟩ d_MO_printed_180
  · skip
    refine lv_iload hx hb d_MO_printed_48 (lv_at hl 0 rfl) ?_
    refine lv_if_ne (tgt := 59) hx hb d_MO_printed_50 (by decide) (fun hbr => absurd (by decide) hbr) (fun hbr => ?_)
    refine lv_aload_n hx hb d_MO_printed_53 rfl (lv_at hl 1 rfl) ?_
    refine lv_iconst (v := 2) hx hb d_MO_printed_54 (by decide) ?_
    refine va_put (D := D) (ci := 8) (v := .int 2) (ty := .int) (C := rn_MO) (T := fl_MO) (N := 55) hx hb hG in_MO tt_MO tk_MO nn_MO hown hK hP hD hS 0 rfl rfl 42 (by decide) (hG _ k_1233) (fun _ h9 => h9) rfl (by decide +kernel) rfl rfl (Nat.le_of_ble_eq_true rfl) d_MO_printed_55 (fun H locs hP hD hS => ?_)
    have hP : va_P D classes [(h0, .inr (8, mS f tn rm ln lx at_ bd fs dp on os bn df th 0 mo_ ev ss 2 v rs pt ot cl)), ((f 29), .inl (cI, 200, .inl lts))] H := hP
    have hD : va_D A [(h0, .inr (8, mS f tn rm ln lx at_ bd fs dp on os bn df th 0 mo_ ev ss 2 v rs pt ot cl)), ((f 29), .inl (cI, 200, .inl lts))] := hD
    exact em_vret hx hb hr hlocks hP hD hK hS (0, v, 2, ss, rs, pt, ot, lts) [0, 1] (by decide) rfl ⟨rfl, ⟨(show 0 = 0 from rfl), (show okh df Gc v from hv), (show pt = 2 → okh df Gc rs from hrs), (show ot ≤ ot + 12 from (by first | assumption | omega | exact Or.inl rfl)), (show (ss = ss + 1 ∨ (ss = ss ∧ ¬ 2 = 0 ∧ ot = ot) ∨ (ss = ss ∧ 2 = so ∧ pt = 2 ∧ ¬ pt = 2 ∧ ot = ot)) from (Or.inr (Or.inl ⟨rfl, by decide, rfl⟩)))⟩⟩ d_MO_printed_58
set_option maxHeartbeats 8000000 in
set_option maxRecDepth 100000 in
theorem mo_prt01 (l : Launch) (D : va_G) (cI cL cZ cC : ClassId) (f : Nat → Nat) (h0 : Nat) (tn : Int32) (rm : Nat) (ln : Nat) (lx : Nat) (at_ : Nat) (bd : Int32) (fs : Nat) (dp : Nat) (on : Nat) (os : Nat) (bn : Nat) (df : Nat) (th : Int32) (tp : Nat) (mo_ : Int32) (ev : Nat) (ss : Int32) (so : Int32) (lk : Int64) (rs : Int64) (pt : Int32) (ot : Nat) (cl : Int32) (lts : Nat → Int32) (Gc : Nat → Prop) (v : Int64) (x : Int64) (y : Int64) (sz : Nat) (hv : okh df Gc v) (hrs : pt = 2 → okh df Gc rs) (hot : ot + 12 < 2147483647) (hnt : l.stackTraces = false) : em_Met l y_MO_printed (wz y_MO_printed b_MO_printed 10 none) ({ frames := 2, cells := 0, slots := 0, locals := 41 }) (va_Pc [.ref h0, .long v, .int 0, .long x, .long y, .int 1] (tw_pre D (tys4 cI cL cZ cC) [(h0, .inr (8, mS f tn rm ln lx at_ bd fs dp on os bn df th tp mo_ ev ss so lk rs pt ot cl)), ((f 29), .inl (cI, 200, .inl lts))] sz)) D (tys4 cI cL cZ cC) (va_A [(h0, .inr (8, mS f tn rm ln lx at_ bd fs dp on os bn df th tp mo_ ev ss so lk rs pt ot cl)), ((f 29), .inl (cI, 200, .inl lts))] sz) (fun (u : Nat × Int64 × Int32 × Int32 × Int64 × Int32 × Nat × (Nat → Int32)) => [(h0, .inr (8, mS f tn rm ln lx at_ bd fs dp on os bn df th u.1 mo_ ev u.2.2.2.1 u.2.2.1 u.2.1 u.2.2.2.2.1 u.2.2.2.2.2.1 u.2.2.2.2.2.2.1 cl)), ((f 29), .inl (cI, 200, .inl u.2.2.2.2.2.2.2))]) (fun v (u : Nat × Int64 × Int32 × Int32 × Int64 × Int32 × Nat × (Nat → Int32)) => v = none ∧ ((u.1 = 0) ∧ (okh df Gc u.2.1) ∧ (u.2.2.2.2.2.1 = 2 → okh df Gc u.2.2.2.2.1) ∧ (u.2.2.2.2.2.2.1 ≤ ot + 12) ∧ ((u.2.2.2.1 = ss + 1 ∨ (u.2.2.2.1 = ss ∧ ¬ u.2.2.1 = 0 ∧ u.2.2.2.2.2.2.1 = ot) ∨ (u.2.2.2.1 = ss ∧ u.2.2.1 = so ∧ u.2.2.2.2.2.1 = 2 ∧ ¬ pt = 2 ∧ u.2.2.2.2.2.2.1 = ot))))) (fun C (u : Nat × Int64 × Int32 × Int32 × Int64 × Int32 × Nat × (Nat → Int32)) => False) 0 0 := by
  refine em_Met.ofW (cc := b_MO_printed) (maxL := 10) (ret := none) (by decide) rfl ?_
  intro p e s m args below meth c s₁ B hml hv hno
  obtain ⟨rfl, ⟨hsz, hP, hK, hD0⟩, hE⟩ := hv
  have hx := B.exec
  have hb := B.bytes
  have hr := B.returns
  have hts := atoms_spec (ws := wz y_MO_printed b_MO_printed 10 none) B.pre
  have hG := wz_G hts
  have hown : s.vm.findClass rn_MO = some m.cls := findClass_of_methodNamed B.named
  have hlocks := B.notSynchronized
  subst hsz
  have hD := hD0.self (sz := s.heap.size)
  have hst := tw_st hP
  generalize hAe : va_A [(h0, .inr (8, mS f tn rm ln lx at_ bd fs dp on os bn df th tp mo_ ev ss so lk rs pt ot cl)), ((f 29), .inl (cI, 200, .inl lts))] s.heap.size = A at hD hst ⊢
  have hA : ∀ q : Nat, s.heap.size ≤ q → A q := fun q h => by rw [← hAe]; exact Or.inr h
  have hS : va_S A s.heap s.heap [] := va_S.rf
  have hl := lv_entry ([.ref h0, .long v, .int 0, .long x, .long y, .int 1]) (n := 10) (Nat.le_of_ble_eq_true rfl)
  rw [lg_entry_eq]
  generalize (lg_sl ([.ref h0, .long v, .int 0, .long x, .long y, .int 1]) ++ List.replicate (10 - (lg_sl ([.ref h0, .long v, .int 0, .long x, .long y, .int 1])).length) Slot.unset).toArray = ls at hl ⊢
  have hl : lv_has ls 10 [(0, .ref h0), (1, .long v), (3, .int 0), (4, .long x), (6, .long y), (8, .int 1)] := hl
  refine lv_aload_n hx hb d_MO_printed_0 rfl (lv_at hl 0 rfl) ?_
  refine lv_iconst (v := 0) hx hb d_MO_printed_1 (by decide) ?_
  refine va_put (D := D) (ci := 8) (v := .int 0) (ty := .int) (C := rn_MO) (T := fl_MO) (N := 55) hx hb hG in_MO tt_MO tk_MO nn_MO hown hK hP hD hS 0 rfl rfl 38 (by decide) (hG _ k_1229) (fun _ h9 => h9) rfl (by decide +kernel) rfl rfl (Nat.le_of_ble_eq_true rfl) d_MO_printed_2 (fun H locs hP hD hS => ?_)
  have hP : va_P D classes [(h0, .inr (8, mS f tn rm ln lx at_ bd fs dp on os bn df th 0 mo_ ev ss so lk rs pt ot cl)), ((f 29), .inl (cI, 200, .inl lts))] H := hP
  have hD : va_D A [(h0, .inr (8, mS f tn rm ln lx at_ bd fs dp on os bn df th 0 mo_ ev ss so lk rs pt ot cl)), ((f 29), .inl (cI, 200, .inl lts))] := hD
  refine lv_aload_n hx hb d_MO_printed_5 rfl (lv_at hl 0 rfl) ?_
  refine lv_lload_n hx hb d_MO_printed_6 rfl (lv_at hl 1 rfl) ?_
  refine va_put (D := D) (ci := 8) (v := .long v) (ty := .long) (C := rn_MO) (T := fl_MO) (N := 55) hx hb hG in_MO tt_MO tk_MO nn_MO hown hK hP hD hS 0 rfl rfl 47 (by decide) (hG _ k_1238) (fun _ h9 => h9) rfl (by decide +kernel) rfl rfl (Nat.le_of_ble_eq_true rfl) d_MO_printed_7 (fun H locs hP hD hS => ?_)
  have hP : va_P D classes [(h0, .inr (8, mS f tn rm ln lx at_ bd fs dp on os bn df th 0 mo_ ev ss so v rs pt ot cl)), ((f 29), .inl (cI, 200, .inl lts))] H := hP
  have hD : va_D A [(h0, .inr (8, mS f tn rm ln lx at_ bd fs dp on os bn df th 0 mo_ ev ss so v rs pt ot cl)), ((f 29), .inl (cI, 200, .inl lts))] := hD
  refine lv_iload_n hx hb d_MO_printed_10 rfl (lv_at hl 2 rfl) ?_
  refine lv_if_ne (tgt := 37) hx hb d_MO_printed_11 (by decide) (fun hbr => absurd (by decide) hbr) (fun hbr => ?_)
  refine lv_iload hx hb d_MO_printed_14 (lv_at hl 5 rfl) ?_
  refine lv_if_ne (tgt := 37) hx hb d_MO_printed_16 (by decide) (fun hbr => ?_) (fun hbr => absurd hbr (by decide))
  refine lv_iconst (v := 0) hx hb d_MO_printed_37 (by decide) ?_
  refine lv_istore (lv' := [(9, .int 0), (0, .ref h0), (1, .long v), (3, .int 0), (4, .long x), (6, .long y), (8, .int 1)]) hx hb d_MO_printed_38 hl (Nat.le_of_ble_eq_true rfl) rfl (fun ls hl => ?_)
  refine lv_aload_n hx hb d_MO_printed_40 rfl (lv_at hl 1 rfl) ?_
  refine va_get (D := D) (ci := 8) (v := .int pt) (C := rn_MO) (T := fl_MO) (N := 55) hx hb hG in_MO hown hK hP 0 rfl rfl 49 (by decide) (hG _ k_1240) (fun _ h9 => h9) rfl d_MO_printed_41 ?_
  refine lv_iconst (v := 2) hx hb d_MO_printed_44 (by decide) ?_
  refine lv_icmp_ne (tgt := 96) hx hb d_MO_printed_45 (by decide) (fun hb_1 => ?_) (fun hb_1 => ?_)
  · skip
    refine lv_iload_n hx hb d_MO_printed_96 rfl (lv_at hl 3 rfl) ?_
    refine lv_if_eq (tgt := 120) hx hb d_MO_printed_97 (by decide) (fun hbr => ?_) (fun hbr => absurd (by decide) hbr)
    refine lv_iload hx hb d_MO_printed_120 (lv_at hl 0 rfl) ?_
    refine lv_if_eq (tgt := 132) hx hb d_MO_printed_122 (by decide) (fun hbr => ?_) (fun hbr => absurd (by decide) hbr)
    refine lv_lload_n hx hb d_MO_printed_132 rfl (lv_at hl 2 rfl) ?_
    refine lv_bipush (v := 17) hx hb d_MO_printed_133 (by decide) ?_
    refine W.callRL (W.runS (As := [.int 17]) (rest := [.long v]) ⟨hx, hb, hml, hown, hG⟩ (mo_constant l D cI cL cZ cC 17 ) (cwS 1 hG (gd_S k_1461 k_1462 k_116 k_1463) rfl rfl rfl (by decide +kernel) ⟨Nat.le_of_ble_eq_true rfl, Nat.le_of_ble_eq_true rfl⟩) (wq_S hP hK [] rfl) rfl rfl hl.1 rfl (lv_room (Nat.le_of_ble_eq_true rfl)) d_MO_printed_135 ⟨Nat.le_of_ble_eq_true rfl, Nat.le_of_ble_eq_true rfl⟩) ?_
    refine W.eq (g2 := F0 m 138 ls [.long (wof 2 17), .long v]) rfl ?_
    refine W.lcmp hx hb d_MO_printed_138 ?_
    refine lv_if_ne (tgt := 175) hx hb d_MO_printed_139 (by decide) (fun hb_2 => ?_) (fun hb_2 => ?_)
    · skip
      have hq_3 : ¬ _ := fun h => hb_2 ((lg_cmp_eq _ _).mpr h)
      refine lv_aload_n hx hb d_MO_printed_175 rfl (lv_at hl 1 rfl) ?_
      refine lv_iconst (v := 2) hx hb d_MO_printed_176 (by decide) ?_
      refine va_put (D := D) (ci := 8) (v := .int 2) (ty := .int) (C := rn_MO) (T := fl_MO) (N := 55) hx hb hG in_MO tt_MO tk_MO nn_MO hown hK hP hD hS 0 rfl rfl 42 (by decide) (hG _ k_1233) (fun _ h9 => h9) rfl (by decide +kernel) rfl rfl (Nat.le_of_ble_eq_true rfl) d_MO_printed_177 (fun H locs hP hD hS => ?_)
      have hP : va_P D classes [(h0, .inr (8, mS f tn rm ln lx at_ bd fs dp on os bn df th 0 mo_ ev ss 2 v rs pt ot cl)), ((f 29), .inl (cI, 200, .inl lts))] H := hP
      have hD : va_D A [(h0, .inr (8, mS f tn rm ln lx at_ bd fs dp on os bn df th 0 mo_ ev ss 2 v rs pt ot cl)), ((f 29), .inl (cI, 200, .inl lts))] := hD
      exact em_vret hx hb hr hlocks hP hD hK hS (0, v, 2, ss, rs, pt, ot, lts) [0, 1] (by decide) rfl ⟨rfl, ⟨(show 0 = 0 from rfl), (show okh df Gc v from hv), (show pt = 2 → okh df Gc rs from hrs), (show ot ≤ ot + 12 from (by first | assumption | omega | exact Or.inl rfl)), (show (ss = ss + 1 ∨ (ss = ss ∧ ¬ 2 = 0 ∧ ot = ot) ∨ (ss = ss ∧ 2 = so ∧ pt = 2 ∧ ¬ pt = 2 ∧ ot = ot)) from (Or.inr (Or.inl ⟨rfl, by decide, rfl⟩)))⟩⟩ d_MO_printed_180
    · skip
      have hq_4 := (lg_cmp_eq _ _).mp hb_2
      refine lv_iload hx hb d_MO_printed_142 (lv_at hl 6 rfl) ?_
      refine lv_if_ne (tgt := 175) hx hb d_MO_printed_144 (by decide) (fun hbr => ?_) (fun hbr => absurd hbr (by decide))
      refine lv_aload_n hx hb d_MO_printed_175 rfl (lv_at hl 1 rfl) ?_
      refine lv_iconst (v := 2) hx hb d_MO_printed_176 (by decide) ?_
      refine va_put (D := D) (ci := 8) (v := .int 2) (ty := .int) (C := rn_MO) (T := fl_MO) (N := 55) hx hb hG in_MO tt_MO tk_MO nn_MO hown hK hP hD hS 0 rfl rfl 42 (by decide) (hG _ k_1233) (fun _ h9 => h9) rfl (by decide +kernel) rfl rfl (Nat.le_of_ble_eq_true rfl) d_MO_printed_177 (fun H locs hP hD hS => ?_)
      have hP : va_P D classes [(h0, .inr (8, mS f tn rm ln lx at_ bd fs dp on os bn df th 0 mo_ ev ss 2 v rs pt ot cl)), ((f 29), .inl (cI, 200, .inl lts))] H := hP
      have hD : va_D A [(h0, .inr (8, mS f tn rm ln lx at_ bd fs dp on os bn df th 0 mo_ ev ss 2 v rs pt ot cl)), ((f 29), .inl (cI, 200, .inl lts))] := hD
      exact em_vret hx hb hr hlocks hP hD hK hS (0, v, 2, ss, rs, pt, ot, lts) [0, 1] (by decide) rfl ⟨rfl, ⟨(show 0 = 0 from rfl), (show okh df Gc v from hv), (show pt = 2 → okh df Gc rs from hrs), (show ot ≤ ot + 12 from (by first | assumption | omega | exact Or.inl rfl)), (show (ss = ss + 1 ∨ (ss = ss ∧ ¬ 2 = 0 ∧ ot = ot) ∨ (ss = ss ∧ 2 = so ∧ pt = 2 ∧ ¬ pt = 2 ∧ ot = ot)) from (Or.inr (Or.inl ⟨rfl, by decide, rfl⟩)))⟩⟩ d_MO_printed_180
  · skip
    refine lv_iload hx hb d_MO_printed_48 (lv_at hl 0 rfl) ?_
    refine lv_if_ne (tgt := 59) hx hb d_MO_printed_50 (by decide) (fun hbr => absurd (by decide) hbr) (fun hbr => ?_)
    refine lv_aload_n hx hb d_MO_printed_53 rfl (lv_at hl 1 rfl) ?_
    refine lv_iconst (v := 2) hx hb d_MO_printed_54 (by decide) ?_
    refine va_put (D := D) (ci := 8) (v := .int 2) (ty := .int) (C := rn_MO) (T := fl_MO) (N := 55) hx hb hG in_MO tt_MO tk_MO nn_MO hown hK hP hD hS 0 rfl rfl 42 (by decide) (hG _ k_1233) (fun _ h9 => h9) rfl (by decide +kernel) rfl rfl (Nat.le_of_ble_eq_true rfl) d_MO_printed_55 (fun H locs hP hD hS => ?_)
    have hP : va_P D classes [(h0, .inr (8, mS f tn rm ln lx at_ bd fs dp on os bn df th 0 mo_ ev ss 2 v rs pt ot cl)), ((f 29), .inl (cI, 200, .inl lts))] H := hP
    have hD : va_D A [(h0, .inr (8, mS f tn rm ln lx at_ bd fs dp on os bn df th 0 mo_ ev ss 2 v rs pt ot cl)), ((f 29), .inl (cI, 200, .inl lts))] := hD
    exact em_vret hx hb hr hlocks hP hD hK hS (0, v, 2, ss, rs, pt, ot, lts) [0, 1] (by decide) rfl ⟨rfl, ⟨(show 0 = 0 from rfl), (show okh df Gc v from hv), (show pt = 2 → okh df Gc rs from hrs), (show ot ≤ ot + 12 from (by first | assumption | omega | exact Or.inl rfl)), (show (ss = ss + 1 ∨ (ss = ss ∧ ¬ 2 = 0 ∧ ot = ot) ∨ (ss = ss ∧ 2 = so ∧ pt = 2 ∧ ¬ pt = 2 ∧ ot = ot)) from (Or.inr (Or.inl ⟨rfl, by decide, rfl⟩)))⟩⟩ d_MO_printed_58
set_option maxHeartbeats 8000000 in
set_option maxRecDepth 100000 in
theorem mo_val00 (l : Launch) (D : va_G) (cI cL cZ cC : ClassId) (f : Nat → Nat) (h0 : Nat) (tn : Int32) (rm : Nat) (ln : Nat) (lx : Nat) (at_ : Nat) (bd : Int32) (fs : Nat) (dp : Nat) (on : Nat) (os : Nat) (bn : Nat) (df : Nat) (th : Int32) (tp : Nat) (mo_ : Int32) (ev : Nat) (ss : Int32) (so : Int32) (lk : Int64) (rs : Int64) (pt : Int32) (ot : Nat) (cl : Int32) (one : Nat → Int64) (two : Nat → Int64) (bss : Nat → Int32) (wts : Nat → Int32) (snd : Nat → Int32) (nbr : Nat → Int32) (lts : Nat → Int32) (spn : Nat → Int32) (trm : Nat → Int64) (Gc : Nat → Prop) (mb : Nat) (sz : Nat) (hsnd : bln snd) (hMI : MI df Gc trm one two spn tp lk rs pt) (hev2 : ev ≤ 40) (hm1 : mb ≤ tp) (hm2 : ev = 0 → mb = 0) (hm3 : 1 ≤ ev → bss (ev - 1) = nI mb) (hm4 : me bss wts ev mb 0) (hot : ot + 12 < 2147483647) (hnt : l.stackTraces = false) : em_Met l y_MO_value (wz y_MO_value b_MO_value 7 none) ({ frames := 4, cells := 0, slots := 0, locals := 99 }) (va_Pc [.ref h0, .int 0, .int 0] (tw_pre D (tys4 cI cL cZ cC) [(h0, .inr (8, mS f tn rm ln lx at_ bd fs dp on os bn df th tp mo_ ev ss so lk rs pt ot cl)), ((f 20), .inl (cL, 400, .inr (.inl one))), ((f 21), .inl (cL, 400, .inr (.inl two))), ((f 25), .inl (cI, 41, .inl bss)), ((f 26), .inl (cI, 41, .inl wts)), ((f 27), .inl (cZ, 41, .inl snd)), ((f 28), .inl (cI, 41, .inl nbr)), ((f 29), .inl (cI, 200, .inl lts)), ((f 24), .inl (cI, 150, .inl spn)), ((f 18), .inl (cL, 9, .inr (.inl trm)))] sz)) D (tys4 cI cL cZ cC) (va_A [(h0, .inr (8, mS f tn rm ln lx at_ bd fs dp on os bn df th tp mo_ ev ss so lk rs pt ot cl)), ((f 20), .inl (cL, 400, .inr (.inl one))), ((f 21), .inl (cL, 400, .inr (.inl two))), ((f 25), .inl (cI, 41, .inl bss)), ((f 26), .inl (cI, 41, .inl wts)), ((f 27), .inl (cZ, 41, .inl snd)), ((f 28), .inl (cI, 41, .inl nbr)), ((f 29), .inl (cI, 200, .inl lts)), ((f 24), .inl (cI, 150, .inl spn)), ((f 18), .inl (cL, 9, .inr (.inl trm)))] sz) (fun (u : Nat × Nat × Int64 × Int32 × Int32 × Int64 × Int32 × Nat × (Nat → Int64) × (Nat → Int64) × (Nat → Int32) × (Nat → Int32) × (Nat → Int32) × (Nat → Int32) × (Nat → Int32)) => [(h0, .inr (8, mS f tn rm ln lx at_ bd fs dp on os bn df th u.2.1 mo_ u.1 u.2.2.2.1 u.2.2.2.2.1 u.2.2.1 u.2.2.2.2.2.1 u.2.2.2.2.2.2.1 u.2.2.2.2.2.2.2.1 cl)), ((f 20), .inl (cL, 400, .inr (.inl u.2.2.2.2.2.2.2.2.1))), ((f 21), .inl (cL, 400, .inr (.inl u.2.2.2.2.2.2.2.2.2.1))), ((f 25), .inl (cI, 41, .inl u.2.2.2.2.2.2.2.2.2.2.1)), ((f 26), .inl (cI, 41, .inl u.2.2.2.2.2.2.2.2.2.2.2.1)), ((f 27), .inl (cZ, 41, .inl u.2.2.2.2.2.2.2.2.2.2.2.2.1)), ((f 28), .inl (cI, 41, .inl u.2.2.2.2.2.2.2.2.2.2.2.2.2.1)), ((f 29), .inl (cI, 200, .inl u.2.2.2.2.2.2.2.2.2.2.2.2.2.2)), ((f 24), .inl (cI, 150, .inl spn)), ((f 18), .inl (cL, 9, .inr (.inl trm)))]) (fun v (u : Nat × Nat × Int64 × Int32 × Int32 × Int64 × Int32 × Nat × (Nat → Int64) × (Nat → Int64) × (Nat → Int32) × (Nat → Int32) × (Nat → Int32) × (Nat → Int32) × (Nat → Int32)) => v = none ∧ ((bln u.2.2.2.2.2.2.2.2.2.2.2.2.1) ∧ (MI df Gc trm u.2.2.2.2.2.2.2.2.1 u.2.2.2.2.2.2.2.2.2.1 spn u.2.1 u.2.2.1 u.2.2.2.2.2.1 u.2.2.2.2.2.2.1) ∧ (u.1 ≤ 40) ∧ (me u.2.2.2.2.2.2.2.2.2.2.1 u.2.2.2.2.2.2.2.2.2.2.2.1 u.1 u.2.1 0) ∧ (u.2.2.2.2.2.2.2.1 ≤ ot + 12) ∧ ((u.2.2.2.1 = ss + 1 ∨ (u.2.2.2.1 = ss ∧ ¬ u.2.2.2.2.1 = 0 ∧ u.2.2.2.2.2.2.2.1 = ot) ∨ (u.2.2.2.1 = ss ∧ u.2.2.2.2.1 = so ∧ u.2.2.2.2.2.2.2.1 = ot ∧ ms u.2.2.2.2.2.2.1 u.1 u.2.2.2.2.2.2.2.2.2.2.2.2.1 u.2.1 < ms pt ev snd tp))))) (fun C (u : Nat × Nat × Int64 × Int32 × Int32 × Int64 × Int32 × Nat × (Nat → Int64) × (Nat → Int64) × (Nat → Int32) × (Nat → Int32) × (Nat → Int32) × (Nat → Int32) × (Nat → Int32)) => False) 0 0 := by
  refine em_Met.ofW (cc := b_MO_value) (maxL := 7) (ret := none) (by decide) rfl ?_
  intro p e s m args below meth c s₁ B hml hv hno
  obtain ⟨rfl, ⟨hsz, hP, hK, hD0⟩, hE⟩ := hv
  have hx := B.exec
  have hb := B.bytes
  have hr := B.returns
  have hts := atoms_spec (ws := wz y_MO_value b_MO_value 7 none) B.pre
  have hG := wz_G hts
  have hown : s.vm.findClass rn_MO = some m.cls := findClass_of_methodNamed B.named
  have hlocks := B.notSynchronized
  subst hsz
  have hD := hD0.self (sz := s.heap.size)
  have hst := tw_st hP
  generalize hAe : va_A [(h0, .inr (8, mS f tn rm ln lx at_ bd fs dp on os bn df th tp mo_ ev ss so lk rs pt ot cl)), ((f 20), .inl (cL, 400, .inr (.inl one))), ((f 21), .inl (cL, 400, .inr (.inl two))), ((f 25), .inl (cI, 41, .inl bss)), ((f 26), .inl (cI, 41, .inl wts)), ((f 27), .inl (cZ, 41, .inl snd)), ((f 28), .inl (cI, 41, .inl nbr)), ((f 29), .inl (cI, 200, .inl lts)), ((f 24), .inl (cI, 150, .inl spn)), ((f 18), .inl (cL, 9, .inr (.inl trm)))] s.heap.size = A at hD hst ⊢
  have hA : ∀ q : Nat, s.heap.size ≤ q → A q := fun q h => by rw [← hAe]; exact Or.inr h
  have hS : va_S A s.heap s.heap [] := va_S.rf
  have hl := lv_entry ([.ref h0, .int 0, .int 0]) (n := 7) (Nat.le_of_ble_eq_true rfl)
  rw [lg_entry_eq]
  generalize (lg_sl ([.ref h0, .int 0, .int 0]) ++ List.replicate (7 - (lg_sl ([.ref h0, .int 0, .int 0])).length) Slot.unset).toArray = ls at hl ⊢
  have hl : lv_has ls 7 [(0, .ref h0), (1, .int 0), (2, .int 0)] := hl
  obtain ⟨hHG, hlk, hrs, htp, hsp⟩ := id hMI
  refine lv_iload_n hx hb d_MO_value_0 rfl (lv_at hl 1 rfl) ?_
  refine lv_if_eq (tgt := 12) hx hb d_MO_value_1 (by decide) (fun hbr => ?_) (fun hbr => absurd (by decide) hbr)
  refine lv_lconst (v := 0) hx hb d_MO_value_12 (by decide) ?_
  refine lv_lstore_n (lv' := [(3, .long 0), (0, .ref h0), (1, .int 0), (2, .int 0)]) hx hb d_MO_value_13 rfl hl (Nat.le_of_ble_eq_true rfl) rfl (fun ls hl => ?_)
  refine lv_iload_n hx hb d_MO_value_14 rfl (lv_at hl 2 rfl) ?_
  refine lv_if_eq (tgt := 26) hx hb d_MO_value_15 (by decide) (fun hbr => ?_) (fun hbr => absurd (by decide) hbr)
  refine lv_lconst (v := 0) hx hb d_MO_value_26 (by decide) ?_
  refine lv_lstore (lv' := [(5, .long 0), (3, .long 0), (0, .ref h0), (1, .int 0), (2, .int 0)]) hx hb d_MO_value_27 hl (Nat.le_of_ble_eq_true rfl) rfl (fun ls hl => ?_)
  refine lv_aload_n hx hb d_MO_value_29 rfl (lv_at hl 2 rfl) ?_
  refine va_get (D := D) (ci := 8) (v := .int (nI ev)) (C := rn_MO) (T := fl_MO) (N := 55) hx hb hG in_MO hown hK hP 0 rfl rfl 40 (by decide) (hG _ k_1231) (fun _ h9 => h9) rfl d_MO_value_30 ?_
  refine lv_if_le (tgt := 52) hx hb d_MO_value_33 (by decide) (fun hb_1 => ?_) (fun hb_1 => ?_)
  · skip
    have hn_2 : ev ≤ 0 := (nI_leI (a := ev) (b := 0) (by omega) (by omega)).mp hb_1
    refine lv_aload_n hx hb d_MO_value_52 rfl (lv_at hl 2 rfl) ?_
    refine lv_aload_n hx hb d_MO_value_53 rfl (lv_at hl 2 rfl) ?_
    refine va_get (D := D) (ci := 8) (v := .long lk) (C := rn_MO) (T := fl_MO) (N := 55) hx hb hG in_MO hown hK hP 0 rfl rfl 47 (by decide) (hG _ k_1238) (fun _ h9 => h9) rfl d_MO_value_54 ?_
    refine lv_iload_n hx hb d_MO_value_57 rfl (lv_at hl 3 rfl) ?_
    refine lv_lload_n hx hb d_MO_value_58 rfl (lv_at hl 1 rfl) ?_
    refine lv_lload hx hb d_MO_value_59 (lv_at hl 0 rfl) ?_
    refine lv_iload_n hx hb d_MO_value_61 rfl (lv_at hl 4 rfl) ?_
    refine em_call (wr := [((f 20), .inl (cL, 400, .inr (.inl one))), ((f 21), .inl (cL, 400, .inr (.inl two))), ((f 25), .inl (cI, 41, .inl bss)), ((f 26), .inl (cI, 41, .inl wts)), ((f 27), .inl (cZ, 41, .inl snd)), ((f 28), .inl (cI, 41, .inl nbr)), ((f 24), .inl (cI, 150, .inl spn)), ((f 18), .inl (cL, 9, .inr (.inl trm)))]) (em_runV (As := [.long lk, .int 0, .long 0, .long 0, .int 0]) (rest := []) ⟨hx, hb, hml, hown, hG⟩ (mo_prt00 l D cI cL cZ cC f h0 tn rm ln lx at_ bd fs dp on os bn df th tp mo_ ev ss so lk rs pt ot cl lts Gc lk 0 0 _ hlk hrs hot hnt) (cwV 5 hG (gd_V k_1604 k_1606 k_97 k_116 k_1607) rfl rfl rfl (by decide +kernel) ⟨Nat.le_of_ble_eq_true rfl, Nat.le_of_ble_eq_true rfl⟩) (tw_V (q0 := 0) hP hD hK hE hst hS rfl rfl [0, 7] rfl (by decide)) rfl rfl hl.1 rfl (lv_room (Nat.le_of_ble_eq_true rfl)) d_MO_value_62 ⟨Nat.le_of_ble_eq_true rfl, Nat.le_of_ble_eq_true rfl⟩) hP hD hS hA [0, 7] [1, 2, 3, 4, 5, 6, 8, 9] rfl rfl (by decide) (by decide) (fun v u H locs hok hP hD hS => ?_) (fun x C u H locs hbad hxx hP hD hS => ?_)
    · skip
      obtain ⟨tp_3, lk_4, so_5, ss_6, rs_7, pt_8, ot_9, lts_10⟩ := u
      obtain ⟨rfl, hp_12⟩ := hok
      obtain ⟨htp_13, hlk_14, hrs_15, hot_16, hPp_17⟩ : (tp_3 = 0) ∧ (okh df Gc lk_4) ∧ (pt_8 = 2 → okh df Gc rs_7) ∧ (ot_9 ≤ ot + 12) ∧ ((ss_6 = ss + 1 ∨ (ss_6 = ss ∧ ¬ so_5 = 0 ∧ ot_9 = ot) ∨ (ss_6 = ss ∧ so_5 = so ∧ pt_8 = 2 ∧ ¬ pt = 2 ∧ ot_9 = ot))) := hp_12
      have hP : va_P D classes [((f 20), .inl (cL, 400, .inr (.inl one))), ((f 21), .inl (cL, 400, .inr (.inl two))), ((f 25), .inl (cI, 41, .inl bss)), ((f 26), .inl (cI, 41, .inl wts)), ((f 27), .inl (cZ, 41, .inl snd)), ((f 28), .inl (cI, 41, .inl nbr)), ((f 24), .inl (cI, 150, .inl spn)), ((f 18), .inl (cL, 9, .inr (.inl trm))), (h0, .inr (8, mS f tn rm ln lx at_ bd fs dp on os bn df th tp_3 mo_ ev ss_6 so_5 lk_4 rs_7 pt_8 ot_9 cl)), ((f 29), .inl (cI, 200, .inl lts_10))] H := hP
      have hD : va_D A [((f 20), .inl (cL, 400, .inr (.inl one))), ((f 21), .inl (cL, 400, .inr (.inl two))), ((f 25), .inl (cI, 41, .inl bss)), ((f 26), .inl (cI, 41, .inl wts)), ((f 27), .inl (cZ, 41, .inl snd)), ((f 28), .inl (cI, 41, .inl nbr)), ((f 24), .inl (cI, 150, .inl spn)), ((f 18), .inl (cL, 9, .inr (.inl trm))), (h0, .inr (8, mS f tn rm ln lx at_ bd fs dp on os bn df th tp_3 mo_ ev ss_6 so_5 lk_4 rs_7 pt_8 ot_9 cl)), ((f 29), .inl (cI, 200, .inl lts_10))] := hD
      refine W.eq (g2 := F0 m 65 ls []) rfl ?_
      exact em_vret hx hb hr hlocks hP hD hK hS (ev, tp_3, lk_4, ss_6, so_5, rs_7, pt_8, ot_9, one, two, bss, wts, snd, nbr, lts_10) [8, 0, 1, 2, 3, 4, 5, 9, 6, 7] (by decide) rfl ⟨rfl, ⟨hsnd, (show MI df Gc trm one two spn tp_3 lk_4 rs_7 pt_8 from ⟨hHG, hlk_14, hrs_15, by omega, fun k hk => absurd hk (by omega)⟩), (show ev ≤ 40 from (by first | assumption | omega | exact Or.inl rfl)), (show me bss wts ev tp_3 0 from (by rw [htp_13]; have e0 : ev = 0 := (by omega); rw [e0]; exact me.zero)), (show ot_9 ≤ ot + 12 from (by first | assumption | omega | exact Or.inl rfl)), (show (ss_6 = ss + 1 ∨ (ss_6 = ss ∧ ¬ so_5 = 0 ∧ ot_9 = ot) ∨ (ss_6 = ss ∧ so_5 = so ∧ ot_9 = ot ∧ ms pt_8 ev snd tp_3 < ms pt ev snd tp)) from (by rcases hPp_17 with q | q | ⟨q1, q2, q3, q4, q5⟩; exact Or.inl q; exact Or.inr (Or.inl q); exact Or.inr (Or.inr ⟨q1, q2, q5, by have w1 : ptn pt_8 = 0 := if_pos q3; have w2 : ptn pt = 1 := if_neg q4; unfold ms; omega⟩)))⟩⟩ d_MO_value_65
    · skip
      exact hbad.elim
  · skip
    have hn_19 : ¬ ev ≤ 0 := fun h => hb_1 ((nI_leI (a := ev) (b := 0) (by omega) (by omega)).mpr h)
    refine lv_aload_n hx hb d_MO_value_36 rfl (lv_at hl 2 rfl) ?_
    refine lv_aload_n hx hb d_MO_value_37 rfl (lv_at hl 2 rfl) ?_
    refine va_get (D := D) (ci := 8) (v := .long lk) (C := rn_MO) (T := fl_MO) (N := 55) hx hb hG in_MO hown hK hP 0 rfl rfl 47 (by decide) (hG _ k_1238) (fun _ h9 => h9) rfl d_MO_value_38 ?_
    refine lv_iload_n hx hb d_MO_value_41 rfl (lv_at hl 3 rfl) ?_
    refine lv_lload_n hx hb d_MO_value_42 rfl (lv_at hl 1 rfl) ?_
    refine lv_lload hx hb d_MO_value_43 (lv_at hl 0 rfl) ?_
    refine lv_iload_n hx hb d_MO_value_45 rfl (lv_at hl 4 rfl) ?_
    refine em_call (wr := [((f 29), .inl (cI, 200, .inl lts))]) (em_runV (As := [.long lk, .int 0, .long 0, .long 0, .int 0]) (rest := []) ⟨hx, hb, hml, hown, hG⟩ (mo_goes00 l D cI cL cZ cC f h0 tn rm ln lx at_ bd fs dp on os bn df th tp mo_ ev ss so lk rs pt ot cl one two bss wts snd nbr spn trm Gc mb lk 0 0 _ hsnd hMI hlk (by omega) hev2 hm1 (hm3 (by omega)) hm4 hnt) (cwV 5 hG (gd_V k_1585 k_1587 k_93 k_116 k_1588) rfl rfl rfl (by decide +kernel) ⟨Nat.le_of_ble_eq_true rfl, Nat.le_of_ble_eq_true rfl⟩) (tw_V (q0 := 0) hP hD hK hE hst hS rfl rfl [0, 1, 2, 3, 4, 5, 6, 8, 9] rfl (by decide)) rfl rfl hl.1 rfl (lv_room (Nat.le_of_ble_eq_true rfl)) d_MO_value_46 ⟨Nat.le_of_ble_eq_true rfl, Nat.le_of_ble_eq_true rfl⟩) hP hD hS hA [0, 1, 2, 3, 4, 5, 6, 8, 9] [7] rfl rfl (by decide) (by decide) (fun v u H locs hok hP hD hS => ?_) (fun x C u H locs hbad hxx hP hD hS => ?_)
    · skip
      obtain ⟨ev_20, tp_21, lk_22, ss_23, so_24, one_25, two_26, bss_27, wts_28, snd_29, nbr_30⟩ := u
      obtain ⟨rfl, hp_32⟩ := hok
      obtain ⟨hsnd_33, hMI_34, hev_35, hme_36, hP_37⟩ : (bln snd_29) ∧ (MI df Gc trm one_25 two_26 spn tp_21 lk_22 rs pt) ∧ (ev_20 ≤ 40) ∧ (me bss_27 wts_28 ev_20 tp_21 0) ∧ (((ss_23 = ss + 1 ∧ so_24 = so) ∨ (ss_23 = ss ∧ ¬ so_24 = 0) ∨ (ss_23 = ss ∧ so_24 = so ∧ ev_20 = ev ∧ fz snd_29 ev_20 + 1 = fz snd ev))) := hp_32
      have hP : va_P D classes [((f 29), .inl (cI, 200, .inl lts)), (h0, .inr (8, mS f tn rm ln lx at_ bd fs dp on os bn df th tp_21 mo_ ev_20 ss_23 so_24 lk_22 rs pt ot cl)), ((f 20), .inl (cL, 400, .inr (.inl one_25))), ((f 21), .inl (cL, 400, .inr (.inl two_26))), ((f 25), .inl (cI, 41, .inl bss_27)), ((f 26), .inl (cI, 41, .inl wts_28)), ((f 27), .inl (cZ, 41, .inl snd_29)), ((f 28), .inl (cI, 41, .inl nbr_30)), ((f 24), .inl (cI, 150, .inl spn)), ((f 18), .inl (cL, 9, .inr (.inl trm)))] H := hP
      have hD : va_D A [((f 29), .inl (cI, 200, .inl lts)), (h0, .inr (8, mS f tn rm ln lx at_ bd fs dp on os bn df th tp_21 mo_ ev_20 ss_23 so_24 lk_22 rs pt ot cl)), ((f 20), .inl (cL, 400, .inr (.inl one_25))), ((f 21), .inl (cL, 400, .inr (.inl two_26))), ((f 25), .inl (cI, 41, .inl bss_27)), ((f 26), .inl (cI, 41, .inl wts_28)), ((f 27), .inl (cZ, 41, .inl snd_29)), ((f 28), .inl (cI, 41, .inl nbr_30)), ((f 24), .inl (cI, 150, .inl spn)), ((f 18), .inl (cL, 9, .inr (.inl trm)))] := hD
      refine W.eq (g2 := F0 m 49 ls []) rfl ?_
      refine lv_goto (tgt := 65) hx hb d_MO_value_49 (by decide) ?_
      exact em_vret hx hb hr hlocks hP hD hK hS (ev_20, tp_21, lk_22, ss_23, so_24, rs, pt, ot, one_25, two_26, bss_27, wts_28, snd_29, nbr_30, lts) [1, 2, 3, 4, 5, 6, 7, 0, 8, 9] (by decide) rfl ⟨rfl, ⟨hsnd_33, (show MI df Gc trm one_25 two_26 spn tp_21 lk_22 rs pt from hMI_34), (show ev_20 ≤ 40 from (by first | assumption | omega | exact Or.inl rfl)), (show me bss_27 wts_28 ev_20 tp_21 0 from hme_36), (show ot ≤ ot + 12 from (by first | assumption | omega | exact Or.inl rfl)), (show (ss_23 = ss + 1 ∨ (ss_23 = ss ∧ ¬ so_24 = 0 ∧ ot = ot) ∨ (ss_23 = ss ∧ so_24 = so ∧ ot = ot ∧ ms pt ev_20 snd_29 tp_21 < ms pt ev snd tp)) from (by rcases hP_37 with ⟨q, _⟩ | ⟨q1, q2⟩ | ⟨q1, q2, q3, q4⟩; exact Or.inl q; exact Or.inr (Or.inl ⟨q1, q2, rfl⟩); exact Or.inr (Or.inr ⟨q1, q2, rfl, by unfold ms; omega⟩)))⟩⟩ d_MO_value_65
    · skip
      exact hbad.elim
set_option maxHeartbeats 8000000 in
set_option maxRecDepth 100000 in
theorem mo_val10 (l : Launch) (D : va_G) (cI cL cZ cC : ClassId) (f : Nat → Nat) (h0 : Nat) (tn : Int32) (rm : Nat) (ln : Nat) (lx : Nat) (at_ : Nat) (bd : Int32) (fs : Nat) (dp : Nat) (on : Nat) (os : Nat) (bn : Nat) (df : Nat) (th : Int32) (tp : Nat) (mo_ : Int32) (ev : Nat) (ss : Int32) (so : Int32) (lk : Int64) (rs : Int64) (pt : Int32) (ot : Nat) (cl : Int32) (one : Nat → Int64) (two : Nat → Int64) (bss : Nat → Int32) (wts : Nat → Int32) (snd : Nat → Int32) (nbr : Nat → Int32) (lts : Nat → Int32) (spn : Nat → Int32) (trm : Nat → Int64) (Gc : Nat → Prop) (mb : Nat) (sz : Nat) (hsnd : bln snd) (hMI : MI df Gc trm one two spn tp lk rs pt) (hev2 : ev ≤ 40) (hm1 : mb ≤ tp) (hm2 : ev = 0 → mb = 0) (hm3 : 1 ≤ ev → bss (ev - 1) = nI mb) (hm4 : me bss wts ev mb 0) (hot : ot + 12 < 2147483647) (hn2 : 2 ≤ tp) (hnt : l.stackTraces = false) : em_Met l y_MO_value (wz y_MO_value b_MO_value 7 none) ({ frames := 4, cells := 0, slots := 0, locals := 92 }) (va_Pc [.ref h0, .int 1, .int 0] (tw_pre D (tys4 cI cL cZ cC) [(h0, .inr (8, mS f tn rm ln lx at_ bd fs dp on os bn df th tp mo_ ev ss so lk rs pt ot cl)), ((f 20), .inl (cL, 400, .inr (.inl one))), ((f 21), .inl (cL, 400, .inr (.inl two))), ((f 25), .inl (cI, 41, .inl bss)), ((f 26), .inl (cI, 41, .inl wts)), ((f 27), .inl (cZ, 41, .inl snd)), ((f 28), .inl (cI, 41, .inl nbr)), ((f 29), .inl (cI, 200, .inl lts)), ((f 24), .inl (cI, 150, .inl spn)), ((f 18), .inl (cL, 9, .inr (.inl trm)))] sz)) D (tys4 cI cL cZ cC) (va_A [(h0, .inr (8, mS f tn rm ln lx at_ bd fs dp on os bn df th tp mo_ ev ss so lk rs pt ot cl)), ((f 20), .inl (cL, 400, .inr (.inl one))), ((f 21), .inl (cL, 400, .inr (.inl two))), ((f 25), .inl (cI, 41, .inl bss)), ((f 26), .inl (cI, 41, .inl wts)), ((f 27), .inl (cZ, 41, .inl snd)), ((f 28), .inl (cI, 41, .inl nbr)), ((f 29), .inl (cI, 200, .inl lts)), ((f 24), .inl (cI, 150, .inl spn)), ((f 18), .inl (cL, 9, .inr (.inl trm)))] sz) (fun (u : Nat × Nat × Int64 × Int32 × Int32 × Int64 × Int32 × Nat × (Nat → Int64) × (Nat → Int64) × (Nat → Int32) × (Nat → Int32) × (Nat → Int32) × (Nat → Int32) × (Nat → Int32)) => [(h0, .inr (8, mS f tn rm ln lx at_ bd fs dp on os bn df th u.2.1 mo_ u.1 u.2.2.2.1 u.2.2.2.2.1 u.2.2.1 u.2.2.2.2.2.1 u.2.2.2.2.2.2.1 u.2.2.2.2.2.2.2.1 cl)), ((f 20), .inl (cL, 400, .inr (.inl u.2.2.2.2.2.2.2.2.1))), ((f 21), .inl (cL, 400, .inr (.inl u.2.2.2.2.2.2.2.2.2.1))), ((f 25), .inl (cI, 41, .inl u.2.2.2.2.2.2.2.2.2.2.1)), ((f 26), .inl (cI, 41, .inl u.2.2.2.2.2.2.2.2.2.2.2.1)), ((f 27), .inl (cZ, 41, .inl u.2.2.2.2.2.2.2.2.2.2.2.2.1)), ((f 28), .inl (cI, 41, .inl u.2.2.2.2.2.2.2.2.2.2.2.2.2.1)), ((f 29), .inl (cI, 200, .inl u.2.2.2.2.2.2.2.2.2.2.2.2.2.2)), ((f 24), .inl (cI, 150, .inl spn)), ((f 18), .inl (cL, 9, .inr (.inl trm)))]) (fun v (u : Nat × Nat × Int64 × Int32 × Int32 × Int64 × Int32 × Nat × (Nat → Int64) × (Nat → Int64) × (Nat → Int32) × (Nat → Int32) × (Nat → Int32) × (Nat → Int32) × (Nat → Int32)) => v = none ∧ ((bln u.2.2.2.2.2.2.2.2.2.2.2.2.1) ∧ (MI df Gc trm u.2.2.2.2.2.2.2.2.1 u.2.2.2.2.2.2.2.2.2.1 spn u.2.1 u.2.2.1 u.2.2.2.2.2.1 u.2.2.2.2.2.2.1) ∧ (u.1 ≤ 40) ∧ (me u.2.2.2.2.2.2.2.2.2.2.1 u.2.2.2.2.2.2.2.2.2.2.2.1 u.1 u.2.1 0) ∧ (u.2.2.2.2.2.2.2.1 ≤ ot + 12) ∧ ((u.2.2.2.1 = ss + 1 ∨ (u.2.2.2.1 = ss ∧ ¬ u.2.2.2.2.1 = 0 ∧ u.2.2.2.2.2.2.2.1 = ot) ∨ (u.2.2.2.1 = ss ∧ u.2.2.2.2.1 = so ∧ u.2.2.2.2.2.2.2.1 = ot ∧ ms u.2.2.2.2.2.2.1 u.1 u.2.2.2.2.2.2.2.2.2.2.2.2.1 u.2.1 < ms pt ev snd tp))))) (fun C (u : Nat × Nat × Int64 × Int32 × Int32 × Int64 × Int32 × Nat × (Nat → Int64) × (Nat → Int64) × (Nat → Int32) × (Nat → Int32) × (Nat → Int32) × (Nat → Int32) × (Nat → Int32)) => False) 0 0 := by
  refine em_Met.ofW (cc := b_MO_value) (maxL := 7) (ret := none) (by decide) rfl ?_
  intro p e s m args below meth c s₁ B hml hv hno
  obtain ⟨rfl, ⟨hsz, hP, hK, hD0⟩, hE⟩ := hv
  have hx := B.exec
  have hb := B.bytes
  have hr := B.returns
  have hts := atoms_spec (ws := wz y_MO_value b_MO_value 7 none) B.pre
  have hG := wz_G hts
  have hown : s.vm.findClass rn_MO = some m.cls := findClass_of_methodNamed B.named
  have hlocks := B.notSynchronized
  subst hsz
  have hD := hD0.self (sz := s.heap.size)
  have hst := tw_st hP
  generalize hAe : va_A [(h0, .inr (8, mS f tn rm ln lx at_ bd fs dp on os bn df th tp mo_ ev ss so lk rs pt ot cl)), ((f 20), .inl (cL, 400, .inr (.inl one))), ((f 21), .inl (cL, 400, .inr (.inl two))), ((f 25), .inl (cI, 41, .inl bss)), ((f 26), .inl (cI, 41, .inl wts)), ((f 27), .inl (cZ, 41, .inl snd)), ((f 28), .inl (cI, 41, .inl nbr)), ((f 29), .inl (cI, 200, .inl lts)), ((f 24), .inl (cI, 150, .inl spn)), ((f 18), .inl (cL, 9, .inr (.inl trm)))] s.heap.size = A at hD hst ⊢
  have hA : ∀ q : Nat, s.heap.size ≤ q → A q := fun q h => by rw [← hAe]; exact Or.inr h
  have hS : va_S A s.heap s.heap [] := va_S.rf
  have hl := lv_entry ([.ref h0, .int 1, .int 0]) (n := 7) (Nat.le_of_ble_eq_true rfl)
  rw [lg_entry_eq]
  generalize (lg_sl ([.ref h0, .int 1, .int 0]) ++ List.replicate (7 - (lg_sl ([.ref h0, .int 1, .int 0])).length) Slot.unset).toArray = ls at hl ⊢
  have hl : lv_has ls 7 [(0, .ref h0), (1, .int 1), (2, .int 0)] := hl
  obtain ⟨hHG, hlk, hrs, htp, hsp⟩ := id hMI
  refine lv_iload_n hx hb d_MO_value_0 rfl (lv_at hl 1 rfl) ?_
  refine lv_if_eq (tgt := 12) hx hb d_MO_value_1 (by decide) (fun hbr => absurd hbr (by decide)) (fun hbr => ?_)
  refine lv_aload_n hx hb d_MO_value_4 rfl (lv_at hl 0 rfl) ?_
  refine lv_iconst (v := 0) hx hb d_MO_value_5 (by decide) ?_
  refine em_call (wr := [((f 25), .inl (cI, 41, .inl bss)), ((f 26), .inl (cI, 41, .inl wts)), ((f 27), .inl (cZ, 41, .inl snd)), ((f 28), .inl (cI, 41, .inl nbr)), ((f 29), .inl (cI, 200, .inl lts))]) (em_runV (As := [.int (nI 0)]) (rest := []) ⟨hx, hb, hml, hown, hG⟩ (mo_argument l D cI cL cZ cC f h0 tn rm ln lx at_ bd fs dp on os bn df th tp mo_ ev ss so lk rs pt ot cl two spn trm one Gc 0 _ (by omega) (by omega) hHG hsp hnt) (cwV 1 hG (gd_V k_1581 k_1583 k_92 k_116 k_1584) rfl rfl rfl (by decide +kernel) ⟨Nat.le_of_ble_eq_true rfl, Nat.le_of_ble_eq_true rfl⟩) (tw_V (q0 := 0) hP hD hK hE hst hS rfl rfl [0, 2, 8, 9, 1] rfl (by decide)) rfl rfl hl.1 rfl (lv_room (Nat.le_of_ble_eq_true rfl)) d_MO_value_6 ⟨Nat.le_of_ble_eq_true rfl, Nat.le_of_ble_eq_true rfl⟩) hP hD hS hA [0, 2, 8, 9, 1] [3, 4, 5, 6, 7] rfl rfl (by decide) (by decide) (fun v u H locs hok hP hD hS => ?_) (fun x C u H locs hbad hxx hP hD hS => ?_)
  · skip
    obtain ⟨r_1, rfl, hp_2⟩ := hok
    have hres_3 : (okh df Gc r_1) := hp_2
    have hP : va_P D classes [((f 25), .inl (cI, 41, .inl bss)), ((f 26), .inl (cI, 41, .inl wts)), ((f 27), .inl (cZ, 41, .inl snd)), ((f 28), .inl (cI, 41, .inl nbr)), ((f 29), .inl (cI, 200, .inl lts)), (h0, .inr (8, mS f tn rm ln lx at_ bd fs dp on os bn df th tp mo_ ev ss so lk rs pt ot cl)), ((f 21), .inl (cL, 400, .inr (.inl two))), ((f 24), .inl (cI, 150, .inl spn)), ((f 18), .inl (cL, 9, .inr (.inl trm))), ((f 20), .inl (cL, 400, .inr (.inl one)))] H := hP
    have hD : va_D A [((f 25), .inl (cI, 41, .inl bss)), ((f 26), .inl (cI, 41, .inl wts)), ((f 27), .inl (cZ, 41, .inl snd)), ((f 28), .inl (cI, 41, .inl nbr)), ((f 29), .inl (cI, 200, .inl lts)), (h0, .inr (8, mS f tn rm ln lx at_ bd fs dp on os bn df th tp mo_ ev ss so lk rs pt ot cl)), ((f 21), .inl (cL, 400, .inr (.inl two))), ((f 24), .inl (cI, 150, .inl spn)), ((f 18), .inl (cL, 9, .inr (.inl trm))), ((f 20), .inl (cL, 400, .inr (.inl one)))] := hD
    refine W.eq (g2 := F0 m 9 ls [.long r_1]) rfl ?_
    refine lv_goto (tgt := 13) hx hb d_MO_value_9 (by decide) ?_
    refine lv_lstore_n (lv' := [(3, .long r_1), (0, .ref h0), (1, .int 1), (2, .int 0)]) hx hb d_MO_value_13 rfl hl (Nat.le_of_ble_eq_true rfl) rfl (fun ls hl => ?_)
    refine lv_iload_n hx hb d_MO_value_14 rfl (lv_at hl 2 rfl) ?_
    refine lv_if_eq (tgt := 26) hx hb d_MO_value_15 (by decide) (fun hbr => absurd hbr (by decide)) (fun hbr => ?_)
    refine lv_aload_n hx hb d_MO_value_18 rfl (lv_at hl 1 rfl) ?_
    refine lv_iconst (v := 1) hx hb d_MO_value_19 (by decide) ?_
    refine em_call (wr := [((f 25), .inl (cI, 41, .inl bss)), ((f 26), .inl (cI, 41, .inl wts)), ((f 27), .inl (cZ, 41, .inl snd)), ((f 28), .inl (cI, 41, .inl nbr)), ((f 29), .inl (cI, 200, .inl lts))]) (em_runV (As := [.int (nI 1)]) (rest := []) ⟨hx, hb, hml, hown, hG⟩ (mo_argument l D cI cL cZ cC f h0 tn rm ln lx at_ bd fs dp on os bn df th tp mo_ ev ss so lk rs pt ot cl two spn trm one Gc 1 _ (by omega) (by omega) hHG hsp hnt) (cwV 1 hG (gd_V k_1581 k_1583 k_92 k_116 k_1584) rfl rfl rfl (by decide +kernel) ⟨Nat.le_of_ble_eq_true rfl, Nat.le_of_ble_eq_true rfl⟩) (tw_V (q0 := 5) hP hD hK hE hst hS rfl rfl [5, 6, 7, 8, 9] rfl (by decide)) rfl rfl hl.1 rfl (lv_room (Nat.le_of_ble_eq_true rfl)) d_MO_value_20 ⟨Nat.le_of_ble_eq_true rfl, Nat.le_of_ble_eq_true rfl⟩) hP hD hS hA [5, 6, 7, 8, 9] [0, 1, 2, 3, 4] rfl rfl (by decide) (by decide) (fun v u H locs hok hP hD hS => ?_) (fun x C u H locs hbad hxx hP hD hS => ?_)
    · skip
      obtain ⟨r_4, rfl, hp_5⟩ := hok
      have hres_6 : (okh df Gc r_4) := hp_5
      have hP : va_P D classes [((f 25), .inl (cI, 41, .inl bss)), ((f 26), .inl (cI, 41, .inl wts)), ((f 27), .inl (cZ, 41, .inl snd)), ((f 28), .inl (cI, 41, .inl nbr)), ((f 29), .inl (cI, 200, .inl lts)), (h0, .inr (8, mS f tn rm ln lx at_ bd fs dp on os bn df th tp mo_ ev ss so lk rs pt ot cl)), ((f 21), .inl (cL, 400, .inr (.inl two))), ((f 24), .inl (cI, 150, .inl spn)), ((f 18), .inl (cL, 9, .inr (.inl trm))), ((f 20), .inl (cL, 400, .inr (.inl one)))] H := hP
      have hD : va_D A [((f 25), .inl (cI, 41, .inl bss)), ((f 26), .inl (cI, 41, .inl wts)), ((f 27), .inl (cZ, 41, .inl snd)), ((f 28), .inl (cI, 41, .inl nbr)), ((f 29), .inl (cI, 200, .inl lts)), (h0, .inr (8, mS f tn rm ln lx at_ bd fs dp on os bn df th tp mo_ ev ss so lk rs pt ot cl)), ((f 21), .inl (cL, 400, .inr (.inl two))), ((f 24), .inl (cI, 150, .inl spn)), ((f 18), .inl (cL, 9, .inr (.inl trm))), ((f 20), .inl (cL, 400, .inr (.inl one)))] := hD
      refine W.eq (g2 := F0 m 23 ls [.long r_4]) rfl ?_
      refine lv_goto (tgt := 27) hx hb d_MO_value_23 (by decide) ?_
      refine lv_lstore (lv' := [(5, .long r_4), (3, .long r_1), (0, .ref h0), (1, .int 1), (2, .int 0)]) hx hb d_MO_value_27 hl (Nat.le_of_ble_eq_true rfl) rfl (fun ls hl => ?_)
      refine lv_aload_n hx hb d_MO_value_29 rfl (lv_at hl 2 rfl) ?_
      refine va_get (D := D) (ci := 8) (v := .int (nI ev)) (C := rn_MO) (T := fl_MO) (N := 55) hx hb hG in_MO hown hK hP 5 rfl rfl 40 (by decide) (hG _ k_1231) (fun _ h9 => h9) rfl d_MO_value_30 ?_
      refine lv_if_le (tgt := 52) hx hb d_MO_value_33 (by decide) (fun hb_7 => ?_) (fun hb_7 => ?_)
      · skip
        have hn_8 : ev ≤ 0 := (nI_leI (a := ev) (b := 0) (by omega) (by omega)).mp hb_7
        refine lv_aload_n hx hb d_MO_value_52 rfl (lv_at hl 2 rfl) ?_
        refine lv_aload_n hx hb d_MO_value_53 rfl (lv_at hl 2 rfl) ?_
        refine va_get (D := D) (ci := 8) (v := .long lk) (C := rn_MO) (T := fl_MO) (N := 55) hx hb hG in_MO hown hK hP 5 rfl rfl 47 (by decide) (hG _ k_1238) (fun _ h9 => h9) rfl d_MO_value_54 ?_
        refine lv_iload_n hx hb d_MO_value_57 rfl (lv_at hl 3 rfl) ?_
        refine lv_lload_n hx hb d_MO_value_58 rfl (lv_at hl 1 rfl) ?_
        refine lv_lload hx hb d_MO_value_59 (lv_at hl 0 rfl) ?_
        refine lv_iload_n hx hb d_MO_value_61 rfl (lv_at hl 4 rfl) ?_
        refine em_call (wr := [((f 25), .inl (cI, 41, .inl bss)), ((f 26), .inl (cI, 41, .inl wts)), ((f 27), .inl (cZ, 41, .inl snd)), ((f 28), .inl (cI, 41, .inl nbr)), ((f 21), .inl (cL, 400, .inr (.inl two))), ((f 24), .inl (cI, 150, .inl spn)), ((f 18), .inl (cL, 9, .inr (.inl trm))), ((f 20), .inl (cL, 400, .inr (.inl one)))]) (em_runV (As := [.long lk, .int 1, .long r_1, .long r_4, .int 0]) (rest := []) ⟨hx, hb, hml, hown, hG⟩ (mo_prt10 l D cI cL cZ cC f h0 tn rm ln lx at_ bd fs dp on os bn df th tp mo_ ev ss so lk rs pt ot cl lts Gc lk r_1 r_4 _ hlk hres_3 hres_6 hrs hot hnt) (cwV 5 hG (gd_V k_1604 k_1606 k_97 k_116 k_1607) rfl rfl rfl (by decide +kernel) ⟨Nat.le_of_ble_eq_true rfl, Nat.le_of_ble_eq_true rfl⟩) (tw_V (q0 := 5) hP hD hK hE hst hS rfl rfl [5, 4] rfl (by decide)) rfl rfl hl.1 rfl (lv_room (Nat.le_of_ble_eq_true rfl)) d_MO_value_62 ⟨Nat.le_of_ble_eq_true rfl, Nat.le_of_ble_eq_true rfl⟩) hP hD hS hA [5, 4] [0, 1, 2, 3, 6, 7, 8, 9] rfl rfl (by decide) (by decide) (fun v u H locs hok hP hD hS => ?_) (fun x C u H locs hbad hxx hP hD hS => ?_)
        · skip
          obtain ⟨tp_9, lk_10, so_11, ss_12, rs_13, pt_14, ot_15, lts_16⟩ := u
          obtain ⟨rfl, hp_18⟩ := hok
          obtain ⟨htp_19, hlk_20, hrs_21, hot_22, hPp_23⟩ : (tp_9 = 0) ∧ (okh df Gc lk_10) ∧ (pt_14 = 2 → okh df Gc rs_13) ∧ (ot_15 ≤ ot + 12) ∧ ((ss_12 = ss + 1 ∨ (ss_12 = ss ∧ ¬ so_11 = 0 ∧ ot_15 = ot) ∨ (ss_12 = ss ∧ so_11 = so ∧ pt_14 = 2 ∧ ¬ pt = 2 ∧ ot_15 = ot))) := hp_18
          have hP : va_P D classes [((f 25), .inl (cI, 41, .inl bss)), ((f 26), .inl (cI, 41, .inl wts)), ((f 27), .inl (cZ, 41, .inl snd)), ((f 28), .inl (cI, 41, .inl nbr)), ((f 21), .inl (cL, 400, .inr (.inl two))), ((f 24), .inl (cI, 150, .inl spn)), ((f 18), .inl (cL, 9, .inr (.inl trm))), ((f 20), .inl (cL, 400, .inr (.inl one))), (h0, .inr (8, mS f tn rm ln lx at_ bd fs dp on os bn df th tp_9 mo_ ev ss_12 so_11 lk_10 rs_13 pt_14 ot_15 cl)), ((f 29), .inl (cI, 200, .inl lts_16))] H := hP
          have hD : va_D A [((f 25), .inl (cI, 41, .inl bss)), ((f 26), .inl (cI, 41, .inl wts)), ((f 27), .inl (cZ, 41, .inl snd)), ((f 28), .inl (cI, 41, .inl nbr)), ((f 21), .inl (cL, 400, .inr (.inl two))), ((f 24), .inl (cI, 150, .inl spn)), ((f 18), .inl (cL, 9, .inr (.inl trm))), ((f 20), .inl (cL, 400, .inr (.inl one))), (h0, .inr (8, mS f tn rm ln lx at_ bd fs dp on os bn df th tp_9 mo_ ev ss_12 so_11 lk_10 rs_13 pt_14 ot_15 cl)), ((f 29), .inl (cI, 200, .inl lts_16))] := hD
          refine W.eq (g2 := F0 m 65 ls []) rfl ?_
          exact em_vret hx hb hr hlocks hP hD hK hS (ev, tp_9, lk_10, ss_12, so_11, rs_13, pt_14, ot_15, one, two, bss, wts, snd, nbr, lts_16) [8, 7, 4, 0, 1, 2, 3, 9, 5, 6] (by decide) rfl ⟨rfl, ⟨hsnd, (show MI df Gc trm one two spn tp_9 lk_10 rs_13 pt_14 from ⟨hHG, hlk_20, hrs_21, by omega, fun k hk => absurd hk (by omega)⟩), (show ev ≤ 40 from (by first | assumption | omega | exact Or.inl rfl)), (show me bss wts ev tp_9 0 from (by rw [htp_19]; have e0 : ev = 0 := (by omega); rw [e0]; exact me.zero)), (show ot_15 ≤ ot + 12 from (by first | assumption | omega | exact Or.inl rfl)), (show (ss_12 = ss + 1 ∨ (ss_12 = ss ∧ ¬ so_11 = 0 ∧ ot_15 = ot) ∨ (ss_12 = ss ∧ so_11 = so ∧ ot_15 = ot ∧ ms pt_14 ev snd tp_9 < ms pt ev snd tp)) from (by rcases hPp_23 with q | q | ⟨q1, q2, q3, q4, q5⟩; exact Or.inl q; exact Or.inr (Or.inl q); exact Or.inr (Or.inr ⟨q1, q2, q5, by have w1 : ptn pt_14 = 0 := if_pos q3; have w2 : ptn pt = 1 := if_neg q4; unfold ms; omega⟩)))⟩⟩ d_MO_value_65
        · skip
          exact hbad.elim
      · skip
        have hn_25 : ¬ ev ≤ 0 := fun h => hb_7 ((nI_leI (a := ev) (b := 0) (by omega) (by omega)).mpr h)
        refine lv_aload_n hx hb d_MO_value_36 rfl (lv_at hl 2 rfl) ?_
        refine lv_aload_n hx hb d_MO_value_37 rfl (lv_at hl 2 rfl) ?_
        refine va_get (D := D) (ci := 8) (v := .long lk) (C := rn_MO) (T := fl_MO) (N := 55) hx hb hG in_MO hown hK hP 5 rfl rfl 47 (by decide) (hG _ k_1238) (fun _ h9 => h9) rfl d_MO_value_38 ?_
        refine lv_iload_n hx hb d_MO_value_41 rfl (lv_at hl 3 rfl) ?_
        refine lv_lload_n hx hb d_MO_value_42 rfl (lv_at hl 1 rfl) ?_
        refine lv_lload hx hb d_MO_value_43 (lv_at hl 0 rfl) ?_
        refine lv_iload_n hx hb d_MO_value_45 rfl (lv_at hl 4 rfl) ?_
        refine em_call (wr := [((f 29), .inl (cI, 200, .inl lts))]) (em_runV (As := [.long lk, .int 1, .long r_1, .long r_4, .int 0]) (rest := []) ⟨hx, hb, hml, hown, hG⟩ (mo_goes10 l D cI cL cZ cC f h0 tn rm ln lx at_ bd fs dp on os bn df th tp mo_ ev ss so lk rs pt ot cl one two bss wts snd nbr spn trm Gc mb lk r_1 r_4 _ hsnd hMI hlk hres_3 hres_6 (by omega) hev2 hm1 (hm3 (by omega)) hm4 hnt) (cwV 5 hG (gd_V k_1585 k_1587 k_93 k_116 k_1588) rfl rfl rfl (by decide +kernel) ⟨Nat.le_of_ble_eq_true rfl, Nat.le_of_ble_eq_true rfl⟩) (tw_V (q0 := 5) hP hD hK hE hst hS rfl rfl [5, 9, 6, 0, 1, 2, 3, 7, 8] rfl (by decide)) rfl rfl hl.1 rfl (lv_room (Nat.le_of_ble_eq_true rfl)) d_MO_value_46 ⟨Nat.le_of_ble_eq_true rfl, Nat.le_of_ble_eq_true rfl⟩) hP hD hS hA [5, 9, 6, 0, 1, 2, 3, 7, 8] [4] rfl rfl (by decide) (by decide) (fun v u H locs hok hP hD hS => ?_) (fun x C u H locs hbad hxx hP hD hS => ?_)
        · skip
          obtain ⟨ev_26, tp_27, lk_28, ss_29, so_30, one_31, two_32, bss_33, wts_34, snd_35, nbr_36⟩ := u
          obtain ⟨rfl, hp_38⟩ := hok
          obtain ⟨hsnd_39, hMI_40, hev_41, hme_42, hP_43⟩ : (bln snd_35) ∧ (MI df Gc trm one_31 two_32 spn tp_27 lk_28 rs pt) ∧ (ev_26 ≤ 40) ∧ (me bss_33 wts_34 ev_26 tp_27 0) ∧ (((ss_29 = ss + 1 ∧ so_30 = so) ∨ (ss_29 = ss ∧ ¬ so_30 = 0) ∨ (ss_29 = ss ∧ so_30 = so ∧ ev_26 = ev ∧ fz snd_35 ev_26 + 1 = fz snd ev))) := hp_38
          have hP : va_P D classes [((f 29), .inl (cI, 200, .inl lts)), (h0, .inr (8, mS f tn rm ln lx at_ bd fs dp on os bn df th tp_27 mo_ ev_26 ss_29 so_30 lk_28 rs pt ot cl)), ((f 20), .inl (cL, 400, .inr (.inl one_31))), ((f 21), .inl (cL, 400, .inr (.inl two_32))), ((f 25), .inl (cI, 41, .inl bss_33)), ((f 26), .inl (cI, 41, .inl wts_34)), ((f 27), .inl (cZ, 41, .inl snd_35)), ((f 28), .inl (cI, 41, .inl nbr_36)), ((f 24), .inl (cI, 150, .inl spn)), ((f 18), .inl (cL, 9, .inr (.inl trm)))] H := hP
          have hD : va_D A [((f 29), .inl (cI, 200, .inl lts)), (h0, .inr (8, mS f tn rm ln lx at_ bd fs dp on os bn df th tp_27 mo_ ev_26 ss_29 so_30 lk_28 rs pt ot cl)), ((f 20), .inl (cL, 400, .inr (.inl one_31))), ((f 21), .inl (cL, 400, .inr (.inl two_32))), ((f 25), .inl (cI, 41, .inl bss_33)), ((f 26), .inl (cI, 41, .inl wts_34)), ((f 27), .inl (cZ, 41, .inl snd_35)), ((f 28), .inl (cI, 41, .inl nbr_36)), ((f 24), .inl (cI, 150, .inl spn)), ((f 18), .inl (cL, 9, .inr (.inl trm)))] := hD
          refine W.eq (g2 := F0 m 49 ls []) rfl ?_
          refine lv_goto (tgt := 65) hx hb d_MO_value_49 (by decide) ?_
          exact em_vret hx hb hr hlocks hP hD hK hS (ev_26, tp_27, lk_28, ss_29, so_30, rs, pt, ot, one_31, two_32, bss_33, wts_34, snd_35, nbr_36, lts) [1, 2, 3, 4, 5, 6, 7, 0, 8, 9] (by decide) rfl ⟨rfl, ⟨hsnd_39, (show MI df Gc trm one_31 two_32 spn tp_27 lk_28 rs pt from hMI_40), (show ev_26 ≤ 40 from (by first | assumption | omega | exact Or.inl rfl)), (show me bss_33 wts_34 ev_26 tp_27 0 from hme_42), (show ot ≤ ot + 12 from (by first | assumption | omega | exact Or.inl rfl)), (show (ss_29 = ss + 1 ∨ (ss_29 = ss ∧ ¬ so_30 = 0 ∧ ot = ot) ∨ (ss_29 = ss ∧ so_30 = so ∧ ot = ot ∧ ms pt ev_26 snd_35 tp_27 < ms pt ev snd tp)) from (by rcases hP_43 with ⟨q, _⟩ | ⟨q1, q2⟩ | ⟨q1, q2, q3, q4⟩; exact Or.inl q; exact Or.inr (Or.inl ⟨q1, q2, rfl⟩); exact Or.inr (Or.inr ⟨q1, q2, rfl, by unfold ms; omega⟩)))⟩⟩ d_MO_value_65
        · skip
          exact hbad.elim
    · skip
      exact hbad.elim
  · skip
    exact hbad.elim
set_option maxHeartbeats 8000000 in
set_option maxRecDepth 100000 in
theorem mo_val01 (l : Launch) (D : va_G) (cI cL cZ cC : ClassId) (f : Nat → Nat) (h0 : Nat) (tn : Int32) (rm : Nat) (ln : Nat) (lx : Nat) (at_ : Nat) (bd : Int32) (fs : Nat) (dp : Nat) (on : Nat) (os : Nat) (bn : Nat) (df : Nat) (th : Int32) (tp : Nat) (mo_ : Int32) (ev : Nat) (ss : Int32) (so : Int32) (lk : Int64) (rs : Int64) (pt : Int32) (ot : Nat) (cl : Int32) (one : Nat → Int64) (two : Nat → Int64) (bss : Nat → Int32) (wts : Nat → Int32) (snd : Nat → Int32) (nbr : Nat → Int32) (lts : Nat → Int32) (spn : Nat → Int32) (trm : Nat → Int64) (Gc : Nat → Prop) (mb : Nat) (sz : Nat) (hsnd : bln snd) (hMI : MI df Gc trm one two spn tp lk rs pt) (hev2 : ev ≤ 40) (hm1 : mb ≤ tp) (hm2 : ev = 0 → mb = 0) (hm3 : 1 ≤ ev → bss (ev - 1) = nI mb) (hm4 : me bss wts ev mb 0) (hot : ot + 12 < 2147483647) (hnt : l.stackTraces = false) : em_Met l y_MO_value (wz y_MO_value b_MO_value 7 none) ({ frames := 4, cells := 0, slots := 0, locals := 92 }) (va_Pc [.ref h0, .int 0, .int 1] (tw_pre D (tys4 cI cL cZ cC) [(h0, .inr (8, mS f tn rm ln lx at_ bd fs dp on os bn df th tp mo_ ev ss so lk rs pt ot cl)), ((f 20), .inl (cL, 400, .inr (.inl one))), ((f 21), .inl (cL, 400, .inr (.inl two))), ((f 25), .inl (cI, 41, .inl bss)), ((f 26), .inl (cI, 41, .inl wts)), ((f 27), .inl (cZ, 41, .inl snd)), ((f 28), .inl (cI, 41, .inl nbr)), ((f 29), .inl (cI, 200, .inl lts)), ((f 24), .inl (cI, 150, .inl spn)), ((f 18), .inl (cL, 9, .inr (.inl trm)))] sz)) D (tys4 cI cL cZ cC) (va_A [(h0, .inr (8, mS f tn rm ln lx at_ bd fs dp on os bn df th tp mo_ ev ss so lk rs pt ot cl)), ((f 20), .inl (cL, 400, .inr (.inl one))), ((f 21), .inl (cL, 400, .inr (.inl two))), ((f 25), .inl (cI, 41, .inl bss)), ((f 26), .inl (cI, 41, .inl wts)), ((f 27), .inl (cZ, 41, .inl snd)), ((f 28), .inl (cI, 41, .inl nbr)), ((f 29), .inl (cI, 200, .inl lts)), ((f 24), .inl (cI, 150, .inl spn)), ((f 18), .inl (cL, 9, .inr (.inl trm)))] sz) (fun (u : Nat × Nat × Int64 × Int32 × Int32 × Int64 × Int32 × Nat × (Nat → Int64) × (Nat → Int64) × (Nat → Int32) × (Nat → Int32) × (Nat → Int32) × (Nat → Int32) × (Nat → Int32)) => [(h0, .inr (8, mS f tn rm ln lx at_ bd fs dp on os bn df th u.2.1 mo_ u.1 u.2.2.2.1 u.2.2.2.2.1 u.2.2.1 u.2.2.2.2.2.1 u.2.2.2.2.2.2.1 u.2.2.2.2.2.2.2.1 cl)), ((f 20), .inl (cL, 400, .inr (.inl u.2.2.2.2.2.2.2.2.1))), ((f 21), .inl (cL, 400, .inr (.inl u.2.2.2.2.2.2.2.2.2.1))), ((f 25), .inl (cI, 41, .inl u.2.2.2.2.2.2.2.2.2.2.1)), ((f 26), .inl (cI, 41, .inl u.2.2.2.2.2.2.2.2.2.2.2.1)), ((f 27), .inl (cZ, 41, .inl u.2.2.2.2.2.2.2.2.2.2.2.2.1)), ((f 28), .inl (cI, 41, .inl u.2.2.2.2.2.2.2.2.2.2.2.2.2.1)), ((f 29), .inl (cI, 200, .inl u.2.2.2.2.2.2.2.2.2.2.2.2.2.2)), ((f 24), .inl (cI, 150, .inl spn)), ((f 18), .inl (cL, 9, .inr (.inl trm)))]) (fun v (u : Nat × Nat × Int64 × Int32 × Int32 × Int64 × Int32 × Nat × (Nat → Int64) × (Nat → Int64) × (Nat → Int32) × (Nat → Int32) × (Nat → Int32) × (Nat → Int32) × (Nat → Int32)) => v = none ∧ ((bln u.2.2.2.2.2.2.2.2.2.2.2.2.1) ∧ (MI df Gc trm u.2.2.2.2.2.2.2.2.1 u.2.2.2.2.2.2.2.2.2.1 spn u.2.1 u.2.2.1 u.2.2.2.2.2.1 u.2.2.2.2.2.2.1) ∧ (u.1 ≤ 40) ∧ (me u.2.2.2.2.2.2.2.2.2.2.1 u.2.2.2.2.2.2.2.2.2.2.2.1 u.1 u.2.1 0) ∧ (u.2.2.2.2.2.2.2.1 ≤ ot + 12) ∧ ((u.2.2.2.1 = ss + 1 ∨ (u.2.2.2.1 = ss ∧ ¬ u.2.2.2.2.1 = 0 ∧ u.2.2.2.2.2.2.2.1 = ot) ∨ (u.2.2.2.1 = ss ∧ u.2.2.2.2.1 = so ∧ u.2.2.2.2.2.2.2.1 = ot ∧ ms u.2.2.2.2.2.2.1 u.1 u.2.2.2.2.2.2.2.2.2.2.2.2.1 u.2.1 < ms pt ev snd tp))))) (fun C (u : Nat × Nat × Int64 × Int32 × Int32 × Int64 × Int32 × Nat × (Nat → Int64) × (Nat → Int64) × (Nat → Int32) × (Nat → Int32) × (Nat → Int32) × (Nat → Int32) × (Nat → Int32)) => False) 0 0 := by
  refine em_Met.ofW (cc := b_MO_value) (maxL := 7) (ret := none) (by decide) rfl ?_
  intro p e s m args below meth c s₁ B hml hv hno
  obtain ⟨rfl, ⟨hsz, hP, hK, hD0⟩, hE⟩ := hv
  have hx := B.exec
  have hb := B.bytes
  have hr := B.returns
  have hts := atoms_spec (ws := wz y_MO_value b_MO_value 7 none) B.pre
  have hG := wz_G hts
  have hown : s.vm.findClass rn_MO = some m.cls := findClass_of_methodNamed B.named
  have hlocks := B.notSynchronized
  subst hsz
  have hD := hD0.self (sz := s.heap.size)
  have hst := tw_st hP
  generalize hAe : va_A [(h0, .inr (8, mS f tn rm ln lx at_ bd fs dp on os bn df th tp mo_ ev ss so lk rs pt ot cl)), ((f 20), .inl (cL, 400, .inr (.inl one))), ((f 21), .inl (cL, 400, .inr (.inl two))), ((f 25), .inl (cI, 41, .inl bss)), ((f 26), .inl (cI, 41, .inl wts)), ((f 27), .inl (cZ, 41, .inl snd)), ((f 28), .inl (cI, 41, .inl nbr)), ((f 29), .inl (cI, 200, .inl lts)), ((f 24), .inl (cI, 150, .inl spn)), ((f 18), .inl (cL, 9, .inr (.inl trm)))] s.heap.size = A at hD hst ⊢
  have hA : ∀ q : Nat, s.heap.size ≤ q → A q := fun q h => by rw [← hAe]; exact Or.inr h
  have hS : va_S A s.heap s.heap [] := va_S.rf
  have hl := lv_entry ([.ref h0, .int 0, .int 1]) (n := 7) (Nat.le_of_ble_eq_true rfl)
  rw [lg_entry_eq]
  generalize (lg_sl ([.ref h0, .int 0, .int 1]) ++ List.replicate (7 - (lg_sl ([.ref h0, .int 0, .int 1])).length) Slot.unset).toArray = ls at hl ⊢
  have hl : lv_has ls 7 [(0, .ref h0), (1, .int 0), (2, .int 1)] := hl
  obtain ⟨hHG, hlk, hrs, htp, hsp⟩ := id hMI
  refine lv_iload_n hx hb d_MO_value_0 rfl (lv_at hl 1 rfl) ?_
  refine lv_if_eq (tgt := 12) hx hb d_MO_value_1 (by decide) (fun hbr => ?_) (fun hbr => absurd (by decide) hbr)
  refine lv_lconst (v := 0) hx hb d_MO_value_12 (by decide) ?_
  refine lv_lstore_n (lv' := [(3, .long 0), (0, .ref h0), (1, .int 0), (2, .int 1)]) hx hb d_MO_value_13 rfl hl (Nat.le_of_ble_eq_true rfl) rfl (fun ls hl => ?_)
  refine lv_iload_n hx hb d_MO_value_14 rfl (lv_at hl 2 rfl) ?_
  refine lv_if_eq (tgt := 26) hx hb d_MO_value_15 (by decide) (fun hbr => ?_) (fun hbr => absurd (by decide) hbr)
  refine lv_lconst (v := 0) hx hb d_MO_value_26 (by decide) ?_
  refine lv_lstore (lv' := [(5, .long 0), (3, .long 0), (0, .ref h0), (1, .int 0), (2, .int 1)]) hx hb d_MO_value_27 hl (Nat.le_of_ble_eq_true rfl) rfl (fun ls hl => ?_)
  refine lv_aload_n hx hb d_MO_value_29 rfl (lv_at hl 2 rfl) ?_
  refine va_get (D := D) (ci := 8) (v := .int (nI ev)) (C := rn_MO) (T := fl_MO) (N := 55) hx hb hG in_MO hown hK hP 0 rfl rfl 40 (by decide) (hG _ k_1231) (fun _ h9 => h9) rfl d_MO_value_30 ?_
  refine lv_if_le (tgt := 52) hx hb d_MO_value_33 (by decide) (fun hb_1 => ?_) (fun hb_1 => ?_)
  · skip
    have hn_2 : ev ≤ 0 := (nI_leI (a := ev) (b := 0) (by omega) (by omega)).mp hb_1
    refine lv_aload_n hx hb d_MO_value_52 rfl (lv_at hl 2 rfl) ?_
    refine lv_aload_n hx hb d_MO_value_53 rfl (lv_at hl 2 rfl) ?_
    refine va_get (D := D) (ci := 8) (v := .long lk) (C := rn_MO) (T := fl_MO) (N := 55) hx hb hG in_MO hown hK hP 0 rfl rfl 47 (by decide) (hG _ k_1238) (fun _ h9 => h9) rfl d_MO_value_54 ?_
    refine lv_iload_n hx hb d_MO_value_57 rfl (lv_at hl 3 rfl) ?_
    refine lv_lload_n hx hb d_MO_value_58 rfl (lv_at hl 1 rfl) ?_
    refine lv_lload hx hb d_MO_value_59 (lv_at hl 0 rfl) ?_
    refine lv_iload_n hx hb d_MO_value_61 rfl (lv_at hl 4 rfl) ?_
    refine em_call (wr := [((f 20), .inl (cL, 400, .inr (.inl one))), ((f 21), .inl (cL, 400, .inr (.inl two))), ((f 25), .inl (cI, 41, .inl bss)), ((f 26), .inl (cI, 41, .inl wts)), ((f 27), .inl (cZ, 41, .inl snd)), ((f 28), .inl (cI, 41, .inl nbr)), ((f 24), .inl (cI, 150, .inl spn)), ((f 18), .inl (cL, 9, .inr (.inl trm)))]) (em_runV (As := [.long lk, .int 0, .long 0, .long 0, .int 1]) (rest := []) ⟨hx, hb, hml, hown, hG⟩ (mo_prt01 l D cI cL cZ cC f h0 tn rm ln lx at_ bd fs dp on os bn df th tp mo_ ev ss so lk rs pt ot cl lts Gc lk 0 0 _ hlk hrs hot hnt) (cwV 5 hG (gd_V k_1604 k_1606 k_97 k_116 k_1607) rfl rfl rfl (by decide +kernel) ⟨Nat.le_of_ble_eq_true rfl, Nat.le_of_ble_eq_true rfl⟩) (tw_V (q0 := 0) hP hD hK hE hst hS rfl rfl [0, 7] rfl (by decide)) rfl rfl hl.1 rfl (lv_room (Nat.le_of_ble_eq_true rfl)) d_MO_value_62 ⟨Nat.le_of_ble_eq_true rfl, Nat.le_of_ble_eq_true rfl⟩) hP hD hS hA [0, 7] [1, 2, 3, 4, 5, 6, 8, 9] rfl rfl (by decide) (by decide) (fun v u H locs hok hP hD hS => ?_) (fun x C u H locs hbad hxx hP hD hS => ?_)
    · skip
      obtain ⟨tp_3, lk_4, so_5, ss_6, rs_7, pt_8, ot_9, lts_10⟩ := u
      obtain ⟨rfl, hp_12⟩ := hok
      obtain ⟨htp_13, hlk_14, hrs_15, hot_16, hPp_17⟩ : (tp_3 = 0) ∧ (okh df Gc lk_4) ∧ (pt_8 = 2 → okh df Gc rs_7) ∧ (ot_9 ≤ ot + 12) ∧ ((ss_6 = ss + 1 ∨ (ss_6 = ss ∧ ¬ so_5 = 0 ∧ ot_9 = ot) ∨ (ss_6 = ss ∧ so_5 = so ∧ pt_8 = 2 ∧ ¬ pt = 2 ∧ ot_9 = ot))) := hp_12
      have hP : va_P D classes [((f 20), .inl (cL, 400, .inr (.inl one))), ((f 21), .inl (cL, 400, .inr (.inl two))), ((f 25), .inl (cI, 41, .inl bss)), ((f 26), .inl (cI, 41, .inl wts)), ((f 27), .inl (cZ, 41, .inl snd)), ((f 28), .inl (cI, 41, .inl nbr)), ((f 24), .inl (cI, 150, .inl spn)), ((f 18), .inl (cL, 9, .inr (.inl trm))), (h0, .inr (8, mS f tn rm ln lx at_ bd fs dp on os bn df th tp_3 mo_ ev ss_6 so_5 lk_4 rs_7 pt_8 ot_9 cl)), ((f 29), .inl (cI, 200, .inl lts_10))] H := hP
      have hD : va_D A [((f 20), .inl (cL, 400, .inr (.inl one))), ((f 21), .inl (cL, 400, .inr (.inl two))), ((f 25), .inl (cI, 41, .inl bss)), ((f 26), .inl (cI, 41, .inl wts)), ((f 27), .inl (cZ, 41, .inl snd)), ((f 28), .inl (cI, 41, .inl nbr)), ((f 24), .inl (cI, 150, .inl spn)), ((f 18), .inl (cL, 9, .inr (.inl trm))), (h0, .inr (8, mS f tn rm ln lx at_ bd fs dp on os bn df th tp_3 mo_ ev ss_6 so_5 lk_4 rs_7 pt_8 ot_9 cl)), ((f 29), .inl (cI, 200, .inl lts_10))] := hD
      refine W.eq (g2 := F0 m 65 ls []) rfl ?_
      exact em_vret hx hb hr hlocks hP hD hK hS (ev, tp_3, lk_4, ss_6, so_5, rs_7, pt_8, ot_9, one, two, bss, wts, snd, nbr, lts_10) [8, 0, 1, 2, 3, 4, 5, 9, 6, 7] (by decide) rfl ⟨rfl, ⟨hsnd, (show MI df Gc trm one two spn tp_3 lk_4 rs_7 pt_8 from ⟨hHG, hlk_14, hrs_15, by omega, fun k hk => absurd hk (by omega)⟩), (show ev ≤ 40 from (by first | assumption | omega | exact Or.inl rfl)), (show me bss wts ev tp_3 0 from (by rw [htp_13]; have e0 : ev = 0 := (by omega); rw [e0]; exact me.zero)), (show ot_9 ≤ ot + 12 from (by first | assumption | omega | exact Or.inl rfl)), (show (ss_6 = ss + 1 ∨ (ss_6 = ss ∧ ¬ so_5 = 0 ∧ ot_9 = ot) ∨ (ss_6 = ss ∧ so_5 = so ∧ ot_9 = ot ∧ ms pt_8 ev snd tp_3 < ms pt ev snd tp)) from (by rcases hPp_17 with q | q | ⟨q1, q2, q3, q4, q5⟩; exact Or.inl q; exact Or.inr (Or.inl q); exact Or.inr (Or.inr ⟨q1, q2, q5, by have w1 : ptn pt_8 = 0 := if_pos q3; have w2 : ptn pt = 1 := if_neg q4; unfold ms; omega⟩)))⟩⟩ d_MO_value_65
    · skip
      exact hbad.elim
  · skip
    have hn_19 : ¬ ev ≤ 0 := fun h => hb_1 ((nI_leI (a := ev) (b := 0) (by omega) (by omega)).mpr h)
    refine lv_aload_n hx hb d_MO_value_36 rfl (lv_at hl 2 rfl) ?_
    refine lv_aload_n hx hb d_MO_value_37 rfl (lv_at hl 2 rfl) ?_
    refine va_get (D := D) (ci := 8) (v := .long lk) (C := rn_MO) (T := fl_MO) (N := 55) hx hb hG in_MO hown hK hP 0 rfl rfl 47 (by decide) (hG _ k_1238) (fun _ h9 => h9) rfl d_MO_value_38 ?_
    refine lv_iload_n hx hb d_MO_value_41 rfl (lv_at hl 3 rfl) ?_
    refine lv_lload_n hx hb d_MO_value_42 rfl (lv_at hl 1 rfl) ?_
    refine lv_lload hx hb d_MO_value_43 (lv_at hl 0 rfl) ?_
    refine lv_iload_n hx hb d_MO_value_45 rfl (lv_at hl 4 rfl) ?_
    refine em_call (wr := [((f 29), .inl (cI, 200, .inl lts))]) (em_runV (As := [.long lk, .int 0, .long 0, .long 0, .int 1]) (rest := []) ⟨hx, hb, hml, hown, hG⟩ (mo_goes01 l D cI cL cZ cC f h0 tn rm ln lx at_ bd fs dp on os bn df th tp mo_ ev ss so lk rs pt ot cl one two bss wts snd nbr spn trm Gc mb lk 0 0 _ hsnd hMI hlk (by omega) hev2 hm1 (hm3 (by omega)) hm4 hnt) (cwV 5 hG (gd_V k_1585 k_1587 k_93 k_116 k_1588) rfl rfl rfl (by decide +kernel) ⟨Nat.le_of_ble_eq_true rfl, Nat.le_of_ble_eq_true rfl⟩) (tw_V (q0 := 0) hP hD hK hE hst hS rfl rfl [0, 1, 2, 3, 4, 5, 6, 8, 9] rfl (by decide)) rfl rfl hl.1 rfl (lv_room (Nat.le_of_ble_eq_true rfl)) d_MO_value_46 ⟨Nat.le_of_ble_eq_true rfl, Nat.le_of_ble_eq_true rfl⟩) hP hD hS hA [0, 1, 2, 3, 4, 5, 6, 8, 9] [7] rfl rfl (by decide) (by decide) (fun v u H locs hok hP hD hS => ?_) (fun x C u H locs hbad hxx hP hD hS => ?_)
    · skip
      obtain ⟨ev_20, tp_21, lk_22, ss_23, so_24, one_25, two_26, bss_27, wts_28, snd_29, nbr_30⟩ := u
      obtain ⟨rfl, hp_32⟩ := hok
      obtain ⟨hsnd_33, hMI_34, hev_35, hme_36, hP_37⟩ : (bln snd_29) ∧ (MI df Gc trm one_25 two_26 spn tp_21 lk_22 rs pt) ∧ (ev_20 ≤ 40) ∧ (me bss_27 wts_28 ev_20 tp_21 0) ∧ (((ss_23 = ss + 1 ∧ so_24 = so) ∨ (ss_23 = ss ∧ ¬ so_24 = 0) ∨ (ss_23 = ss ∧ so_24 = so ∧ ev_20 = ev ∧ fz snd_29 ev_20 + 1 = fz snd ev))) := hp_32
      have hP : va_P D classes [((f 29), .inl (cI, 200, .inl lts)), (h0, .inr (8, mS f tn rm ln lx at_ bd fs dp on os bn df th tp_21 mo_ ev_20 ss_23 so_24 lk_22 rs pt ot cl)), ((f 20), .inl (cL, 400, .inr (.inl one_25))), ((f 21), .inl (cL, 400, .inr (.inl two_26))), ((f 25), .inl (cI, 41, .inl bss_27)), ((f 26), .inl (cI, 41, .inl wts_28)), ((f 27), .inl (cZ, 41, .inl snd_29)), ((f 28), .inl (cI, 41, .inl nbr_30)), ((f 24), .inl (cI, 150, .inl spn)), ((f 18), .inl (cL, 9, .inr (.inl trm)))] H := hP
      have hD : va_D A [((f 29), .inl (cI, 200, .inl lts)), (h0, .inr (8, mS f tn rm ln lx at_ bd fs dp on os bn df th tp_21 mo_ ev_20 ss_23 so_24 lk_22 rs pt ot cl)), ((f 20), .inl (cL, 400, .inr (.inl one_25))), ((f 21), .inl (cL, 400, .inr (.inl two_26))), ((f 25), .inl (cI, 41, .inl bss_27)), ((f 26), .inl (cI, 41, .inl wts_28)), ((f 27), .inl (cZ, 41, .inl snd_29)), ((f 28), .inl (cI, 41, .inl nbr_30)), ((f 24), .inl (cI, 150, .inl spn)), ((f 18), .inl (cL, 9, .inr (.inl trm)))] := hD
      refine W.eq (g2 := F0 m 49 ls []) rfl ?_
      refine lv_goto (tgt := 65) hx hb d_MO_value_49 (by decide) ?_
      exact em_vret hx hb hr hlocks hP hD hK hS (ev_20, tp_21, lk_22, ss_23, so_24, rs, pt, ot, one_25, two_26, bss_27, wts_28, snd_29, nbr_30, lts) [1, 2, 3, 4, 5, 6, 7, 0, 8, 9] (by decide) rfl ⟨rfl, ⟨hsnd_33, (show MI df Gc trm one_25 two_26 spn tp_21 lk_22 rs pt from hMI_34), (show ev_20 ≤ 40 from (by first | assumption | omega | exact Or.inl rfl)), (show me bss_27 wts_28 ev_20 tp_21 0 from hme_36), (show ot ≤ ot + 12 from (by first | assumption | omega | exact Or.inl rfl)), (show (ss_23 = ss + 1 ∨ (ss_23 = ss ∧ ¬ so_24 = 0 ∧ ot = ot) ∨ (ss_23 = ss ∧ so_24 = so ∧ ot = ot ∧ ms pt ev_20 snd_29 tp_21 < ms pt ev snd tp)) from (by rcases hP_37 with ⟨q, _⟩ | ⟨q1, q2⟩ | ⟨q1, q2, q3, q4⟩; exact Or.inl q; exact Or.inr (Or.inl ⟨q1, q2, rfl⟩); exact Or.inr (Or.inr ⟨q1, q2, rfl, by unfold ms; omega⟩)))⟩⟩ d_MO_value_65
    · skip
      exact hbad.elim
