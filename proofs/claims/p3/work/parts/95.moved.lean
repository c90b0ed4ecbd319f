/-- a word of the heap: of the definitions nd, of the cells G -/
def okh (nd : Nat) (G : Nat → Prop) (w : Int64) : Prop := wkind w = 0 ∨ (wkind w = 1 ∧ ∃ v : Nat, v < nd ∧ w.toInt32 = nI v) ∨ (wkind w = 2 ∧ ∃ v : Nat, 2 ≤ v ∧ v ≤ 22 ∧ w.toInt32 = nI v) ∨ (wkind w = 3 ∧ ∃ c : Nat, G c ∧ w.toInt32 = nI c)
theorem okw_h {nd : Nat} {G : Nat → Prop} {w : Int64} (h : okw nd 0 w) : okh nd G w := by
  rcases h with h | h | h | ⟨v, h, -⟩
  · exact Or.inl h
  · exact Or.inr (Or.inl h)
  · exact Or.inr (Or.inr (Or.inl h))
  · exact absurd h (Nat.not_lt_zero _)
theorem okh_cell {nd c : Nat} {G : Nat → Prop} (h : G c) : okh nd G (wof 3 (nI c)) := Or.inr (Or.inr (Or.inr ⟨wkind_of _ _, c, h, wnum_of _ _⟩))
theorem okw_nd {nd nd' b : Nat} (h : nd ≤ nd') {w : Int64} (q : okw nd b w) : okw nd' b w := by
  rcases q with q | ⟨q1, v, q2, q3⟩ | q | q
  · exact Or.inl q
  · exact Or.inr (Or.inl ⟨q1, v, by omega, q3⟩)
  · exact Or.inr (Or.inr (Or.inl q))
  · exact Or.inr (Or.inr (Or.inr q))
theorem tsz_0 {T : Tr} {w : Int64} (h : T = .leaf w) : tsz T = 0 := by rw [h]; rfl

set_option maxHeartbeats 8000000 in
set_option maxRecDepth 100000 in
theorem mo_fail (l : Launch) (D : va_G) (cI cL cZ cC : ClassId) (f : Nat → Nat) (h0 : Nat) (tn : Int32) (rm : Nat) (ln : Nat) (lx : Nat) (at_ : Nat) (bd : Int32) (fs : Nat) (dp : Nat) (on : Nat) (os : Nat) (bn : Nat) (df : Nat) (th : Int32) (tp : Nat) (mo_ : Int32) (ev : Nat) (ss : Int32) (so : Int32) (lk : Int64) (rs : Int64) (pt : Int32) (ot : Nat) (cl : Int32) (k : Int32) (sz : Nat) (hnt : l.stackTraces = false) : em_Met l y_MO_fail (wz y_MO_fail b_MO_fail 2 (some .int)) ({ frames := 0, cells := 0, slots := 0, locals := 0 }) (va_Pc [.ref h0, .int k] (tw_pre D (tys4 cI cL cZ cC) [(h0, .inr (8, mS f tn rm ln lx at_ bd fs dp on os bn df th tp mo_ ev ss so lk rs pt ot cl))] sz)) D (tys4 cI cL cZ cC) (va_A [(h0, .inr (8, mS f tn rm ln lx at_ bd fs dp on os bn df th tp mo_ ev ss so lk rs pt ot cl))] sz) (fun (u : Int32) => [(h0, .inr (8, mS f u rm ln lx at_ bd fs dp on os bn df th tp mo_ ev ss so lk rs pt ot cl))]) (fun v (u : Int32) => ∃ r : Int32, v = some (.int r) ∧ ((u = k) ∧ (r = 0))) (fun C (u : Int32) => False) 0 0 := by
  refine em_Met.ofW (cc := b_MO_fail) (maxL := 2) (ret := (some .int)) (by decide) rfl ?_
  intro p e s m args below meth c s₁ B hml hv hno
  obtain ⟨rfl, ⟨hsz, hP, hK, hD0⟩, hE⟩ := hv
  have hx := B.exec
  have hb := B.bytes
  have hr := B.returns
  have hts := atoms_spec (ws := wz y_MO_fail b_MO_fail 2 (some .int)) B.pre
  have hG := wz_G hts
  have hown : s.vm.findClass rn_MO = some m.cls := findClass_of_methodNamed B.named
  have hlocks := B.notSynchronized
  subst hsz
  have hD := hD0.self (sz := s.heap.size)
  have hst := tw_st hP
  generalize hAe : va_A [(h0, .inr (8, mS f tn rm ln lx at_ bd fs dp on os bn df th tp mo_ ev ss so lk rs pt ot cl))] s.heap.size = A at hD hst ⊢
  have hA : ∀ q : Nat, s.heap.size ≤ q → A q := fun q h => by rw [← hAe]; exact Or.inr h
  have hS : va_S A s.heap s.heap [] := va_S.rf
  have hl := lv_entry ([.ref h0, .int k]) (n := 2) (Nat.le_of_ble_eq_true rfl)
  rw [lg_entry_eq]
  generalize (lg_sl ([.ref h0, .int k]) ++ List.replicate (2 - (lg_sl ([.ref h0, .int k])).length) Slot.unset).toArray = ls at hl ⊢
  have hl : lv_has ls 2 [(0, .ref h0), (1, .int k)] := hl
  refine lv_aload_n hx hb d_MO_fail_0 rfl (lv_at hl 0 rfl) ?_
  refine lv_iload_n hx hb d_MO_fail_1 rfl (lv_at hl 1 rfl) ?_
  refine va_put (D := D) (ci := 8) (v := .int k) (ty := .int) (C := rn_MO) (T := fl_MO) (N := 55) hx hb hG in_MO tt_MO tk_MO nn_MO hown hK hP hD hS 0 rfl rfl 0 (by decide) (hG _ k_1191) (fun _ h9 => h9) rfl (by decide +kernel) rfl rfl (Nat.le_of_ble_eq_true rfl) d_MO_fail_2 (fun H locs hP hD hS => ?_)
  have hP : va_P D classes [(h0, .inr (8, mS f k rm ln lx at_ bd fs dp on os bn df th tp mo_ ev ss so lk rs pt ot cl))] H := hP
  have hD : va_D A [(h0, .inr (8, mS f k rm ln lx at_ bd fs dp on os bn df th tp mo_ ev ss so lk rs pt ot cl))] := hD
  refine lv_iconst (v := 0) hx hb d_MO_fail_5 (by decide) ?_
  exact em_iret hx hb hr hlocks hP hD hK hS (k) [0] (by decide) rfl ⟨_, rfl, ⟨(show k = k from rfl), (show (0 : Int32) = 0 from rfl)⟩⟩ d_MO_fail_6
set_option maxHeartbeats 8000000 in
set_option maxRecDepth 100000 in
theorem mo_keepForm (l : Launch) (D : va_G) (cI cL cZ cC : ClassId) (f : Nat → Nat) (h0 : Nat) (tn : Int32) (rm : Nat) (ln : Nat) (lx : Nat) (at_ : Nat) (bd : Int32) (fs : Nat) (dp : Nat) (on : Nat) (os : Nat) (bn : Nat) (df : Nat) (th : Int32) (tp : Nat) (mo_ : Int32) (ev : Nat) (ss : Int32) (so : Int32) (lk : Int64) (rs : Int64) (pt : Int32) (ot : Nat) (cl : Int32) (frm : Nat → Int32) (od : Nat → Int32) (trm : Nat → Int64) (le : Nat → Int64) (ri : Nat → Int64) (T : Tr) (dd : Nat) (sz : Nat) (hdd : dd ≤ 8) (h1 : rep le ri (trm dd) T) (ho : ∀ d, toc T d ≤ 1) (hnt : l.stackTraces = false) : em_Met l y_MO_keepForm (wz y_MO_keepForm b_MO_keepForm 5 none) ({ frames := 2, cells := 0, slots := 0, locals := 46 }) (va_Pc [.ref h0, .int (nI dd)] (tw_pre D (tys4 cI cL cZ cC) [(h0, .inr (8, mS f tn rm ln lx at_ bd fs dp on os bn df th tp mo_ ev ss so lk rs pt ot cl)), ((f 19), .inl (cI, 27, .inl frm)), ((f 6), .inl (cI, 2000, .inl od)), ((f 18), .inl (cL, 9, .inr (.inl trm))), ((f 3), .inl (cL, 2000, .inr (.inl le))), ((f 4), .inl (cL, 2000, .inr (.inl ri)))] sz)) D (tys4 cI cL cZ cC) (va_A [(h0, .inr (8, mS f tn rm ln lx at_ bd fs dp on os bn df th tp mo_ ev ss so lk rs pt ot cl)), ((f 19), .inl (cI, 27, .inl frm)), ((f 6), .inl (cI, 2000, .inl od)), ((f 18), .inl (cL, 9, .inr (.inl trm))), ((f 3), .inl (cL, 2000, .inr (.inl le))), ((f 4), .inl (cL, 2000, .inr (.inl ri)))] sz) (fun (u : (Nat → Int32) × (Nat → Int32)) => [(h0, .inr (8, mS f tn rm ln lx at_ bd fs dp on os bn df th tp mo_ ev ss so lk rs pt ot cl)), ((f 19), .inl (cI, 27, .inl u.1)), ((f 6), .inl (cI, 2000, .inl u.2)), ((f 18), .inl (cL, 9, .inr (.inl trm))), ((f 3), .inl (cL, 2000, .inr (.inl le))), ((f 4), .inl (cL, 2000, .inr (.inl ri)))]) (fun v (u : (Nat → Int32) × (Nat → Int32)) => v = none ∧ ((u.1 (3 * dd) = nI (tsz T)) ∧ (∀ j, j < 3 * dd ∨ 3 * dd + 3 ≤ j → u.1 j = frm j))) (fun C (u : (Nat → Int32) × (Nat → Int32)) => False) 0 0 := by
  refine em_Met.ofW (cc := b_MO_keepForm) (maxL := 5) (ret := none) (by decide) rfl ?_
  intro p e s m args below meth c s₁ B hml hv hno
  obtain ⟨rfl, ⟨hsz, hP, hK, hD0⟩, hE⟩ := hv
  have hx := B.exec
  have hb := B.bytes
  have hr := B.returns
  have hts := atoms_spec (ws := wz y_MO_keepForm b_MO_keepForm 5 none) B.pre
  have hG := wz_G hts
  have hown : s.vm.findClass rn_MO = some m.cls := findClass_of_methodNamed B.named
  have hlocks := B.notSynchronized
  subst hsz
  have hD := hD0.self (sz := s.heap.size)
  have hst := tw_st hP
  generalize hAe : va_A [(h0, .inr (8, mS f tn rm ln lx at_ bd fs dp on os bn df th tp mo_ ev ss so lk rs pt ot cl)), ((f 19), .inl (cI, 27, .inl frm)), ((f 6), .inl (cI, 2000, .inl od)), ((f 18), .inl (cL, 9, .inr (.inl trm))), ((f 3), .inl (cL, 2000, .inr (.inl le))), ((f 4), .inl (cL, 2000, .inr (.inl ri)))] s.heap.size = A at hD hst ⊢
  have hA : ∀ q : Nat, s.heap.size ≤ q → A q := fun q h => by rw [← hAe]; exact Or.inr h
  have hS : va_S A s.heap s.heap [] := va_S.rf
  have hl := lv_entry ([.ref h0, .int (nI dd)]) (n := 5) (Nat.le_of_ble_eq_true rfl)
  rw [lg_entry_eq]
  generalize (lg_sl ([.ref h0, .int (nI dd)]) ++ List.replicate (5 - (lg_sl ([.ref h0, .int (nI dd)])).length) Slot.unset).toArray = ls at hl ⊢
  have hl : lv_has ls 5 [(0, .ref h0), (1, .int (nI dd))] := hl
  refine lv_aload_n hx hb d_MO_keepForm_0 rfl (lv_at hl 0 rfl) ?_
  refine va_get (D := D) (ci := 8) (v := .ref (f 18)) (C := rn_MO) (T := fl_MO) (N := 55) hx hb hG in_MO hown hK hP 0 rfl rfl 30 (by decide) (hG _ k_1221) (fun _ h9 => h9) rfl d_MO_keepForm_1 ?_
  refine lv_iload_n hx hb d_MO_keepForm_4 rfl (lv_at hl 1 rfl) ?_
  refine va_lald hx hb hK hP 3 1 rfl rfl (vp_in_nI (n := dd) (N := 9) (by omega) (by omega)) d_MO_keepForm_5 ?_
  refine W.eq (g2 := F0 m 6 ls [.long (trm dd)]) (by rw [nI_clamp (n := dd) (by omega)]) ?_
  refine lv_lstore_n (lv' := [(2, .long (trm dd)), (0, .ref h0), (1, .int (nI dd))]) hx hb d_MO_keepForm_6 rfl hl (Nat.le_of_ble_eq_true rfl) rfl (fun ls hl => ?_)
  refine lv_aload_n hx hb d_MO_keepForm_7 rfl (lv_at hl 1 rfl) ?_
  refine va_get (D := D) (ci := 8) (v := .ref (f 19)) (C := rn_MO) (T := fl_MO) (N := 55) hx hb hG in_MO hown hK hP 0 rfl rfl 31 (by decide) (hG _ k_1222) (fun _ h9 => h9) rfl d_MO_keepForm_8 ?_
  refine lv_iconst (v := 3) hx hb d_MO_keepForm_11 (by decide) ?_
  refine lv_iload_n hx hb d_MO_keepForm_12 rfl (lv_at hl 2 rfl) ?_
  refine lw_imul (a := 3) (b := dd) hx hb d_MO_keepForm_13 ?_
  refine lv_aload_n hx hb d_MO_keepForm_14 rfl (lv_at hl 1 rfl) ?_
  refine lv_lload_n hx hb d_MO_keepForm_15 rfl (lv_at hl 0 rfl) ?_
  refine em_call (wr := [((f 19), .inl (cI, 27, .inl frm)), ((f 18), .inl (cL, 9, .inr (.inl trm)))]) (em_runV (As := [.long (trm dd)]) (rest := [.int (nI (3 * dd)), .ref (f 19)]) ⟨hx, hb, hml, hown, hG⟩ (mo_cells l D cI cL cZ cC f h0 tn rm ln lx at_ bd fs dp on os bn df th tp mo_ ev ss so lk rs pt ot cl od le ri T (trm dd) _ h1 ho hnt) (cwV 1 hG (gd_V k_1515 k_1517 k_78 k_116 k_1518) rfl rfl rfl (by decide +kernel) ⟨Nat.le_of_ble_eq_true rfl, Nat.le_of_ble_eq_true rfl⟩) (tw_V (q0 := 0) hP hD hK hE hst hS rfl rfl [0, 2, 4, 5] rfl (by decide)) rfl rfl hl.1 rfl (lv_room (Nat.le_of_ble_eq_true rfl)) d_MO_keepForm_16 ⟨Nat.le_of_ble_eq_true rfl, Nat.le_of_ble_eq_true rfl⟩) hP hD hS hA [0, 2, 4, 5] [1, 3] rfl rfl (by decide) (by decide) (fun v u H locs hok hP hD hS => ?_) (fun x C u H locs hbad hxx hP hD hS => ?_)
  · skip
    obtain ⟨od_1, rfl⟩ : ∃ z, z = u := ⟨_, rfl⟩
    obtain ⟨r_2, rfl, hp_3⟩ := hok
    have hres_4 : ((r_2 = nI (tsz T) ∧ tsz T ≤ 2000 ∧ ∃ S, BI le ri od_1 S T (tsz T) (tsz T))) := hp_3
    obtain ⟨rfl, hszT, S, hBI⟩ := hres_4
    have hP : va_P D classes [((f 19), .inl (cI, 27, .inl frm)), ((f 18), .inl (cL, 9, .inr (.inl trm))), (h0, .inr (8, mS f tn rm ln lx at_ bd fs dp on os bn df th tp mo_ ev ss so lk rs pt ot cl)), ((f 6), .inl (cI, 2000, .inl od_1)), ((f 3), .inl (cL, 2000, .inr (.inl le))), ((f 4), .inl (cL, 2000, .inr (.inl ri)))] H := hP
    have hD : va_D A [((f 19), .inl (cI, 27, .inl frm)), ((f 18), .inl (cL, 9, .inr (.inl trm))), (h0, .inr (8, mS f tn rm ln lx at_ bd fs dp on os bn df th tp mo_ ev ss so lk rs pt ot cl)), ((f 6), .inl (cI, 2000, .inl od_1)), ((f 3), .inl (cL, 2000, .inr (.inl le))), ((f 4), .inl (cL, 2000, .inr (.inl ri)))] := hD
    refine W.eq (g2 := F0 m 19 ls [.int (nI (tsz T)), .int (nI (3 * dd)), .ref (f 19)]) rfl ?_
    refine va_iast hx hb hK hP hD hS 0 0 rfl rfl (vp_in_nI (n := 3 * dd) (N := 27) (by omega) (by omega)) d_MO_keepForm_19 (fun H locs hP hD hS => ?_)
    have hP : va_P D classes [((f 19), .inl (cI, 27, .inl (upd frm (nI (3 * dd)).toNatClampNeg (nI (tsz T))))), ((f 18), .inl (cL, 9, .inr (.inl trm))), (h0, .inr (8, mS f tn rm ln lx at_ bd fs dp on os bn df th tp mo_ ev ss so lk rs pt ot cl)), ((f 6), .inl (cI, 2000, .inl od_1)), ((f 3), .inl (cL, 2000, .inr (.inl le))), ((f 4), .inl (cL, 2000, .inr (.inl ri)))] H := hP
    have hD : va_D A [((f 19), .inl (cI, 27, .inl (upd frm (nI (3 * dd)).toNatClampNeg (nI (tsz T))))), ((f 18), .inl (cL, 9, .inr (.inl trm))), (h0, .inr (8, mS f tn rm ln lx at_ bd fs dp on os bn df th tp mo_ ev ss so lk rs pt ot cl)), ((f 6), .inl (cI, 2000, .inl od_1)), ((f 3), .inl (cL, 2000, .inr (.inl le))), ((f 4), .inl (cL, 2000, .inr (.inl ri)))] := hD
    obtain ⟨g_5, eg_5⟩ : ∃ z, z = upd frm (3 * dd) (nI (tsz T)) := ⟨_, rfl⟩
    rw [nI_clamp (n := 3 * dd) (by omega), ← eg_5] at hP hD
    have loop_7 : ∀ (k_6 : Nat) (t2 : Int64) (i : Nat) (Tk : Tr) (H : Heap) (locs : List Loc) (ls : Array Slot), tsz Tk < k_6 → (rep le ri t2 Tk) → (i + tsz Tk ≤ 2000) → lv_has ls 5 [(0, .ref h0), (1, .int (nI dd)), (2, .long t2), (4, .int (nI i))] → va_P D classes [((f 19), .inl (cI, 27, .inl g_5)), ((f 18), .inl (cL, 9, .inr (.inl trm))), (h0, .inr (8, mS f tn rm ln lx at_ bd fs dp on os bn df th tp mo_ ev ss so lk rs pt ot cl)), ((f 6), .inl (cI, 2000, .inl od_1)), ((f 3), .inl (cL, 2000, .inr (.inl le))), ((f 4), .inl (cL, 2000, .inr (.inl ri)))] H → va_D A [((f 19), .inl (cI, 27, .inl g_5)), ((f 18), .inl (cL, 9, .inr (.inl trm))), (h0, .inr (8, mS f tn rm ln lx at_ bd fs dp on os bn df th tp mo_ ev ss so lk rs pt ot cl)), ((f 6), .inl (cI, 2000, .inl od_1)), ((f 3), .inl (cL, 2000, .inr (.inl le))), ((f 4), .inl (cL, 2000, .inr (.inl ri)))] → va_S A s.heap H locs → W p l e (headSpec (wz y_MO_keepForm b_MO_keepForm 5 none) ({ frames := 2, cells := 0, slots := 0, locals := 46 })).room s m ([.ref h0, .int (nI dd)] : List Value).toArray below meth c H locs 0 0 (em_MQ below D (tys4 cI cL cZ cC) A (fun (u : (Nat → Int32) × (Nat → Int32)) => [(h0, .inr (8, mS f tn rm ln lx at_ bd fs dp on os bn df th tp mo_ ev ss so lk rs pt ot cl)), ((f 19), .inl (cI, 27, .inl u.1)), ((f 6), .inl (cI, 2000, .inl u.2)), ((f 18), .inl (cL, 9, .inr (.inl trm))), ((f 3), .inl (cL, 2000, .inr (.inl le))), ((f 4), .inl (cL, 2000, .inr (.inl ri)))]) (fun v (u : (Nat → Int32) × (Nat → Int32)) => v = none ∧ ((u.1 (3 * dd) = nI (tsz T)) ∧ (∀ j, j < 3 * dd ∨ 3 * dd + 3 ≤ j → u.1 j = frm j))) (fun C (u : (Nat → Int32) × (Nat → Int32)) => False) s 0 0) (F0 m 23 ls []) := by
      intro k_6
      induction k_6 with
      | zero => intro t2 i Tk H locs ls hm; exact absurd hm (Nat.not_lt_zero _)
      | succ k_6 ih_8 =>
        intro t2 i Tk H locs ls hm hrk hik hl hP hD hS
        refine lv_lload_n hx hb d_MO_keepForm_23 rfl (lv_at hl 2 rfl) ?_
        refine W.callR (W.runS (As := [.long t2]) (rest := []) ⟨hx, hb, hml, hown, hG⟩ (mo_kindOf l D cI cL cZ cC t2 ) (cwS 1 hG (gd_S k_1519 k_1520 k_116 k_1521) rfl rfl rfl (by decide +kernel) ⟨Nat.le_of_ble_eq_true rfl, Nat.le_of_ble_eq_true rfl⟩) (wq_S hP hK [] rfl) rfl rfl hl.1 rfl (lv_room (Nat.le_of_ble_eq_true rfl)) d_MO_keepForm_24 ⟨Nat.le_of_ble_eq_true rfl, Nat.le_of_ble_eq_true rfl⟩) ?_
        refine W.eq (g2 := F0 m 27 ls [.int (wkind t2)]) rfl ?_
        refine lv_iconst (v := 3) hx hb d_MO_keepForm_27 (by decide) ?_
        refine lv_icmp_ne (tgt := 47) hx hb d_MO_keepForm_28 (by decide) (fun hb_9 => ?_) (fun hb_9 => ?_)
        · skip
          refine lv_aload_n hx hb d_MO_keepForm_47 rfl (lv_at hl 0 rfl) ?_
          refine va_get (D := D) (ci := 8) (v := .ref (f 19)) (C := rn_MO) (T := fl_MO) (N := 55) hx hb hG in_MO hown hK hP 2 rfl rfl 31 (by decide) (hG _ k_1222) (fun _ h9 => h9) rfl d_MO_keepForm_48 ?_
          refine lv_iconst (v := 3) hx hb d_MO_keepForm_51 (by decide) ?_
          refine lv_iload_n hx hb d_MO_keepForm_52 rfl (lv_at hl 1 rfl) ?_
          refine lw_imul (a := 3) (b := dd) hx hb d_MO_keepForm_53 ?_
          refine lv_iconst (v := 1) hx hb d_MO_keepForm_54 (by decide) ?_
          refine lw_iadd (a := 3 * dd) (b := 1) hx hb d_MO_keepForm_55 ?_
          refine lv_iload hx hb d_MO_keepForm_56 (lv_at hl 3 rfl) ?_
          refine va_iast hx hb hK hP hD hS 0 0 rfl rfl (vp_in_nI (n := (3 * dd) + 1) (N := 27) (by omega) (by omega)) d_MO_keepForm_58 (fun H locs hP hD hS => ?_)
          have hP : va_P D classes [((f 19), .inl (cI, 27, .inl (upd g_5 (nI ((3 * dd) + 1)).toNatClampNeg (nI i)))), ((f 18), .inl (cL, 9, .inr (.inl trm))), (h0, .inr (8, mS f tn rm ln lx at_ bd fs dp on os bn df th tp mo_ ev ss so lk rs pt ot cl)), ((f 6), .inl (cI, 2000, .inl od_1)), ((f 3), .inl (cL, 2000, .inr (.inl le))), ((f 4), .inl (cL, 2000, .inr (.inl ri)))] H := hP
          have hD : va_D A [((f 19), .inl (cI, 27, .inl (upd g_5 (nI ((3 * dd) + 1)).toNatClampNeg (nI i)))), ((f 18), .inl (cL, 9, .inr (.inl trm))), (h0, .inr (8, mS f tn rm ln lx at_ bd fs dp on os bn df th tp mo_ ev ss so lk rs pt ot cl)), ((f 6), .inl (cI, 2000, .inl od_1)), ((f 3), .inl (cL, 2000, .inr (.inl le))), ((f 4), .inl (cL, 2000, .inr (.inl ri)))] := hD
          obtain ⟨g_10, eg_10⟩ : ∃ z, z = upd g_5 ((3 * dd) + 1) (nI i) := ⟨_, rfl⟩
          rw [nI_clamp (n := (3 * dd) + 1) (by omega), ← eg_10] at hP hD
          refine lv_aload_n hx hb d_MO_keepForm_59 rfl (lv_at hl 0 rfl) ?_
          refine va_get (D := D) (ci := 8) (v := .ref (f 19)) (C := rn_MO) (T := fl_MO) (N := 55) hx hb hG in_MO hown hK hP 2 rfl rfl 31 (by decide) (hG _ k_1222) (fun _ h9 => h9) rfl d_MO_keepForm_60 ?_
          refine lv_iconst (v := 3) hx hb d_MO_keepForm_63 (by decide) ?_
          refine lv_iload_n hx hb d_MO_keepForm_64 rfl (lv_at hl 1 rfl) ?_
          refine lw_imul (a := 3) (b := dd) hx hb d_MO_keepForm_65 ?_
          refine lv_iconst (v := 2) hx hb d_MO_keepForm_66 (by decide) ?_
          refine lw_iadd (a := 3 * dd) (b := 2) hx hb d_MO_keepForm_67 ?_
          refine lv_lload_n hx hb d_MO_keepForm_68 rfl (lv_at hl 2 rfl) ?_
          refine W.callR (W.runS (As := [.long t2]) (rest := [.int (nI ((3 * dd) + 2)), .ref (f 19)]) ⟨hx, hb, hml, hown, hG⟩ (mo_kindOf l D cI cL cZ cC t2 ) (cwS 1 hG (gd_S k_1519 k_1520 k_116 k_1521) rfl rfl rfl (by decide +kernel) ⟨Nat.le_of_ble_eq_true rfl, Nat.le_of_ble_eq_true rfl⟩) (wq_S hP hK [] rfl) rfl rfl hl.1 rfl (lv_room (Nat.le_of_ble_eq_true rfl)) d_MO_keepForm_69 ⟨Nat.le_of_ble_eq_true rfl, Nat.le_of_ble_eq_true rfl⟩) ?_
          refine W.eq (g2 := F0 m 72 ls [.int (wkind t2), .int (nI ((3 * dd) + 2)), .ref (f 19)]) rfl ?_
          refine lv_iconst (v := 2) hx hb d_MO_keepForm_72 (by decide) ?_
          refine lv_icmp_ne (tgt := 83) hx hb d_MO_keepForm_73 (by decide) (fun hb_11 => ?_) (fun hb_11 => ?_)
          · skip
            refine lv_lload_n hx hb d_MO_keepForm_83 rfl (lv_at hl 2 rfl) ?_
            refine W.callR (W.runS (As := [.long t2]) (rest := [.int (nI ((3 * dd) + 2)), .ref (f 19)]) ⟨hx, hb, hml, hown, hG⟩ (mo_kindOf l D cI cL cZ cC t2 ) (cwS 1 hG (gd_S k_1519 k_1520 k_116 k_1521) rfl rfl rfl (by decide +kernel) ⟨Nat.le_of_ble_eq_true rfl, Nat.le_of_ble_eq_true rfl⟩) (wq_S hP hK [] rfl) rfl rfl hl.1 rfl (lv_room (Nat.le_of_ble_eq_true rfl)) d_MO_keepForm_84 ⟨Nat.le_of_ble_eq_true rfl, Nat.le_of_ble_eq_true rfl⟩) ?_
            refine W.eq (g2 := F0 m 87 ls [.int (wkind t2), .int (nI ((3 * dd) + 2)), .ref (f 19)]) rfl ?_
            refine va_iast hx hb hK hP hD hS 0 0 rfl rfl (vp_in_nI (n := (3 * dd) + 2) (N := 27) (by omega) (by omega)) d_MO_keepForm_87 (fun H locs hP hD hS => ?_)
            have hP : va_P D classes [((f 19), .inl (cI, 27, .inl (upd g_10 (nI ((3 * dd) + 2)).toNatClampNeg (wkind t2)))), ((f 18), .inl (cL, 9, .inr (.inl trm))), (h0, .inr (8, mS f tn rm ln lx at_ bd fs dp on os bn df th tp mo_ ev ss so lk rs pt ot cl)), ((f 6), .inl (cI, 2000, .inl od_1)), ((f 3), .inl (cL, 2000, .inr (.inl le))), ((f 4), .inl (cL, 2000, .inr (.inl ri)))] H := hP
            have hD : va_D A [((f 19), .inl (cI, 27, .inl (upd g_10 (nI ((3 * dd) + 2)).toNatClampNeg (wkind t2)))), ((f 18), .inl (cL, 9, .inr (.inl trm))), (h0, .inr (8, mS f tn rm ln lx at_ bd fs dp on os bn df th tp mo_ ev ss so lk rs pt ot cl)), ((f 6), .inl (cI, 2000, .inl od_1)), ((f 3), .inl (cL, 2000, .inr (.inl le))), ((f 4), .inl (cL, 2000, .inr (.inl ri)))] := hD
            obtain ⟨g_12, eg_12⟩ : ∃ z, z = upd g_10 ((3 * dd) + 2) (wkind t2) := ⟨_, rfl⟩
            rw [nI_clamp (n := (3 * dd) + 2) (by omega), ← eg_12] at hP hD
            exact em_vret hx hb hr hlocks hP hD hK hS (g_12, od_1) [2, 0, 3, 1, 4, 5] (by decide) rfl ⟨rfl, ⟨(show g_12 (3 * dd) = nI (tsz T) from (by rw [eg_12, upd_ne (by omega), eg_10, upd_ne (by omega), eg_5, upd_at rfl])), (show ∀ j, j < 3 * dd ∨ 3 * dd + 3 ≤ j → g_12 j = frm j from (fun j hj => by rw [eg_12, upd_ne (by omega), eg_10, upd_ne (by omega), eg_5, upd_ne (by omega)]))⟩⟩ d_MO_keepForm_88
          · skip
            refine lv_lload_n hx hb d_MO_keepForm_76 rfl (lv_at hl 2 rfl) ?_
            refine W.callR (W.runS (As := [.long t2]) (rest := [.int (nI ((3 * dd) + 2)), .ref (f 19)]) ⟨hx, hb, hml, hown, hG⟩ (mo_valueOf l D cI cL cZ cC t2 ) (cwS 1 hG (gd_S k_1522 k_1523 k_116 k_1524) rfl rfl rfl (by decide +kernel) ⟨Nat.le_of_ble_eq_true rfl, Nat.le_of_ble_eq_true rfl⟩) (wq_S hP hK [] rfl) rfl rfl hl.1 rfl (lv_room (Nat.le_of_ble_eq_true rfl)) d_MO_keepForm_77 ⟨Nat.le_of_ble_eq_true rfl, Nat.le_of_ble_eq_true rfl⟩) ?_
            refine W.eq (g2 := F0 m 80 ls [.int t2.toInt32, .int (nI ((3 * dd) + 2)), .ref (f 19)]) rfl ?_
            refine lv_goto (tgt := 87) hx hb d_MO_keepForm_80 (by decide) ?_
            refine va_iast hx hb hK hP hD hS 0 0 rfl rfl (vp_in_nI (n := (3 * dd) + 2) (N := 27) (by omega) (by omega)) d_MO_keepForm_87 (fun H locs hP hD hS => ?_)
            have hP : va_P D classes [((f 19), .inl (cI, 27, .inl (upd g_10 (nI ((3 * dd) + 2)).toNatClampNeg t2.toInt32))), ((f 18), .inl (cL, 9, .inr (.inl trm))), (h0, .inr (8, mS f tn rm ln lx at_ bd fs dp on os bn df th tp mo_ ev ss so lk rs pt ot cl)), ((f 6), .inl (cI, 2000, .inl od_1)), ((f 3), .inl (cL, 2000, .inr (.inl le))), ((f 4), .inl (cL, 2000, .inr (.inl ri)))] H := hP
            have hD : va_D A [((f 19), .inl (cI, 27, .inl (upd g_10 (nI ((3 * dd) + 2)).toNatClampNeg t2.toInt32))), ((f 18), .inl (cL, 9, .inr (.inl trm))), (h0, .inr (8, mS f tn rm ln lx at_ bd fs dp on os bn df th tp mo_ ev ss so lk rs pt ot cl)), ((f 6), .inl (cI, 2000, .inl od_1)), ((f 3), .inl (cL, 2000, .inr (.inl le))), ((f 4), .inl (cL, 2000, .inr (.inl ri)))] := hD
            obtain ⟨g_13, eg_13⟩ : ∃ z, z = upd g_10 ((3 * dd) + 2) t2.toInt32 := ⟨_, rfl⟩
            rw [nI_clamp (n := (3 * dd) + 2) (by omega), ← eg_13] at hP hD
            exact em_vret hx hb hr hlocks hP hD hK hS (g_13, od_1) [2, 0, 3, 1, 4, 5] (by decide) rfl ⟨rfl, ⟨(show g_13 (3 * dd) = nI (tsz T) from (by rw [eg_13, upd_ne (by omega), eg_10, upd_ne (by omega), eg_5, upd_at rfl])), (show ∀ j, j < 3 * dd ∨ 3 * dd + 3 ≤ j → g_13 j = frm j from (fun j hj => by rw [eg_13, upd_ne (by omega), eg_10, upd_ne (by omega), eg_5, upd_ne (by omega)]))⟩⟩ d_MO_keepForm_88
        · skip
          obtain ⟨cc, ta, tb, eT, ecc, hcc, hra, hrb⟩ := rep_cell hrk hb_9
          have hszk : tsz Tk = 1 + tsz ta + tsz tb := by rw [eT]; rfl
          refine lv_aload_n hx hb d_MO_keepForm_31 rfl (lv_at hl 0 rfl) ?_
          refine va_get (D := D) (ci := 8) (v := .ref (f 3)) (C := rn_MO) (T := fl_MO) (N := 55) hx hb hG in_MO hown hK hP 2 rfl rfl 9 (by decide) (hG _ k_1200) (fun _ h9 => h9) rfl d_MO_keepForm_32 ?_
          refine lv_lload_n hx hb d_MO_keepForm_35 rfl (lv_at hl 2 rfl) ?_
          refine W.callR (W.runS (As := [.long t2]) (rest := [.ref (f 3)]) ⟨hx, hb, hml, hown, hG⟩ (mo_valueOf l D cI cL cZ cC t2 ) (cwS 1 hG (gd_S k_1522 k_1523 k_116 k_1524) rfl rfl rfl (by decide +kernel) ⟨Nat.le_of_ble_eq_true rfl, Nat.le_of_ble_eq_true rfl⟩) (wq_S hP hK [] rfl) rfl rfl hl.1 rfl (lv_room (Nat.le_of_ble_eq_true rfl)) d_MO_keepForm_36 ⟨Nat.le_of_ble_eq_true rfl, Nat.le_of_ble_eq_true rfl⟩) ?_
          refine W.eq (g2 := F0 m 39 ls [.int t2.toInt32, .ref (f 3)]) rfl ?_
          refine W.eq (g2 := F0 m 39 ls [.int (nI cc), .ref (f 3)]) (by rw [ecc]) ?_
          refine va_lald hx hb hK hP 4 1 rfl rfl (vp_in_nI (n := cc) (N := 2000) (by omega) (by omega)) d_MO_keepForm_39 ?_
          refine W.eq (g2 := F0 m 40 ls [.long (le cc)]) (by rw [nI_clamp (n := cc) (by omega)]) ?_
          refine lv_lstore_n (lv' := [(2, .long (le cc)), (0, .ref h0), (1, .int (nI dd)), (4, .int (nI i))]) hx hb d_MO_keepForm_40 rfl hl (Nat.le_of_ble_eq_true rfl) rfl (fun ls hl => ?_)
          refine lv_iinc (k := 3) (v := nI (i + 1)) (lv' := [(4, .int (nI (i + 1))), (2, .long (le cc)), (0, .ref h0), (1, .int (nI dd))]) hx hb d_MO_keepForm_41 hl rfl (lw_inc i 1) (Nat.le_of_ble_eq_true rfl) rfl (fun ls hl => ?_)
          refine lv_goto (tgt := 23) hx hb d_MO_keepForm_44 (by decide) ?_
          have hl := lv_sub (l' := [(0, .ref h0), (1, .int (nI dd)), (2, .long (le cc)), (4, .int (nI (i + 1)))]) hl [2, 3, 1, 0] rfl
          exact ih_8 (le cc) (i + 1) ta _ _ _ (by omega) hra (by omega) hl hP hD hS
    refine lv_iconst (v := 0) hx hb d_MO_keepForm_20 (by decide) ?_
    refine lv_istore (lv' := [(4, .int 0), (2, .long (trm dd)), (0, .ref h0), (1, .int (nI dd))]) hx hb d_MO_keepForm_21 hl (Nat.le_of_ble_eq_true rfl) rfl (fun ls hl => ?_)
    have hl := lv_sub (l' := [(0, .ref h0), (1, .int (nI dd)), (2, .long (trm dd)), (4, .int 0)]) hl [2, 3, 1, 0] rfl
    exact loop_7 _ (trm dd) 0 T _ _ _ (Nat.lt_succ_self _) h1 (by omega) hl hP hD hS
  · skip
    exact hbad.elim
set_option maxHeartbeats 8000000 in
set_option maxRecDepth 100000 in
theorem mo_moved (l : Launch) (D : va_G) (cI cL cZ cC : ClassId) (f : Nat → Nat) (h0 : Nat) (tn : Int32) (rm : Nat) (ln : Nat) (lx : Nat) (at_ : Nat) (bd : Int32) (fs : Nat) (dp : Nat) (on : Nat) (os : Nat) (bn : Nat) (df : Nat) (th : Int32) (tp : Nat) (mo_ : Int32) (ev : Nat) (ss : Int32) (so : Int32) (lk : Int64) (rs : Int64) (pt : Int32) (ot : Nat) (cl : Int32) (one : Nat → Int64) (two : Nat → Int64) (plc : Nat → Int32) (od : Nat → Int32) (le : Nat → Int64) (ri : Nat → Int64) (T : Tr) (az : Nat) (nd0 : Nat) (t : Int64) (fm : Nat) (sz : Nat) (h1 : rep le ri t T) (ho : ∀ d, toc T d ≤ 1) (hok : okT (okw nd0 0) T) (hfm : fm + tsz T ≤ az) (haz : az ≤ 400) (hnt : l.stackTraces = false) : em_Met l y_MO_moved (wz y_MO_moved b_MO_moved 10 (some .long)) ({ frames := 2, cells := 0, slots := 0, locals := 46 }) (va_Pc [.ref h0, .long t, .int (nI fm)] (tw_pre D (tys4 cI cL cZ cC) [(h0, .inr (8, mS f tn rm ln lx at_ bd fs dp on os bn df th tp mo_ ev ss so lk rs pt ot cl)), ((f 20), .inl (cL, 400, .inr (.inl one))), ((f 21), .inl (cL, 400, .inr (.inl two))), ((f 31), .inl (cI, 2000, .inl plc)), ((f 6), .inl (cI, 2000, .inl od)), ((f 3), .inl (cL, 2000, .inr (.inl le))), ((f 4), .inl (cL, 2000, .inr (.inl ri)))] sz)) D (tys4 cI cL cZ cC) (va_A [(h0, .inr (8, mS f tn rm ln lx at_ bd fs dp on os bn df th tp mo_ ev ss so lk rs pt ot cl)), ((f 20), .inl (cL, 400, .inr (.inl one))), ((f 21), .inl (cL, 400, .inr (.inl two))), ((f 31), .inl (cI, 2000, .inl plc)), ((f 6), .inl (cI, 2000, .inl od)), ((f 3), .inl (cL, 2000, .inr (.inl le))), ((f 4), .inl (cL, 2000, .inr (.inl ri)))] sz) (fun (u : (Nat → Int64) × (Nat → Int64) × (Nat → Int32) × (Nat → Int32)) => [(h0, .inr (8, mS f tn rm ln lx at_ bd fs dp on os bn df th tp mo_ ev ss so lk rs pt ot cl)), ((f 20), .inl (cL, 400, .inr (.inl u.1))), ((f 21), .inl (cL, 400, .inr (.inl u.2.1))), ((f 31), .inl (cI, 2000, .inl u.2.2.1)), ((f 6), .inl (cI, 2000, .inl u.2.2.2)), ((f 3), .inl (cL, 2000, .inr (.inl le))), ((f 4), .inl (cL, 2000, .inr (.inl ri)))]) (fun v (u : (Nat → Int64) × (Nat → Int64) × (Nat → Int32) × (Nat → Int32)) => ∃ r : Int64, v = some (.long r) ∧ ((∀ j, fm ≤ j → j < fm + tsz T → okh nd0 (fun c => c < az) (u.1 j) ∧ okh nd0 (fun c => c < az) (u.2.1 j)) ∧ (∀ j, j < fm → u.1 j = one j ∧ u.2.1 j = two j) ∧ (okh nd0 (fun c => c < az) r))) (fun C (u : (Nat → Int64) × (Nat → Int64) × (Nat → Int32) × (Nat → Int32)) => False) 0 0 := by
  refine em_Met.ofW (cc := b_MO_moved) (maxL := 10) (ret := (some .long)) (by decide) rfl ?_
  intro p e s m args below meth c s₁ B hml hv hno
  obtain ⟨rfl, ⟨hsz, hP, hK, hD0⟩, hE⟩ := hv
  have hx := B.exec
  have hb := B.bytes
  have hr := B.returns
  have hts := atoms_spec (ws := wz y_MO_moved b_MO_moved 10 (some .long)) B.pre
  have hG := wz_G hts
  have hown : s.vm.findClass rn_MO = some m.cls := findClass_of_methodNamed B.named
  have hlocks := B.notSynchronized
  subst hsz
  have hD := hD0.self (sz := s.heap.size)
  have hst := tw_st hP
  generalize hAe : va_A [(h0, .inr (8, mS f tn rm ln lx at_ bd fs dp on os bn df th tp mo_ ev ss so lk rs pt ot cl)), ((f 20), .inl (cL, 400, .inr (.inl one))), ((f 21), .inl (cL, 400, .inr (.inl two))), ((f 31), .inl (cI, 2000, .inl plc)), ((f 6), .inl (cI, 2000, .inl od)), ((f 3), .inl (cL, 2000, .inr (.inl le))), ((f 4), .inl (cL, 2000, .inr (.inl ri)))] s.heap.size = A at hD hst ⊢
  have hA : ∀ q : Nat, s.heap.size ≤ q → A q := fun q h => by rw [← hAe]; exact Or.inr h
  have hS : va_S A s.heap s.heap [] := va_S.rf
  have hl := lv_entry ([.ref h0, .long t, .int (nI fm)]) (n := 10) (Nat.le_of_ble_eq_true rfl)
  rw [lg_entry_eq]
  generalize (lg_sl ([.ref h0, .long t, .int (nI fm)]) ++ List.replicate (10 - (lg_sl ([.ref h0, .long t, .int (nI fm)])).length) Slot.unset).toArray = ls at hl ⊢
  have hl : lv_has ls 10 [(0, .ref h0), (1, .long t), (3, .int (nI fm))] := hl
  refine lv_lload_n hx hb d_MO_moved_0 rfl (lv_at hl 1 rfl) ?_
  refine W.callR (W.runS (As := [.long t]) (rest := []) ⟨hx, hb, hml, hown, hG⟩ (mo_kindOf l D cI cL cZ cC t ) (cwS 1 hG (gd_S k_1519 k_1520 k_116 k_1521) rfl rfl rfl (by decide +kernel) ⟨Nat.le_of_ble_eq_true rfl, Nat.le_of_ble_eq_true rfl⟩) (wq_S hP hK [] rfl) rfl rfl hl.1 rfl (lv_room (Nat.le_of_ble_eq_true rfl)) d_MO_moved_1 ⟨Nat.le_of_ble_eq_true rfl, Nat.le_of_ble_eq_true rfl⟩) ?_
  refine W.eq (g2 := F0 m 4 ls [.int (wkind t)]) rfl ?_
  refine lv_iconst (v := 3) hx hb d_MO_moved_4 (by decide) ?_
  refine lv_icmp_eq (tgt := 10) hx hb d_MO_moved_5 (by decide) (fun hb_1 => ?_) (fun hb_1 => ?_)
  · skip
    have hi1 := isn_1 h1 hb_1
    have hz1 := sz_isn T
    refine lv_aload_n hx hb d_MO_moved_10 rfl (lv_at hl 0 rfl) ?_
    refine lv_lload_n hx hb d_MO_moved_11 rfl (lv_at hl 1 rfl) ?_
    refine em_call (wr := [((f 20), .inl (cL, 400, .inr (.inl one))), ((f 21), .inl (cL, 400, .inr (.inl two))), ((f 31), .inl (cI, 2000, .inl plc))]) (em_runV (As := [.long t]) (rest := []) ⟨hx, hb, hml, hown, hG⟩ (mo_cells l D cI cL cZ cC f h0 tn rm ln lx at_ bd fs dp on os bn df th tp mo_ ev ss so lk rs pt ot cl od le ri T t _ h1 ho hnt) (cwV 1 hG (gd_V k_1515 k_1517 k_78 k_116 k_1518) rfl rfl rfl (by decide +kernel) ⟨Nat.le_of_ble_eq_true rfl, Nat.le_of_ble_eq_true rfl⟩) (tw_V (q0 := 0) hP hD hK hE hst hS rfl rfl [0, 4, 5, 6] rfl (by decide)) rfl rfl hl.1 rfl (lv_room (Nat.le_of_ble_eq_true rfl)) d_MO_moved_12 ⟨Nat.le_of_ble_eq_true rfl, Nat.le_of_ble_eq_true rfl⟩) hP hD hS hA [0, 4, 5, 6] [1, 2, 3] rfl rfl (by decide) (by decide) (fun v u H locs hok hP hD hS => ?_) (fun x C u H locs hbad hxx hP hD hS => ?_)
    · skip
      obtain ⟨od_2, rfl⟩ : ∃ z, z = u := ⟨_, rfl⟩
      obtain ⟨r_3, rfl, hp_4⟩ := hok
      have hres_5 : ((r_3 = nI (tsz T) ∧ tsz T ≤ 2000 ∧ ∃ S, BI le ri od_2 S T (tsz T) (tsz T))) := hp_4
      obtain ⟨rfl, hszT, S, hBI⟩ := hres_5
      have hP : va_P D classes [((f 20), .inl (cL, 400, .inr (.inl one))), ((f 21), .inl (cL, 400, .inr (.inl two))), ((f 31), .inl (cI, 2000, .inl plc)), (h0, .inr (8, mS f tn rm ln lx at_ bd fs dp on os bn df th tp mo_ ev ss so lk rs pt ot cl)), ((f 6), .inl (cI, 2000, .inl od_2)), ((f 3), .inl (cL, 2000, .inr (.inl le))), ((f 4), .inl (cL, 2000, .inr (.inl ri)))] H := hP
      have hD : va_D A [((f 20), .inl (cL, 400, .inr (.inl one))), ((f 21), .inl (cL, 400, .inr (.inl two))), ((f 31), .inl (cI, 2000, .inl plc)), (h0, .inr (8, mS f tn rm ln lx at_ bd fs dp on os bn df th tp mo_ ev ss so lk rs pt ot cl)), ((f 6), .inl (cI, 2000, .inl od_2)), ((f 3), .inl (cL, 2000, .inr (.inl le))), ((f 4), .inl (cL, 2000, .inr (.inl ri)))] := hD
      refine W.eq (g2 := F0 m 15 ls [.int (nI (tsz T))]) rfl ?_
      refine lv_istore (lv' := [(4, .int (nI (tsz T))), (0, .ref h0), (1, .long t), (3, .int (nI fm))]) hx hb d_MO_moved_15 hl (Nat.le_of_ble_eq_true rfl) rfl (fun ls hl => ?_)
      have loop_7 : ∀ (k_6 : Nat) (i : Nat) (plc1 : Nat → Int32) (H : Heap) (locs : List Loc) (ls : Array Slot), tsz T - i < k_6 → (i ≤ tsz T) → (∀ j, j < i → ∀ c a b, S j = .branch c a b → ∃ i, i < tsz T ∧ plc1 c = nI (fm + i)) → lv_has ls 10 [(0, .ref h0), (1, .long t), (3, .int (nI fm)), (4, .int (nI (tsz T))), (5, .int (nI i))] → va_P D classes [((f 20), .inl (cL, 400, .inr (.inl one))), ((f 21), .inl (cL, 400, .inr (.inl two))), ((f 31), .inl (cI, 2000, .inl plc1)), (h0, .inr (8, mS f tn rm ln lx at_ bd fs dp on os bn df th tp mo_ ev ss so lk rs pt ot cl)), ((f 6), .inl (cI, 2000, .inl od_2)), ((f 3), .inl (cL, 2000, .inr (.inl le))), ((f 4), .inl (cL, 2000, .inr (.inl ri)))] H → va_D A [((f 20), .inl (cL, 400, .inr (.inl one))), ((f 21), .inl (cL, 400, .inr (.inl two))), ((f 31), .inl (cI, 2000, .inl plc1)), (h0, .inr (8, mS f tn rm ln lx at_ bd fs dp on os bn df th tp mo_ ev ss so lk rs pt ot cl)), ((f 6), .inl (cI, 2000, .inl od_2)), ((f 3), .inl (cL, 2000, .inr (.inl le))), ((f 4), .inl (cL, 2000, .inr (.inl ri)))] → va_S A s.heap H locs → W p l e (headSpec (wz y_MO_moved b_MO_moved 10 (some .long)) ({ frames := 2, cells := 0, slots := 0, locals := 46 })).room s m ([.ref h0, .long t, .int (nI fm)] : List Value).toArray below meth c H locs 0 0 (em_MQ below D (tys4 cI cL cZ cC) A (fun (u : (Nat → Int64) × (Nat → Int64) × (Nat → Int32) × (Nat → Int32)) => [(h0, .inr (8, mS f tn rm ln lx at_ bd fs dp on os bn df th tp mo_ ev ss so lk rs pt ot cl)), ((f 20), .inl (cL, 400, .inr (.inl u.1))), ((f 21), .inl (cL, 400, .inr (.inl u.2.1))), ((f 31), .inl (cI, 2000, .inl u.2.2.1)), ((f 6), .inl (cI, 2000, .inl u.2.2.2)), ((f 3), .inl (cL, 2000, .inr (.inl le))), ((f 4), .inl (cL, 2000, .inr (.inl ri)))]) (fun v (u : (Nat → Int64) × (Nat → Int64) × (Nat → Int32) × (Nat → Int32)) => ∃ r : Int64, v = some (.long r) ∧ ((∀ j, fm ≤ j → j < fm + tsz T → okh nd0 (fun c => c < az) (u.1 j) ∧ okh nd0 (fun c => c < az) (u.2.1 j)) ∧ (∀ j, j < fm → u.1 j = one j ∧ u.2.1 j = two j) ∧ (okh nd0 (fun c => c < az) r))) (fun C (u : (Nat → Int64) × (Nat → Int64) × (Nat → Int32) × (Nat → Int32)) => False) s 0 0) (F0 m 20 ls []) := by
        intro k_6
        induction k_6 with
        | zero => intro i plc1 H locs ls hm; exact absurd hm (Nat.not_lt_zero _)
        | succ k_6 ih_8 =>
          intro i plc1 H locs ls hm hi hpl hl hP hD hS
          refine lv_iload hx hb d_MO_moved_20 (lv_at hl 4 rfl) ?_
          refine lv_iload hx hb d_MO_moved_22 (lv_at hl 3 rfl) ?_
          refine lv_icmp_ge (tgt := 49) hx hb d_MO_moved_24 (by decide) (fun hb_9 => ?_) (fun hb_9 => ?_)
          · skip
            have hn_10 : (tsz T) ≤ i := (nI_leI (a := tsz T) (b := i) (by omega) (by omega)).mp hb_9
            have hpl1 : ∀ j, j < tsz T → ∀ c a b, S j = .branch c a b → ∃ i, i < tsz T ∧ plc1 c = nI (fm + i) := fun j hj => hpl j (by omega)
            have loop_12 : ∀ (k_11 : Nat) (k2 : Nat) (one2 : Nat → Int64) (two2 : Nat → Int64) (H : Heap) (locs : List Loc) (ls : Array Slot), tsz T - k2 < k_11 → (k2 ≤ tsz T) → (∀ j, fm ≤ j → j < fm + k2 → okh nd0 (fun c => c < az) (one2 j) ∧ okh nd0 (fun c => c < az) (two2 j)) → (∀ j, j < fm → one2 j = one j ∧ two2 j = two j) → lv_has ls 10 [(0, .ref h0), (3, .int (nI fm)), (4, .int (nI (tsz T))), (5, .int (nI k2))] → va_P D classes [((f 20), .inl (cL, 400, .inr (.inl one2))), ((f 21), .inl (cL, 400, .inr (.inl two2))), ((f 31), .inl (cI, 2000, .inl plc1)), (h0, .inr (8, mS f tn rm ln lx at_ bd fs dp on os bn df th tp mo_ ev ss so lk rs pt ot cl)), ((f 6), .inl (cI, 2000, .inl od_2)), ((f 3), .inl (cL, 2000, .inr (.inl le))), ((f 4), .inl (cL, 2000, .inr (.inl ri)))] H → va_D A [((f 20), .inl (cL, 400, .inr (.inl one2))), ((f 21), .inl (cL, 400, .inr (.inl two2))), ((f 31), .inl (cI, 2000, .inl plc1)), (h0, .inr (8, mS f tn rm ln lx at_ bd fs dp on os bn df th tp mo_ ev ss so lk rs pt ot cl)), ((f 6), .inl (cI, 2000, .inl od_2)), ((f 3), .inl (cL, 2000, .inr (.inl le))), ((f 4), .inl (cL, 2000, .inr (.inl ri)))] → va_S A s.heap H locs → W p l e (headSpec (wz y_MO_moved b_MO_moved 10 (some .long)) ({ frames := 2, cells := 0, slots := 0, locals := 46 })).room s m ([.ref h0, .long t, .int (nI fm)] : List Value).toArray below meth c H locs 0 0 (em_MQ below D (tys4 cI cL cZ cC) A (fun (u : (Nat → Int64) × (Nat → Int64) × (Nat → Int32) × (Nat → Int32)) => [(h0, .inr (8, mS f tn rm ln lx at_ bd fs dp on os bn df th tp mo_ ev ss so lk rs pt ot cl)), ((f 20), .inl (cL, 400, .inr (.inl u.1))), ((f 21), .inl (cL, 400, .inr (.inl u.2.1))), ((f 31), .inl (cI, 2000, .inl u.2.2.1)), ((f 6), .inl (cI, 2000, .inl u.2.2.2)), ((f 3), .inl (cL, 2000, .inr (.inl le))), ((f 4), .inl (cL, 2000, .inr (.inl ri)))]) (fun v (u : (Nat → Int64) × (Nat → Int64) × (Nat → Int32) × (Nat → Int32)) => ∃ r : Int64, v = some (.long r) ∧ ((∀ j, fm ≤ j → j < fm + tsz T → okh nd0 (fun c => c < az) (u.1 j) ∧ okh nd0 (fun c => c < az) (u.2.1 j)) ∧ (∀ j, j < fm → u.1 j = one j ∧ u.2.1 j = two j) ∧ (okh nd0 (fun c => c < az) r))) (fun C (u : (Nat → Int64) × (Nat → Int64) × (Nat → Int32) × (Nat → Int32)) => False) s 0 0) (F0 m 52 ls []) := by
              intro k_11
              induction k_11 with
              | zero => intro k2 one2 two2 H locs ls hm; exact absurd hm (Nat.not_lt_zero _)
              | succ k_11 ih_13 =>
                intro k2 one2 two2 H locs ls hm hi2 hw2 hlo hl hP hD hS
                refine lv_iload hx hb d_MO_moved_52 (lv_at hl 3 rfl) ?_
                refine lv_iload hx hb d_MO_moved_54 (lv_at hl 2 rfl) ?_
                refine lv_icmp_ge (tgt := 167) hx hb d_MO_moved_56 (by decide) (fun hb_14 => ?_) (fun hb_14 => ?_)
                · skip
                  have hn_15 : (tsz T) ≤ k2 := (nI_leI (a := tsz T) (b := k2) (by omega) (by omega)).mp hb_14
                  refine lv_iconst (v := 3) hx hb d_MO_moved_167 (by decide) ?_
                  refine lv_iload_n hx hb d_MO_moved_168 rfl (lv_at hl 1 rfl) ?_
                  refine W.callRL (W.runS (As := [.int 3, .int (nI fm)]) (rest := []) ⟨hx, hb, hml, hown, hG⟩ (mo_term l D cI cL cZ cC 3 (nI fm) ) (cwS 2 hG (gd_S k_1445 k_1446 k_116 k_1447) rfl rfl rfl (by decide +kernel) ⟨Nat.le_of_ble_eq_true rfl, Nat.le_of_ble_eq_true rfl⟩) (wq_S hP hK [] rfl) rfl rfl hl.1 rfl (lv_room (Nat.le_of_ble_eq_true rfl)) d_MO_moved_169 ⟨Nat.le_of_ble_eq_true rfl, Nat.le_of_ble_eq_true rfl⟩) ?_
                  refine W.eq (g2 := F0 m 172 ls [.long (wof 3 (nI fm))]) rfl ?_
                  exact em_lret hx hb hr hlocks hP hD hK hS (one2, two2, plc1, od_2) [3, 0, 1, 2, 4, 5, 6] (by decide) rfl ⟨_, rfl, ⟨(show ∀ j, fm ≤ j → j < fm + tsz T → okh nd0 (fun c => c < az) (one2 j) ∧ okh nd0 (fun c => c < az) (two2 j) from (fun j q q' => hw2 j q (by omega))), (show ∀ j, j < fm → one2 j = one j ∧ two2 j = two j from hlo), (show okh nd0 (fun c => c < az) (wof 3 (nI fm) : Int64) from (okh_cell (by show _ < az; omega)))⟩⟩ d_MO_moved_172
                · skip
                  have hn_16 : ¬ (tsz T) ≤ k2 := fun h => hb_14 ((nI_leI (a := tsz T) (b := k2) (by omega) (by omega)).mpr h)
                  obtain ⟨cc, ta, tb, eS⟩ := hBI.at (k := k2) (by omega)
                  obtain ⟨eod, hcc, hra, hrb, hq5, hq6, hq7, hq8, hq9⟩ := hBI.kid (k := k2) (by omega) eS
                  have hokk : okT (okw nd0 0) ta ∧ okT (okw nd0 0) tb := by have q := okT_at hBI hok k2 (by omega); rw [eS] at q; exact q
                  refine lv_aload_n hx hb d_MO_moved_59 rfl (lv_at hl 0 rfl) ?_
                  refine va_get (D := D) (ci := 8) (v := .ref (f 3)) (C := rn_MO) (T := fl_MO) (N := 55) hx hb hG in_MO hown hK hP 3 rfl rfl 9 (by decide) (hG _ k_1200) (fun _ h9 => h9) rfl d_MO_moved_60 ?_
                  refine lv_aload_n hx hb d_MO_moved_63 rfl (lv_at hl 0 rfl) ?_
                  refine va_get (D := D) (ci := 8) (v := .ref (f 6)) (C := rn_MO) (T := fl_MO) (N := 55) hx hb hG in_MO hown hK hP 3 rfl rfl 13 (by decide) (hG _ k_1204) (fun _ h9 => h9) rfl d_MO_moved_64 ?_
                  refine lv_iload hx hb d_MO_moved_67 (lv_at hl 3 rfl) ?_
                  refine va_iald hx hb hK hP 4 0 rfl rfl (vp_in_nI (n := k2) (N := 2000) (by omega) (by omega)) d_MO_moved_69 ?_
                  refine W.eq (g2 := F0 m 70 ls [.int (nI cc), .ref (f 3)]) (by rw [nI_clamp (n := k2) (by omega)]; rw [eod]) ?_
                  refine va_lald hx hb hK hP 5 1 rfl rfl (vp_in_nI (n := cc) (N := 2000) (by omega) (by omega)) d_MO_moved_70 ?_
                  refine W.eq (g2 := F0 m 71 ls [.long (le cc)]) (by rw [nI_clamp (n := cc) (by omega)]) ?_
                  refine lv_lstore (lv' := [(6, .long (le cc)), (0, .ref h0), (3, .int (nI fm)), (4, .int (nI (tsz T))), (5, .int (nI k2))]) hx hb d_MO_moved_71 hl (Nat.le_of_ble_eq_true rfl) rfl (fun ls hl => ?_)
                  refine lv_aload_n hx hb d_MO_moved_73 rfl (lv_at hl 1 rfl) ?_
                  refine va_get (D := D) (ci := 8) (v := .ref (f 4)) (C := rn_MO) (T := fl_MO) (N := 55) hx hb hG in_MO hown hK hP 3 rfl rfl 10 (by decide) (hG _ k_1201) (fun _ h9 => h9) rfl d_MO_moved_74 ?_
                  refine lv_aload_n hx hb d_MO_moved_77 rfl (lv_at hl 1 rfl) ?_
                  refine va_get (D := D) (ci := 8) (v := .ref (f 6)) (C := rn_MO) (T := fl_MO) (N := 55) hx hb hG in_MO hown hK hP 3 rfl rfl 13 (by decide) (hG _ k_1204) (fun _ h9 => h9) rfl d_MO_moved_78 ?_
                  refine lv_iload hx hb d_MO_moved_81 (lv_at hl 4 rfl) ?_
                  refine va_iald hx hb hK hP 4 0 rfl rfl (vp_in_nI (n := k2) (N := 2000) (by omega) (by omega)) d_MO_moved_83 ?_
                  refine W.eq (g2 := F0 m 84 ls [.int (nI cc), .ref (f 4)]) (by rw [nI_clamp (n := k2) (by omega)]; rw [eod]) ?_
                  refine va_lald hx hb hK hP 6 1 rfl rfl (vp_in_nI (n := cc) (N := 2000) (by omega) (by omega)) d_MO_moved_84 ?_
                  refine W.eq (g2 := F0 m 85 ls [.long (ri cc)]) (by rw [nI_clamp (n := cc) (by omega)]) ?_
                  refine lv_lstore (lv' := [(8, .long (ri cc)), (6, .long (le cc)), (0, .ref h0), (3, .int (nI fm)), (4, .int (nI (tsz T))), (5, .int (nI k2))]) hx hb d_MO_moved_85 hl (Nat.le_of_ble_eq_true rfl) rfl (fun ls hl => ?_)
                  refine lv_aload_n hx hb d_MO_moved_87 rfl (lv_at hl 2 rfl) ?_
                  refine va_get (D := D) (ci := 8) (v := .ref (f 20)) (C := rn_MO) (T := fl_MO) (N := 55) hx hb hG in_MO hown hK hP 3 rfl rfl 33 (by decide) (hG _ k_1224) (fun _ h9 => h9) rfl d_MO_moved_88 ?_
                  refine lv_iload_n hx hb d_MO_moved_91 rfl (lv_at hl 3 rfl) ?_
                  refine lv_iload hx hb d_MO_moved_92 (lv_at hl 5 rfl) ?_
                  refine lw_iadd (a := fm) (b := k2) hx hb d_MO_moved_94 ?_
                  refine lv_lload hx hb d_MO_moved_95 (lv_at hl 1 rfl) ?_
                  refine W.callR (W.runS (As := [.long (le cc)]) (rest := [.int (nI (fm + k2)), .ref (f 20)]) ⟨hx, hb, hml, hown, hG⟩ (mo_kindOf l D cI cL cZ cC (le cc) ) (cwS 1 hG (gd_S k_1519 k_1520 k_116 k_1521) rfl rfl rfl (by decide +kernel) ⟨Nat.le_of_ble_eq_true rfl, Nat.le_of_ble_eq_true rfl⟩) (wq_S hP hK [] rfl) rfl rfl hl.1 rfl (lv_room (Nat.le_of_ble_eq_true rfl)) d_MO_moved_97 ⟨Nat.le_of_ble_eq_true rfl, Nat.le_of_ble_eq_true rfl⟩) ?_
                  refine W.eq (g2 := F0 m 100 ls [.int (wkind (le cc)), .int (nI (fm + k2)), .ref (f 20)]) rfl ?_
                  refine lv_iconst (v := 3) hx hb d_MO_moved_100 (by decide) ?_
                  refine lv_icmp_ne (tgt := 121) hx hb d_MO_moved_101 (by decide) (fun hb_17 => ?_) (fun hb_17 => ?_)
                  · skip
                    have hlwa : okw nd0 0 (le cc) := by have q := hokk.1; rw [rep_leaf hra hb_17] at q; exact q
                    refine lv_lload hx hb d_MO_moved_121 (lv_at hl 1 rfl) ?_
                    refine va_last hx hb hK hP hD hS 0 1 rfl rfl (vp_in_nI (n := fm + k2) (N := 400) (by omega) (by omega)) d_MO_moved_123 (fun H locs hP hD hS => ?_)
                    have hP : va_P D classes [((f 20), .inl (cL, 400, .inr (.inl (vp_updL one2 (nI (fm + k2)).toNatClampNeg (le cc))))), ((f 21), .inl (cL, 400, .inr (.inl two2))), ((f 31), .inl (cI, 2000, .inl plc1)), (h0, .inr (8, mS f tn rm ln lx at_ bd fs dp on os bn df th tp mo_ ev ss so lk rs pt ot cl)), ((f 6), .inl (cI, 2000, .inl od_2)), ((f 3), .inl (cL, 2000, .inr (.inl le))), ((f 4), .inl (cL, 2000, .inr (.inl ri)))] H := hP
                    have hD : va_D A [((f 20), .inl (cL, 400, .inr (.inl (vp_updL one2 (nI (fm + k2)).toNatClampNeg (le cc))))), ((f 21), .inl (cL, 400, .inr (.inl two2))), ((f 31), .inl (cI, 2000, .inl plc1)), (h0, .inr (8, mS f tn rm ln lx at_ bd fs dp on os bn df th tp mo_ ev ss so lk rs pt ot cl)), ((f 6), .inl (cI, 2000, .inl od_2)), ((f 3), .inl (cL, 2000, .inr (.inl le))), ((f 4), .inl (cL, 2000, .inr (.inl ri)))] := hD
                    obtain ⟨g_18, eg_18⟩ : ∃ z, z = vp_updL one2 (fm + k2) (le cc) := ⟨_, rfl⟩
                    rw [nI_clamp (n := fm + k2) (by omega), ← eg_18] at hP hD
                    refine lv_aload_n hx hb d_MO_moved_124 rfl (lv_at hl 2 rfl) ?_
                    refine va_get (D := D) (ci := 8) (v := .ref (f 21)) (C := rn_MO) (T := fl_MO) (N := 55) hx hb hG in_MO hown hK hP 3 rfl rfl 34 (by decide) (hG _ k_1225) (fun _ h9 => h9) rfl d_MO_moved_125 ?_
                    refine lv_iload_n hx hb d_MO_moved_128 rfl (lv_at hl 3 rfl) ?_
                    refine lv_iload hx hb d_MO_moved_129 (lv_at hl 5 rfl) ?_
                    refine lw_iadd (a := fm) (b := k2) hx hb d_MO_moved_131 ?_
                    refine lv_lload hx hb d_MO_moved_132 (lv_at hl 0 rfl) ?_
                    refine W.callR (W.runS (As := [.long (ri cc)]) (rest := [.int (nI (fm + k2)), .ref (f 21)]) ⟨hx, hb, hml, hown, hG⟩ (mo_kindOf l D cI cL cZ cC (ri cc) ) (cwS 1 hG (gd_S k_1519 k_1520 k_116 k_1521) rfl rfl rfl (by decide +kernel) ⟨Nat.le_of_ble_eq_true rfl, Nat.le_of_ble_eq_true rfl⟩) (wq_S hP hK [] rfl) rfl rfl hl.1 rfl (lv_room (Nat.le_of_ble_eq_true rfl)) d_MO_moved_134 ⟨Nat.le_of_ble_eq_true rfl, Nat.le_of_ble_eq_true rfl⟩) ?_
                    refine W.eq (g2 := F0 m 137 ls [.int (wkind (ri cc)), .int (nI (fm + k2)), .ref (f 21)]) rfl ?_
                    refine lv_iconst (v := 3) hx hb d_MO_moved_137 (by decide) ?_
                    refine lv_icmp_ne (tgt := 158) hx hb d_MO_moved_138 (by decide) (fun hb_19 => ?_) (fun hb_19 => ?_)
                    · skip
                      have hlwb : okw nd0 0 (ri cc) := by have q := hokk.2; rw [rep_leaf hrb hb_19] at q; exact q
                      refine lv_lload hx hb d_MO_moved_158 (lv_at hl 0 rfl) ?_
                      refine va_last hx hb hK hP hD hS 1 1 rfl rfl (vp_in_nI (n := fm + k2) (N := 400) (by omega) (by omega)) d_MO_moved_160 (fun H locs hP hD hS => ?_)
                      have hP : va_P D classes [((f 20), .inl (cL, 400, .inr (.inl g_18))), ((f 21), .inl (cL, 400, .inr (.inl (vp_updL two2 (nI (fm + k2)).toNatClampNeg (ri cc))))), ((f 31), .inl (cI, 2000, .inl plc1)), (h0, .inr (8, mS f tn rm ln lx at_ bd fs dp on os bn df th tp mo_ ev ss so lk rs pt ot cl)), ((f 6), .inl (cI, 2000, .inl od_2)), ((f 3), .inl (cL, 2000, .inr (.inl le))), ((f 4), .inl (cL, 2000, .inr (.inl ri)))] H := hP
                      have hD : va_D A [((f 20), .inl (cL, 400, .inr (.inl g_18))), ((f 21), .inl (cL, 400, .inr (.inl (vp_updL two2 (nI (fm + k2)).toNatClampNeg (ri cc))))), ((f 31), .inl (cI, 2000, .inl plc1)), (h0, .inr (8, mS f tn rm ln lx at_ bd fs dp on os bn df th tp mo_ ev ss so lk rs pt ot cl)), ((f 6), .inl (cI, 2000, .inl od_2)), ((f 3), .inl (cL, 2000, .inr (.inl le))), ((f 4), .inl (cL, 2000, .inr (.inl ri)))] := hD
                      obtain ⟨g_20, eg_20⟩ : ∃ z, z = vp_updL two2 (fm + k2) (ri cc) := ⟨_, rfl⟩
                      rw [nI_clamp (n := fm + k2) (by omega), ← eg_20] at hP hD
                      refine lv_iinc (k := 5) (v := nI (k2 + 1)) (lv' := [(5, .int (nI (k2 + 1))), (8, .long (ri cc)), (6, .long (le cc)), (0, .ref h0), (3, .int (nI fm)), (4, .int (nI (tsz T)))]) hx hb d_MO_moved_161 hl rfl (lw_inc k2 1) (Nat.le_of_ble_eq_true rfl) rfl (fun ls hl => ?_)
                      refine lv_goto (tgt := 52) hx hb d_MO_moved_164 (by decide) ?_
                      have hl := lv_sub (l' := [(0, .ref h0), (3, .int (nI fm)), (4, .int (nI (tsz T))), (5, .int (nI (k2 + 1)))]) hl [3, 4, 5, 0] rfl
                      exact ih_13 (k2 + 1) g_18 g_20 _ _ _ (by omega) (by omega) (fun j q q' => by rw [eg_18, eg_20]; by_cases hj : j = fm + k2; rw [vp_at hj, vp_at hj]; exact ⟨(okw_h hlwa), (okw_h hlwb)⟩; rw [vp_ne hj, vp_ne hj]; exact hw2 j q (by omega)) (fun j hj => by rw [eg_18, eg_20, vp_ne (by omega), vp_ne (by omega)]; exact hlo j hj) hl hP hD hS
                    · skip
                      obtain ⟨cb, x1, x2, exb, ecb, hcb, -, -⟩ := rep_cell hrb hb_19
                      have hinb := isn_1 hrb hb_19
                      obtain ⟨ib, hib, eib⟩ := hpl1 (qf (isn T) S k2 + isn ta) (by omega) cb x1 x2 (by rw [hq9 hinb]; exact exb)
                      refine lv_iconst (v := 3) hx hb d_MO_moved_141 (by decide) ?_
                      refine lv_aload_n hx hb d_MO_moved_142 rfl (lv_at hl 2 rfl) ?_
                      refine va_get (D := D) (ci := 8) (v := .ref (f 31)) (C := rn_MO) (T := fl_MO) (N := 55) hx hb hG in_MO hown hK hP 3 rfl rfl 54 (by decide) (hG _ k_1245) (fun _ h9 => h9) rfl d_MO_moved_143 ?_
                      refine lv_lload hx hb d_MO_moved_146 (lv_at hl 0 rfl) ?_
                      refine W.callR (W.runS (As := [.long (ri cc)]) (rest := [.ref (f 31), .int 3, .int (nI (fm + k2)), .ref (f 21)]) ⟨hx, hb, hml, hown, hG⟩ (mo_valueOf l D cI cL cZ cC (ri cc) ) (cwS 1 hG (gd_S k_1522 k_1523 k_116 k_1524) rfl rfl rfl (by decide +kernel) ⟨Nat.le_of_ble_eq_true rfl, Nat.le_of_ble_eq_true rfl⟩) (wq_S hP hK [] rfl) rfl rfl hl.1 rfl (lv_room (Nat.le_of_ble_eq_true rfl)) d_MO_moved_148 ⟨Nat.le_of_ble_eq_true rfl, Nat.le_of_ble_eq_true rfl⟩) ?_
                      refine W.eq (g2 := F0 m 151 ls [.int ((ri cc).toInt32), .ref (f 31), .int 3, .int (nI (fm + k2)), .ref (f 21)]) rfl ?_
                      refine W.eq (g2 := F0 m 151 ls [.int (nI cb), .ref (f 31), .int 3, .int (nI (fm + k2)), .ref (f 21)]) (by rw [ecb]) ?_
                      refine va_iald hx hb hK hP 2 0 rfl rfl (vp_in_nI (n := cb) (N := 2000) (by omega) (by omega)) d_MO_moved_151 ?_
                      refine W.eq (g2 := F0 m 152 ls [.int (nI (fm + ib)), .int 3, .int (nI (fm + k2)), .ref (f 21)]) (by rw [nI_clamp (n := cb) (by omega)]; rw [eib]) ?_
                      refine W.callRL (W.runS (As := [.int 3, .int (nI (fm + ib))]) (rest := [.int (nI (fm + k2)), .ref (f 21)]) ⟨hx, hb, hml, hown, hG⟩ (mo_term l D cI cL cZ cC 3 (nI (fm + ib)) ) (cwS 2 hG (gd_S k_1445 k_1446 k_116 k_1447) rfl rfl rfl (by decide +kernel) ⟨Nat.le_of_ble_eq_true rfl, Nat.le_of_ble_eq_true rfl⟩) (wq_S hP hK [] rfl) rfl rfl hl.1 rfl (lv_room (Nat.le_of_ble_eq_true rfl)) d_MO_moved_152 ⟨Nat.le_of_ble_eq_true rfl, Nat.le_of_ble_eq_true rfl⟩) ?_
                      refine W.eq (g2 := F0 m 155 ls [.long (wof 3 (nI (fm + ib))), .int (nI (fm + k2)), .ref (f 21)]) rfl ?_
                      refine lv_goto (tgt := 160) hx hb d_MO_moved_155 (by decide) ?_
                      refine va_last hx hb hK hP hD hS 1 1 rfl rfl (vp_in_nI (n := fm + k2) (N := 400) (by omega) (by omega)) d_MO_moved_160 (fun H locs hP hD hS => ?_)
                      have hP : va_P D classes [((f 20), .inl (cL, 400, .inr (.inl g_18))), ((f 21), .inl (cL, 400, .inr (.inl (vp_updL two2 (nI (fm + k2)).toNatClampNeg (wof 3 (nI (fm + ib))))))), ((f 31), .inl (cI, 2000, .inl plc1)), (h0, .inr (8, mS f tn rm ln lx at_ bd fs dp on os bn df th tp mo_ ev ss so lk rs pt ot cl)), ((f 6), .inl (cI, 2000, .inl od_2)), ((f 3), .inl (cL, 2000, .inr (.inl le))), ((f 4), .inl (cL, 2000, .inr (.inl ri)))] H := hP
                      have hD : va_D A [((f 20), .inl (cL, 400, .inr (.inl g_18))), ((f 21), .inl (cL, 400, .inr (.inl (vp_updL two2 (nI (fm + k2)).toNatClampNeg (wof 3 (nI (fm + ib))))))), ((f 31), .inl (cI, 2000, .inl plc1)), (h0, .inr (8, mS f tn rm ln lx at_ bd fs dp on os bn df th tp mo_ ev ss so lk rs pt ot cl)), ((f 6), .inl (cI, 2000, .inl od_2)), ((f 3), .inl (cL, 2000, .inr (.inl le))), ((f 4), .inl (cL, 2000, .inr (.inl ri)))] := hD
                      obtain ⟨g_21, eg_21⟩ : ∃ z, z = vp_updL two2 (fm + k2) (wof 3 (nI (fm + ib))) := ⟨_, rfl⟩
                      rw [nI_clamp (n := fm + k2) (by omega), ← eg_21] at hP hD
                      refine lv_iinc (k := 5) (v := nI (k2 + 1)) (lv' := [(5, .int (nI (k2 + 1))), (8, .long (ri cc)), (6, .long (le cc)), (0, .ref h0), (3, .int (nI fm)), (4, .int (nI (tsz T)))]) hx hb d_MO_moved_161 hl rfl (lw_inc k2 1) (Nat.le_of_ble_eq_true rfl) rfl (fun ls hl => ?_)
                      refine lv_goto (tgt := 52) hx hb d_MO_moved_164 (by decide) ?_
                      have hl := lv_sub (l' := [(0, .ref h0), (3, .int (nI fm)), (4, .int (nI (tsz T))), (5, .int (nI (k2 + 1)))]) hl [3, 4, 5, 0] rfl
                      exact ih_13 (k2 + 1) g_18 g_21 _ _ _ (by omega) (by omega) (fun j q q' => by rw [eg_18, eg_21]; by_cases hj : j = fm + k2; rw [vp_at hj, vp_at hj]; exact ⟨(okw_h hlwa), (okh_cell (by show _ < az; omega))⟩; rw [vp_ne hj, vp_ne hj]; exact hw2 j q (by omega)) (fun j hj => by rw [eg_18, eg_21, vp_ne (by omega), vp_ne (by omega)]; exact hlo j hj) hl hP hD hS
                  · skip
                    obtain ⟨ca, x1, x2, exa, eca, hca, -, -⟩ := rep_cell hra hb_17
                    have hina := isn_1 hra hb_17
                    obtain ⟨ia, hia, eia⟩ := hpl1 (qf (isn T) S k2) (by omega) ca x1 x2 (by rw [hq8 hina]; exact exa)
                    refine lv_iconst (v := 3) hx hb d_MO_moved_104 (by decide) ?_
                    refine lv_aload_n hx hb d_MO_moved_105 rfl (lv_at hl 2 rfl) ?_
                    refine va_get (D := D) (ci := 8) (v := .ref (f 31)) (C := rn_MO) (T := fl_MO) (N := 55) hx hb hG in_MO hown hK hP 3 rfl rfl 54 (by decide) (hG _ k_1245) (fun _ h9 => h9) rfl d_MO_moved_106 ?_
                    refine lv_lload hx hb d_MO_moved_109 (lv_at hl 1 rfl) ?_
                    refine W.callR (W.runS (As := [.long (le cc)]) (rest := [.ref (f 31), .int 3, .int (nI (fm + k2)), .ref (f 20)]) ⟨hx, hb, hml, hown, hG⟩ (mo_valueOf l D cI cL cZ cC (le cc) ) (cwS 1 hG (gd_S k_1522 k_1523 k_116 k_1524) rfl rfl rfl (by decide +kernel) ⟨Nat.le_of_ble_eq_true rfl, Nat.le_of_ble_eq_true rfl⟩) (wq_S hP hK [] rfl) rfl rfl hl.1 rfl (lv_room (Nat.le_of_ble_eq_true rfl)) d_MO_moved_111 ⟨Nat.le_of_ble_eq_true rfl, Nat.le_of_ble_eq_true rfl⟩) ?_
                    refine W.eq (g2 := F0 m 114 ls [.int ((le cc).toInt32), .ref (f 31), .int 3, .int (nI (fm + k2)), .ref (f 20)]) rfl ?_
                    refine W.eq (g2 := F0 m 114 ls [.int (nI ca), .ref (f 31), .int 3, .int (nI (fm + k2)), .ref (f 20)]) (by rw [eca]) ?_
                    refine va_iald hx hb hK hP 2 0 rfl rfl (vp_in_nI (n := ca) (N := 2000) (by omega) (by omega)) d_MO_moved_114 ?_
                    refine W.eq (g2 := F0 m 115 ls [.int (nI (fm + ia)), .int 3, .int (nI (fm + k2)), .ref (f 20)]) (by rw [nI_clamp (n := ca) (by omega)]; rw [eia]) ?_
                    refine W.callRL (W.runS (As := [.int 3, .int (nI (fm + ia))]) (rest := [.int (nI (fm + k2)), .ref (f 20)]) ⟨hx, hb, hml, hown, hG⟩ (mo_term l D cI cL cZ cC 3 (nI (fm + ia)) ) (cwS 2 hG (gd_S k_1445 k_1446 k_116 k_1447) rfl rfl rfl (by decide +kernel) ⟨Nat.le_of_ble_eq_true rfl, Nat.le_of_ble_eq_true rfl⟩) (wq_S hP hK [] rfl) rfl rfl hl.1 rfl (lv_room (Nat.le_of_ble_eq_true rfl)) d_MO_moved_115 ⟨Nat.le_of_ble_eq_true rfl, Nat.le_of_ble_eq_true rfl⟩) ?_
                    refine W.eq (g2 := F0 m 118 ls [.long (wof 3 (nI (fm + ia))), .int (nI (fm + k2)), .ref (f 20)]) rfl ?_
                    refine lv_goto (tgt := 123) hx hb d_MO_moved_118 (by decide) ?_
                    refine va_last hx hb hK hP hD hS 0 1 rfl rfl (vp_in_nI (n := fm + k2) (N := 400) (by omega) (by omega)) d_MO_moved_123 (fun H locs hP hD hS => ?_)
                    have hP : va_P D classes [((f 20), .inl (cL, 400, .inr (.inl (vp_updL one2 (nI (fm + k2)).toNatClampNeg (wof 3 (nI (fm + ia))))))), ((f 21), .inl (cL, 400, .inr (.inl two2))), ((f 31), .inl (cI, 2000, .inl plc1)), (h0, .inr (8, mS f tn rm ln lx at_ bd fs dp on os bn df th tp mo_ ev ss so lk rs pt ot cl)), ((f 6), .inl (cI, 2000, .inl od_2)), ((f 3), .inl (cL, 2000, .inr (.inl le))), ((f 4), .inl (cL, 2000, .inr (.inl ri)))] H := hP
                    have hD : va_D A [((f 20), .inl (cL, 400, .inr (.inl (vp_updL one2 (nI (fm + k2)).toNatClampNeg (wof 3 (nI (fm + ia))))))), ((f 21), .inl (cL, 400, .inr (.inl two2))), ((f 31), .inl (cI, 2000, .inl plc1)), (h0, .inr (8, mS f tn rm ln lx at_ bd fs dp on os bn df th tp mo_ ev ss so lk rs pt ot cl)), ((f 6), .inl (cI, 2000, .inl od_2)), ((f 3), .inl (cL, 2000, .inr (.inl le))), ((f 4), .inl (cL, 2000, .inr (.inl ri)))] := hD
                    obtain ⟨g_22, eg_22⟩ : ∃ z, z = vp_updL one2 (fm + k2) (wof 3 (nI (fm + ia))) := ⟨_, rfl⟩
                    rw [nI_clamp (n := fm + k2) (by omega), ← eg_22] at hP hD
                    refine lv_aload_n hx hb d_MO_moved_124 rfl (lv_at hl 2 rfl) ?_
                    refine va_get (D := D) (ci := 8) (v := .ref (f 21)) (C := rn_MO) (T := fl_MO) (N := 55) hx hb hG in_MO hown hK hP 3 rfl rfl 34 (by decide) (hG _ k_1225) (fun _ h9 => h9) rfl d_MO_moved_125 ?_
                    refine lv_iload_n hx hb d_MO_moved_128 rfl (lv_at hl 3 rfl) ?_
                    refine lv_iload hx hb d_MO_moved_129 (lv_at hl 5 rfl) ?_
                    refine lw_iadd (a := fm) (b := k2) hx hb d_MO_moved_131 ?_
                    refine lv_lload hx hb d_MO_moved_132 (lv_at hl 0 rfl) ?_
                    refine W.callR (W.runS (As := [.long (ri cc)]) (rest := [.int (nI (fm + k2)), .ref (f 21)]) ⟨hx, hb, hml, hown, hG⟩ (mo_kindOf l D cI cL cZ cC (ri cc) ) (cwS 1 hG (gd_S k_1519 k_1520 k_116 k_1521) rfl rfl rfl (by decide +kernel) ⟨Nat.le_of_ble_eq_true rfl, Nat.le_of_ble_eq_true rfl⟩) (wq_S hP hK [] rfl) rfl rfl hl.1 rfl (lv_room (Nat.le_of_ble_eq_true rfl)) d_MO_moved_134 ⟨Nat.le_of_ble_eq_true rfl, Nat.le_of_ble_eq_true rfl⟩) ?_
                    refine W.eq (g2 := F0 m 137 ls [.int (wkind (ri cc)), .int (nI (fm + k2)), .ref (f 21)]) rfl ?_
                    refine lv_iconst (v := 3) hx hb d_MO_moved_137 (by decide) ?_
                    refine lv_icmp_ne (tgt := 158) hx hb d_MO_moved_138 (by decide) (fun hb_23 => ?_) (fun hb_23 => ?_)
                    · skip
                      have hlwb : okw nd0 0 (ri cc) := by have q := hokk.2; rw [rep_leaf hrb hb_23] at q; exact q
                      refine lv_lload hx hb d_MO_moved_158 (lv_at hl 0 rfl) ?_
                      refine va_last hx hb hK hP hD hS 1 1 rfl rfl (vp_in_nI (n := fm + k2) (N := 400) (by omega) (by omega)) d_MO_moved_160 (fun H locs hP hD hS => ?_)
                      have hP : va_P D classes [((f 20), .inl (cL, 400, .inr (.inl g_22))), ((f 21), .inl (cL, 400, .inr (.inl (vp_updL two2 (nI (fm + k2)).toNatClampNeg (ri cc))))), ((f 31), .inl (cI, 2000, .inl plc1)), (h0, .inr (8, mS f tn rm ln lx at_ bd fs dp on os bn df th tp mo_ ev ss so lk rs pt ot cl)), ((f 6), .inl (cI, 2000, .inl od_2)), ((f 3), .inl (cL, 2000, .inr (.inl le))), ((f 4), .inl (cL, 2000, .inr (.inl ri)))] H := hP
                      have hD : va_D A [((f 20), .inl (cL, 400, .inr (.inl g_22))), ((f 21), .inl (cL, 400, .inr (.inl (vp_updL two2 (nI (fm + k2)).toNatClampNeg (ri cc))))), ((f 31), .inl (cI, 2000, .inl plc1)), (h0, .inr (8, mS f tn rm ln lx at_ bd fs dp on os bn df th tp mo_ ev ss so lk rs pt ot cl)), ((f 6), .inl (cI, 2000, .inl od_2)), ((f 3), .inl (cL, 2000, .inr (.inl le))), ((f 4), .inl (cL, 2000, .inr (.inl ri)))] := hD
                      obtain ⟨g_24, eg_24⟩ : ∃ z, z = vp_updL two2 (fm + k2) (ri cc) := ⟨_, rfl⟩
                      rw [nI_clamp (n := fm + k2) (by omega), ← eg_24] at hP hD
                      refine lv_iinc (k := 5) (v := nI (k2 + 1)) (lv' := [(5, .int (nI (k2 + 1))), (8, .long (ri cc)), (6, .long (le cc)), (0, .ref h0), (3, .int (nI fm)), (4, .int (nI (tsz T)))]) hx hb d_MO_moved_161 hl rfl (lw_inc k2 1) (Nat.le_of_ble_eq_true rfl) rfl (fun ls hl => ?_)
                      refine lv_goto (tgt := 52) hx hb d_MO_moved_164 (by decide) ?_
                      have hl := lv_sub (l' := [(0, .ref h0), (3, .int (nI fm)), (4, .int (nI (tsz T))), (5, .int (nI (k2 + 1)))]) hl [3, 4, 5, 0] rfl
                      exact ih_13 (k2 + 1) g_22 g_24 _ _ _ (by omega) (by omega) (fun j q q' => by rw [eg_22, eg_24]; by_cases hj : j = fm + k2; rw [vp_at hj, vp_at hj]; exact ⟨(okh_cell (by show _ < az; omega)), (okw_h hlwb)⟩; rw [vp_ne hj, vp_ne hj]; exact hw2 j q (by omega)) (fun j hj => by rw [eg_22, eg_24, vp_ne (by omega), vp_ne (by omega)]; exact hlo j hj) hl hP hD hS
                    · skip
                      obtain ⟨cb, x1, x2, exb, ecb, hcb, -, -⟩ := rep_cell hrb hb_23
                      have hinb := isn_1 hrb hb_23
                      obtain ⟨ib, hib, eib⟩ := hpl1 (qf (isn T) S k2 + isn ta) (by omega) cb x1 x2 (by rw [hq9 hinb]; exact exb)
                      refine lv_iconst (v := 3) hx hb d_MO_moved_141 (by decide) ?_
                      refine lv_aload_n hx hb d_MO_moved_142 rfl (lv_at hl 2 rfl) ?_
                      refine va_get (D := D) (ci := 8) (v := .ref (f 31)) (C := rn_MO) (T := fl_MO) (N := 55) hx hb hG in_MO hown hK hP 3 rfl rfl 54 (by decide) (hG _ k_1245) (fun _ h9 => h9) rfl d_MO_moved_143 ?_
                      refine lv_lload hx hb d_MO_moved_146 (lv_at hl 0 rfl) ?_
                      refine W.callR (W.runS (As := [.long (ri cc)]) (rest := [.ref (f 31), .int 3, .int (nI (fm + k2)), .ref (f 21)]) ⟨hx, hb, hml, hown, hG⟩ (mo_valueOf l D cI cL cZ cC (ri cc) ) (cwS 1 hG (gd_S k_1522 k_1523 k_116 k_1524) rfl rfl rfl (by decide +kernel) ⟨Nat.le_of_ble_eq_true rfl, Nat.le_of_ble_eq_true rfl⟩) (wq_S hP hK [] rfl) rfl rfl hl.1 rfl (lv_room (Nat.le_of_ble_eq_true rfl)) d_MO_moved_148 ⟨Nat.le_of_ble_eq_true rfl, Nat.le_of_ble_eq_true rfl⟩) ?_
                      refine W.eq (g2 := F0 m 151 ls [.int ((ri cc).toInt32), .ref (f 31), .int 3, .int (nI (fm + k2)), .ref (f 21)]) rfl ?_
                      refine W.eq (g2 := F0 m 151 ls [.int (nI cb), .ref (f 31), .int 3, .int (nI (fm + k2)), .ref (f 21)]) (by rw [ecb]) ?_
                      refine va_iald hx hb hK hP 2 0 rfl rfl (vp_in_nI (n := cb) (N := 2000) (by omega) (by omega)) d_MO_moved_151 ?_
                      refine W.eq (g2 := F0 m 152 ls [.int (nI (fm + ib)), .int 3, .int (nI (fm + k2)), .ref (f 21)]) (by rw [nI_clamp (n := cb) (by omega)]; rw [eib]) ?_
                      refine W.callRL (W.runS (As := [.int 3, .int (nI (fm + ib))]) (rest := [.int (nI (fm + k2)), .ref (f 21)]) ⟨hx, hb, hml, hown, hG⟩ (mo_term l D cI cL cZ cC 3 (nI (fm + ib)) ) (cwS 2 hG (gd_S k_1445 k_1446 k_116 k_1447) rfl rfl rfl (by decide +kernel) ⟨Nat.le_of_ble_eq_true rfl, Nat.le_of_ble_eq_true rfl⟩) (wq_S hP hK [] rfl) rfl rfl hl.1 rfl (lv_room (Nat.le_of_ble_eq_true rfl)) d_MO_moved_152 ⟨Nat.le_of_ble_eq_true rfl, Nat.le_of_ble_eq_true rfl⟩) ?_
                      refine W.eq (g2 := F0 m 155 ls [.long (wof 3 (nI (fm + ib))), .int (nI (fm + k2)), .ref (f 21)]) rfl ?_
                      refine lv_goto (tgt := 160) hx hb d_MO_moved_155 (by decide) ?_
                      refine va_last hx hb hK hP hD hS 1 1 rfl rfl (vp_in_nI (n := fm + k2) (N := 400) (by omega) (by omega)) d_MO_moved_160 (fun H locs hP hD hS => ?_)
                      have hP : va_P D classes [((f 20), .inl (cL, 400, .inr (.inl g_22))), ((f 21), .inl (cL, 400, .inr (.inl (vp_updL two2 (nI (fm + k2)).toNatClampNeg (wof 3 (nI (fm + ib))))))), ((f 31), .inl (cI, 2000, .inl plc1)), (h0, .inr (8, mS f tn rm ln lx at_ bd fs dp on os bn df th tp mo_ ev ss so lk rs pt ot cl)), ((f 6), .inl (cI, 2000, .inl od_2)), ((f 3), .inl (cL, 2000, .inr (.inl le))), ((f 4), .inl (cL, 2000, .inr (.inl ri)))] H := hP
                      have hD : va_D A [((f 20), .inl (cL, 400, .inr (.inl g_22))), ((f 21), .inl (cL, 400, .inr (.inl (vp_updL two2 (nI (fm + k2)).toNatClampNeg (wof 3 (nI (fm + ib))))))), ((f 31), .inl (cI, 2000, .inl plc1)), (h0, .inr (8, mS f tn rm ln lx at_ bd fs dp on os bn df th tp mo_ ev ss so lk rs pt ot cl)), ((f 6), .inl (cI, 2000, .inl od_2)), ((f 3), .inl (cL, 2000, .inr (.inl le))), ((f 4), .inl (cL, 2000, .inr (.inl ri)))] := hD
                      obtain ⟨g_25, eg_25⟩ : ∃ z, z = vp_updL two2 (fm + k2) (wof 3 (nI (fm + ib))) := ⟨_, rfl⟩
                      rw [nI_clamp (n := fm + k2) (by omega), ← eg_25] at hP hD
                      refine lv_iinc (k := 5) (v := nI (k2 + 1)) (lv' := [(5, .int (nI (k2 + 1))), (8, .long (ri cc)), (6, .long (le cc)), (0, .ref h0), (3, .int (nI fm)), (4, .int (nI (tsz T)))]) hx hb d_MO_moved_161 hl rfl (lw_inc k2 1) (Nat.le_of_ble_eq_true rfl) rfl (fun ls hl => ?_)
                      refine lv_goto (tgt := 52) hx hb d_MO_moved_164 (by decide) ?_
                      have hl := lv_sub (l' := [(0, .ref h0), (3, .int (nI fm)), (4, .int (nI (tsz T))), (5, .int (nI (k2 + 1)))]) hl [3, 4, 5, 0] rfl
                      exact ih_13 (k2 + 1) g_22 g_25 _ _ _ (by omega) (by omega) (fun j q q' => by rw [eg_22, eg_25]; by_cases hj : j = fm + k2; rw [vp_at hj, vp_at hj]; exact ⟨(okh_cell (by show _ < az; omega)), (okh_cell (by show _ < az; omega))⟩; rw [vp_ne hj, vp_ne hj]; exact hw2 j q (by omega)) (fun j hj => by rw [eg_22, eg_25, vp_ne (by omega), vp_ne (by omega)]; exact hlo j hj) hl hP hD hS
            refine lv_iconst (v := 0) hx hb d_MO_moved_49 (by decide) ?_
            refine lv_istore (lv' := [(5, .int 0), (0, .ref h0), (1, .long t), (3, .int (nI fm)), (4, .int (nI (tsz T)))]) hx hb d_MO_moved_50 hl (Nat.le_of_ble_eq_true rfl) rfl (fun ls hl => ?_)
            have hl := lv_sub (l' := [(0, .ref h0), (3, .int (nI fm)), (4, .int (nI (tsz T))), (5, .int 0)]) hl [1, 3, 4, 0] rfl
            exact loop_12 _ 0 one two _ _ _ (Nat.lt_succ_self _) (by omega) (fun j q q' => absurd q' (by omega)) (fun j _ => ⟨rfl, rfl⟩) hl hP hD hS
          · skip
            have hn_26 : ¬ (tsz T) ≤ i := fun h => hb_9 ((nI_leI (a := tsz T) (b := i) (by omega) (by omega)).mpr h)
            obtain ⟨cc, ta, tb, eS⟩ := hBI.at (k := i) (by omega)
            obtain ⟨eod, hcc, hra, hrb, hq5, hq6, hq7, hq8, hq9⟩ := hBI.kid (k := i) (by omega) eS
            refine lv_aload_n hx hb d_MO_moved_27 rfl (lv_at hl 0 rfl) ?_
            refine va_get (D := D) (ci := 8) (v := .ref (f 31)) (C := rn_MO) (T := fl_MO) (N := 55) hx hb hG in_MO hown hK hP 3 rfl rfl 54 (by decide) (hG _ k_1245) (fun _ h9 => h9) rfl d_MO_moved_28 ?_
            refine lv_aload_n hx hb d_MO_moved_31 rfl (lv_at hl 0 rfl) ?_
            refine va_get (D := D) (ci := 8) (v := .ref (f 6)) (C := rn_MO) (T := fl_MO) (N := 55) hx hb hG in_MO hown hK hP 3 rfl rfl 13 (by decide) (hG _ k_1204) (fun _ h9 => h9) rfl d_MO_moved_32 ?_
            refine lv_iload hx hb d_MO_moved_35 (lv_at hl 4 rfl) ?_
            refine va_iald hx hb hK hP 4 0 rfl rfl (vp_in_nI (n := i) (N := 2000) (by omega) (by omega)) d_MO_moved_37 ?_
            refine W.eq (g2 := F0 m 38 ls [.int (nI cc), .ref (f 31)]) (by rw [nI_clamp (n := i) (by omega)]; rw [eod]) ?_
            refine lv_iload_n hx hb d_MO_moved_38 rfl (lv_at hl 2 rfl) ?_
            refine lv_iload hx hb d_MO_moved_39 (lv_at hl 4 rfl) ?_
            refine lw_iadd (a := fm) (b := i) hx hb d_MO_moved_41 ?_
            refine va_iast hx hb hK hP hD hS 2 0 rfl rfl (vp_in_nI (n := cc) (N := 2000) (by omega) (by omega)) d_MO_moved_42 (fun H locs hP hD hS => ?_)
            have hP : va_P D classes [((f 20), .inl (cL, 400, .inr (.inl one))), ((f 21), .inl (cL, 400, .inr (.inl two))), ((f 31), .inl (cI, 2000, .inl (upd plc1 (nI cc).toNatClampNeg (nI (fm + i))))), (h0, .inr (8, mS f tn rm ln lx at_ bd fs dp on os bn df th tp mo_ ev ss so lk rs pt ot cl)), ((f 6), .inl (cI, 2000, .inl od_2)), ((f 3), .inl (cL, 2000, .inr (.inl le))), ((f 4), .inl (cL, 2000, .inr (.inl ri)))] H := hP
            have hD : va_D A [((f 20), .inl (cL, 400, .inr (.inl one))), ((f 21), .inl (cL, 400, .inr (.inl two))), ((f 31), .inl (cI, 2000, .inl (upd plc1 (nI cc).toNatClampNeg (nI (fm + i))))), (h0, .inr (8, mS f tn rm ln lx at_ bd fs dp on os bn df th tp mo_ ev ss so lk rs pt ot cl)), ((f 6), .inl (cI, 2000, .inl od_2)), ((f 3), .inl (cL, 2000, .inr (.inl le))), ((f 4), .inl (cL, 2000, .inr (.inl ri)))] := hD
            obtain ⟨g_27, eg_27⟩ : ∃ z, z = upd plc1 cc (nI (fm + i)) := ⟨_, rfl⟩
            rw [nI_clamp (n := cc) (by omega), ← eg_27] at hP hD
            refine lv_iinc (k := 4) (v := nI (i + 1)) (lv' := [(5, .int (nI (i + 1))), (0, .ref h0), (1, .long t), (3, .int (nI fm)), (4, .int (nI (tsz T)))]) hx hb d_MO_moved_43 hl rfl (lw_inc i 1) (Nat.le_of_ble_eq_true rfl) rfl (fun ls hl => ?_)
            refine lv_goto (tgt := 20) hx hb d_MO_moved_46 (by decide) ?_
            have hl := lv_sub (l' := [(0, .ref h0), (1, .long t), (3, .int (nI fm)), (4, .int (nI (tsz T))), (5, .int (nI (i + 1)))]) hl [1, 2, 3, 4, 0] rfl
            exact ih_8 (i + 1) g_27 _ _ _ (by omega) (by omega) (fun j hj c a b e => by rw [eg_27]; by_cases hc : c = cc; exact ⟨i, by omega, by rw [upd_at hc]⟩; rw [upd_ne hc]; exact hpl j (by rcases Nat.lt_or_ge j i with q | q; exact q; exact absurd (Tr.nd_inj (e.symm.trans (by rw [show j = i by omega]; exact eS))).1 hc) c a b e) hl hP hD hS
      refine lv_iconst (v := 0) hx hb d_MO_moved_17 (by decide) ?_
      refine lv_istore (lv' := [(5, .int 0), (4, .int (nI (tsz T))), (0, .ref h0), (1, .long t), (3, .int (nI fm))]) hx hb d_MO_moved_18 hl (Nat.le_of_ble_eq_true rfl) rfl (fun ls hl => ?_)
      have hl := lv_sub (l' := [(0, .ref h0), (1, .long t), (3, .int (nI fm)), (4, .int (nI (tsz T))), (5, .int 0)]) hl [2, 3, 4, 1, 0] rfl
      exact loop_7 _ 0 plc _ _ _ (Nat.lt_succ_self _) (by omega) (fun j hj => absurd hj (Nat.not_lt_zero _)) hl hP hD hS
    · skip
      exact hbad.elim
  · skip
    have eT0 := rep_leaf h1 hb_1
    have hz0 := tsz_0 eT0
    have hok0 : okw nd0 0 t := by rw [eT0] at hok; exact hok
    refine lv_lload_n hx hb d_MO_moved_8 rfl (lv_at hl 1 rfl) ?_
    exact em_lret hx hb hr hlocks hP hD hK hS (one, two, plc, od) [0, 1, 2, 3, 4, 5, 6] (by decide) rfl ⟨_, rfl, ⟨(show ∀ j, fm ≤ j → j < fm + tsz T → okh nd0 (fun c => c < az) (one j) ∧ okh nd0 (fun c => c < az) (two j) from (fun j q q' => absurd q' (by omega))), (show ∀ j, j < fm → one j = one j ∧ two j = two j from (fun j _ => ⟨rfl, rfl⟩)), (show okh nd0 (fun c => c < az) (t : Int64) from (okw_h hok0))⟩⟩ d_MO_moved_9
