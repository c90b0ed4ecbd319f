def bdo (b : Int32) : Prop := b = 0 ∨ 0 < b
theorem bd_pos {b : Int32} (h : bdo b) (hn : ¬ b = 0) : ¬ b ≤ 0 := Int32.not_le.mpr (h.resolve_left hn)
theorem bd_n {k : Int32} (h : 0 < k) : ¬ k = 0 := fun q => by rw [q] at h; exact absurd h (by decide)
theorem nar_b {x : Int32} (h : x = 0 ∨ x = 1) : vp_nar .boolean x = x := by
  rcases h with rfl | rfl <;> rfl
theorem bln_ub {g : Nat → Int32} (h : bln g) {k : Nat} {v : Int32} (hv : v = 0 ∨ v = 1) : bln (upd g k v) := fun i => by
  unfold upd
  split
  · exact hv
  · exact h i

set_option maxHeartbeats 8000000 in
set_option maxRecDepth 100000 in
theorem mo_wrong (l : Launch) (D : va_G) (cI cL cZ cC : ClassId) (f : Nat → Nat) (h0 : Nat) (tn : Int32) (rm : Nat) (ln : Nat) (lx : Nat) (at_ : Nat) (bd : Int32) (fs : Nat) (dp : Nat) (on : Nat) (os : Nat) (bn : Nat) (df : Nat) (th : Int32) (tp : Nat) (mo_ : Int32) (ev : Nat) (ss : Int32) (so : Int32) (lk : Int64) (rs : Int64) (pt : Int32) (ot : Nat) (cl : Int32) (k : Int32) (sz : Nat) (hk : 0 < k) (hbo : bdo bd) (hnt : l.stackTraces = false) : em_Met l y_MO_wrong (wz y_MO_wrong b_MO_wrong 2 none) ({ frames := 0, cells := 0, slots := 0, locals := 0 }) (va_Pc [.ref h0, .int k] (tw_pre D (tys4 cI cL cZ cC) [(h0, .inr (8, mS f tn rm ln lx at_ bd fs dp on os bn df th tp mo_ ev ss so lk rs pt ot cl))] sz)) D (tys4 cI cL cZ cC) (va_A [(h0, .inr (8, mS f tn rm ln lx at_ bd fs dp on os bn df th tp mo_ ev ss so lk rs pt ot cl))] sz) (fun (u : Int32) => [(h0, .inr (8, mS f tn rm ln lx at_ u fs dp on os bn df th tp mo_ ev ss so lk rs pt ot cl))]) (fun v (u : Int32) => v = none ∧ ((¬ u = 0) ∧ (bdo u) ∧ (bd = 0 → u = k))) (fun C (u : Int32) => False) 0 0 := by
  refine em_Met.ofW (cc := b_MO_wrong) (maxL := 2) (ret := none) (by decide) rfl ?_
  intro p e s m args below meth c s₁ B hml hv hno
  obtain ⟨rfl, ⟨hsz, hP, hK, hD0⟩, hE⟩ := hv
  have hx := B.exec
  have hb := B.bytes
  have hr := B.returns
  have hts := atoms_spec (ws := wz y_MO_wrong b_MO_wrong 2 none) B.pre
  have hG := wz_G hts
  have hown : s.vm.findClass rn_MO = some m.cls := findClass_of_methodNamed B.named
  have hlocks := B.notSynchronized
  subst hsz
  have hD := hD0.self (sz := s.heap.size)
  have hst := tw_st hP
  generalize hAe : va_A [(h0, .inr (8, mS f tn rm ln lx at_ bd fs dp on os bn df th tp mo_ ev ss so lk rs pt ot cl))] s.heap.size = A at hD hst ⊢
  have hA : ∀ q : Nat, s.heap.size ≤ q → A q := fun q h => by rw [← hAe]; exact Or.inr h
  have hS : va_S A s.heap s.heap [] := va_S.rf
  have hl := lv_entry ([.ref h0, .int k]) (n := 2) (Nat.le_of_ble_eq_true rfl)
  rw [lg_entry_eq]
  generalize (lg_sl ([.ref h0, .int k]) ++ List.replicate (2 - (lg_sl ([.ref h0, .int k])).length) Slot.unset).toArray = ls at hl ⊢
  have hl : lv_has ls 2 [(0, .ref h0), (1, .int k)] := hl
  refine lv_aload_n hx hb d_MO_wrong_0 rfl (lv_at hl 0 rfl) ?_
  refine lv_aload_n hx hb d_MO_wrong_1 rfl (lv_at hl 0 rfl) ?_
  refine va_get (D := D) (ci := 8) (v := .int bd) (C := rn_MO) (T := fl_MO) (N := 55) hx hb hG in_MO hown hK hP 0 rfl rfl 6 (by decide) (hG _ k_1197) (fun _ h9 => h9) rfl d_MO_wrong_2 ?_
  refine lv_if_ne (tgt := 12) hx hb d_MO_wrong_5 (by decide) (fun hb_1 => ?_) (fun hb_1 => ?_)
  · skip
    refine lv_aload_n hx hb d_MO_wrong_12 rfl (lv_at hl 0 rfl) ?_
    refine va_get (D := D) (ci := 8) (v := .int bd) (C := rn_MO) (T := fl_MO) (N := 55) hx hb hG in_MO hown hK hP 0 rfl rfl 6 (by decide) (hG _ k_1197) (fun _ h9 => h9) rfl d_MO_wrong_13 ?_
    refine va_put (D := D) (ci := 8) (v := .int bd) (ty := .int) (C := rn_MO) (T := fl_MO) (N := 55) hx hb hG in_MO tt_MO tk_MO nn_MO hown hK hP hD hS 0 rfl rfl 6 (by decide) (hG _ k_1197) (fun _ h9 => h9) rfl (by decide +kernel) rfl rfl (Nat.le_of_ble_eq_true rfl) d_MO_wrong_16 (fun H locs hP hD hS => ?_)
    have hP : va_P D classes [(h0, .inr (8, mS f tn rm ln lx at_ bd fs dp on os bn df th tp mo_ ev ss so lk rs pt ot cl))] H := hP
    have hD : va_D A [(h0, .inr (8, mS f tn rm ln lx at_ bd fs dp on os bn df th tp mo_ ev ss so lk rs pt ot cl))] := hD
    exact em_vret hx hb hr hlocks hP hD hK hS (bd) [0] (by decide) rfl ⟨rfl, ⟨(show ¬ bd = 0 from (by first | assumption | exact bd_n hk)), (show bdo bd from (by first | assumption | exact Or.inr hk)), (show bd = 0 → bd = k from (by first | exact fun _ => rfl | exact fun q => absurd q (by assumption)))⟩⟩ d_MO_wrong_19
  · skip
    refine lv_iload_n hx hb d_MO_wrong_8 rfl (lv_at hl 1 rfl) ?_
    refine lv_goto (tgt := 16) hx hb d_MO_wrong_9 (by decide) ?_
    refine va_put (D := D) (ci := 8) (v := .int k) (ty := .int) (C := rn_MO) (T := fl_MO) (N := 55) hx hb hG in_MO tt_MO tk_MO nn_MO hown hK hP hD hS 0 rfl rfl 6 (by decide) (hG _ k_1197) (fun _ h9 => h9) rfl (by decide +kernel) rfl rfl (Nat.le_of_ble_eq_true rfl) d_MO_wrong_16 (fun H locs hP hD hS => ?_)
    have hP : va_P D classes [(h0, .inr (8, mS f tn rm ln lx at_ k fs dp on os bn df th tp mo_ ev ss so lk rs pt ot cl))] H := hP
    have hD : va_D A [(h0, .inr (8, mS f tn rm ln lx at_ k fs dp on os bn df th tp mo_ ev ss so lk rs pt ot cl))] := hD
    exact em_vret hx hb hr hlocks hP hD hK hS (k) [0] (by decide) rfl ⟨rfl, ⟨(show ¬ k = 0 from (by first | assumption | exact bd_n hk)), (show bdo k from (by first | assumption | exact Or.inr hk)), (show bd = 0 → k = k from (by first | exact fun _ => rfl | exact fun q => absurd q (by assumption)))⟩⟩ d_MO_wrong_19
set_option maxHeartbeats 8000000 in
set_option maxRecDepth 100000 in
theorem mo_apply (l : Launch) (D : va_G) (cI cL cZ cC : ClassId) (f : Nat → Nat) (h0 : Nat) (tn : Int32) (rm : Nat) (ln : Nat) (lx : Nat) (at_ : Nat) (bd : Int32) (fs : Nat) (dp : Nat) (on : Nat) (os : Nat) (bn : Nat) (df : Nat) (th : Int32) (tp : Nat) (mo_ : Int32) (ev : Nat) (ss : Int32) (so : Int32) (lk : Int64) (rs : Int64) (pt : Int32) (ot : Nat) (cl : Int32) (le : Nat → Int64) (ri : Nat → Int64) (fr : Nat → Int32) (T1 : Tr) (T2 : Tr) (Pk : Int64 → Prop) (a : Int64) (b : Int64) (sz : Nat) (hfr : rng 2000 fr) (h1 : rep le ri a T1) (h2 : rep le ri b T2) (ho : ∀ d, fo fr fs d + (toc T1) d + (toc T2) d ≤ 1) (hk1 : okT Pk T1) (hk2 : okT Pk T2) (hkI : Pk (wof 2 2)) (hbo : bdo bd) (hnt : l.stackTraces = false) : em_Met l y_MO_apply (wz y_MO_apply b_MO_apply 6 (some .long)) ({ frames := 2, cells := 0, slots := 0, locals := 41 }) (va_Pc [.ref h0, .long a, .long b] (tw_pre D (tys4 cI cL cZ cC) [(h0, .inr (8, mS f tn rm ln lx at_ bd fs dp on os bn df th tp mo_ ev ss so lk rs pt ot cl)), ((f 3), .inl (cL, 2000, .inr (.inl le))), ((f 4), .inl (cL, 2000, .inr (.inl ri))), ((f 5), .inl (cI, 2000, .inl fr))] sz)) D (tys4 cI cL cZ cC) (va_A [(h0, .inr (8, mS f tn rm ln lx at_ bd fs dp on os bn df th tp mo_ ev ss so lk rs pt ot cl)), ((f 3), .inl (cL, 2000, .inr (.inl le))), ((f 4), .inl (cL, 2000, .inr (.inl ri))), ((f 5), .inl (cI, 2000, .inl fr))] sz) (fun (u : Int32 × Nat × (Nat → Int64) × (Nat → Int64)) => [(h0, .inr (8, mS f tn rm ln lx at_ u.1 u.2.1 dp on os bn df th tp mo_ ev ss so lk rs pt ot cl)), ((f 3), .inl (cL, 2000, .inr (.inl u.2.2.1))), ((f 4), .inl (cL, 2000, .inr (.inl u.2.2.2))), ((f 5), .inl (cI, 2000, .inl fr))]) (fun v (u : Int32 × Nat × (Nat → Int64) × (Nat → Int64)) => ∃ r : Int64, v = some (.long r) ∧ ((u.1 = 0 → bd = 0) ∧ (bdo u.1) ∧ (∃ T' : Tr, rep u.2.2.1 u.2.2.2 r T' ∧ okT Pk T' ∧ (∀ d, fo fr u.2.1 d + (toc T') d ≤ fo fr fs d + (toc T1 d + toc T2 d)) ∧ (∀ d, fo fr fs d + (toc T1 d + toc T2 d) = 0 → u.2.2.1 d = le d ∧ u.2.2.2 d = ri d)))) (fun C (u : Int32 × Nat × (Nat → Int64) × (Nat → Int64)) => False) 0 0 := by
  refine em_Met.ofW (cc := b_MO_apply) (maxL := 6) (ret := (some .long)) (by decide) rfl ?_
  intro p e s m args below meth c s₁ B hml hv hno
  obtain ⟨rfl, ⟨hsz, hP, hK, hD0⟩, hE⟩ := hv
  have hx := B.exec
  have hb := B.bytes
  have hr := B.returns
  have hts := atoms_spec (ws := wz y_MO_apply b_MO_apply 6 (some .long)) B.pre
  have hG := wz_G hts
  have hown : s.vm.findClass rn_MO = some m.cls := findClass_of_methodNamed B.named
  have hlocks := B.notSynchronized
  subst hsz
  have hD := hD0.self (sz := s.heap.size)
  have hst := tw_st hP
  generalize hAe : va_A [(h0, .inr (8, mS f tn rm ln lx at_ bd fs dp on os bn df th tp mo_ ev ss so lk rs pt ot cl)), ((f 3), .inl (cL, 2000, .inr (.inl le))), ((f 4), .inl (cL, 2000, .inr (.inl ri))), ((f 5), .inl (cI, 2000, .inl fr))] s.heap.size = A at hD hst ⊢
  have hA : ∀ q : Nat, s.heap.size ≤ q → A q := fun q h => by rw [← hAe]; exact Or.inr h
  have hS : va_S A s.heap s.heap [] := va_S.rf
  have hl := lv_entry ([.ref h0, .long a, .long b]) (n := 6) (Nat.le_of_ble_eq_true rfl)
  rw [lg_entry_eq]
  generalize (lg_sl ([.ref h0, .long a, .long b]) ++ List.replicate (6 - (lg_sl ([.ref h0, .long a, .long b])).length) Slot.unset).toArray = ls at hl ⊢
  have hl : lv_has ls 6 [(0, .ref h0), (1, .long a), (3, .long b)] := hl
  have hfs := fs_le (n := fs) hfr (fun d => by have := ho d; omega)
  refine lv_aload_n hx hb d_MO_apply_0 rfl (lv_at hl 0 rfl) ?_
  refine va_get (D := D) (ci := 8) (v := .int (nI fs)) (C := rn_MO) (T := fl_MO) (N := 55) hx hb hG in_MO hown hK hP 0 rfl rfl 11 (by decide) (hG _ k_1202) (fun _ h9 => h9) rfl d_MO_apply_1 ?_
  refine lv_if_ne (tgt := 17) hx hb d_MO_apply_4 (by decide) (fun hb_1 => ?_) (fun hb_1 => ?_)
  · skip
    have hn_2 : ¬ fs = 0 := fun h => hb_1 ((nI_eq (a := fs) (b := 0) (by omega) (by omega)).mpr h)
    refine lv_aload_n hx hb d_MO_apply_17 rfl (lv_at hl 0 rfl) ?_
    refine lv_dup hx hb d_MO_apply_18 rfl ?_
    refine va_get (D := D) (ci := 8) (v := .int (nI fs)) (C := rn_MO) (T := fl_MO) (N := 55) hx hb hG in_MO hown hK hP 0 rfl rfl 11 (by decide) (hG _ k_1202) (fun _ h9 => h9) rfl d_MO_apply_19 ?_
    refine lv_iconst (v := 1) hx hb d_MO_apply_22 (by decide) ?_
    refine lw_isub (a := fs) (b := 1) hx hb d_MO_apply_23 (by omega) ?_
    refine va_put (D := D) (ci := 8) (v := .int (nI (fs - 1))) (ty := .int) (C := rn_MO) (T := fl_MO) (N := 55) hx hb hG in_MO tt_MO tk_MO nn_MO hown hK hP hD hS 0 rfl rfl 11 (by decide) (hG _ k_1202) (fun _ h9 => h9) rfl (by decide +kernel) rfl rfl (Nat.le_of_ble_eq_true rfl) d_MO_apply_24 (fun H locs hP hD hS => ?_)
    have hP : va_P D classes [(h0, .inr (8, mS f tn rm ln lx at_ bd (fs - 1) dp on os bn df th tp mo_ ev ss so lk rs pt ot cl)), ((f 3), .inl (cL, 2000, .inr (.inl le))), ((f 4), .inl (cL, 2000, .inr (.inl ri))), ((f 5), .inl (cI, 2000, .inl fr))] H := hP
    have hD : va_D A [(h0, .inr (8, mS f tn rm ln lx at_ bd (fs - 1) dp on os bn df th tp mo_ ev ss so lk rs pt ot cl)), ((f 3), .inl (cL, 2000, .inr (.inl le))), ((f 4), .inl (cL, 2000, .inr (.inl ri))), ((f 5), .inl (cI, 2000, .inl fr))] := hD
    refine lv_aload_n hx hb d_MO_apply_27 rfl (lv_at hl 0 rfl) ?_
    refine va_get (D := D) (ci := 8) (v := .ref (f 5)) (C := rn_MO) (T := fl_MO) (N := 55) hx hb hG in_MO hown hK hP 0 rfl rfl 12 (by decide) (hG _ k_1203) (fun _ h9 => h9) rfl d_MO_apply_28 ?_
    refine lv_aload_n hx hb d_MO_apply_31 rfl (lv_at hl 0 rfl) ?_
    refine va_get (D := D) (ci := 8) (v := .int (nI (fs - 1))) (C := rn_MO) (T := fl_MO) (N := 55) hx hb hG in_MO hown hK hP 0 rfl rfl 11 (by decide) (hG _ k_1202) (fun _ h9 => h9) rfl d_MO_apply_32 ?_
    refine va_iald hx hb hK hP 3 0 rfl rfl (vp_in_nI (n := fs - 1) (N := 2000) (by omega) (by omega)) d_MO_apply_35 ?_
    obtain ⟨j_3, hj_3, ej_3⟩ := hfr (fs - 1)
    refine W.eq (g2 := F0 m 36 ls [.int (nI j_3)]) (by rw [nI_clamp (n := fs - 1) (by omega)]; rw [ej_3]) ?_
    refine lv_istore (lv' := [(5, .int (nI j_3)), (0, .ref h0), (1, .long a), (3, .long b)]) hx hb d_MO_apply_36 hl (Nat.le_of_ble_eq_true rfl) rfl (fun ls hl => ?_)
    refine lv_aload_n hx hb d_MO_apply_38 rfl (lv_at hl 1 rfl) ?_
    refine va_get (D := D) (ci := 8) (v := .ref (f 3)) (C := rn_MO) (T := fl_MO) (N := 55) hx hb hG in_MO hown hK hP 0 rfl rfl 9 (by decide) (hG _ k_1200) (fun _ h9 => h9) rfl d_MO_apply_39 ?_
    refine lv_iload hx hb d_MO_apply_42 (lv_at hl 0 rfl) ?_
    refine lv_lload_n hx hb d_MO_apply_44 rfl (lv_at hl 2 rfl) ?_
    refine va_last hx hb hK hP hD hS 1 1 rfl rfl (vp_in_nI (n := j_3) (N := 2000) (by omega) (by omega)) d_MO_apply_45 (fun H locs hP hD hS => ?_)
    have hP : va_P D classes [(h0, .inr (8, mS f tn rm ln lx at_ bd (fs - 1) dp on os bn df th tp mo_ ev ss so lk rs pt ot cl)), ((f 3), .inl (cL, 2000, .inr (.inl (vp_updL le (nI j_3).toNatClampNeg a)))), ((f 4), .inl (cL, 2000, .inr (.inl ri))), ((f 5), .inl (cI, 2000, .inl fr))] H := hP
    have hD : va_D A [(h0, .inr (8, mS f tn rm ln lx at_ bd (fs - 1) dp on os bn df th tp mo_ ev ss so lk rs pt ot cl)), ((f 3), .inl (cL, 2000, .inr (.inl (vp_updL le (nI j_3).toNatClampNeg a)))), ((f 4), .inl (cL, 2000, .inr (.inl ri))), ((f 5), .inl (cI, 2000, .inl fr))] := hD
    obtain ⟨g_4, eg_4⟩ : ∃ z, z = vp_updL le j_3 a := ⟨_, rfl⟩
    rw [nI_clamp (n := j_3) (by omega), ← eg_4] at hP hD
    refine lv_aload_n hx hb d_MO_apply_46 rfl (lv_at hl 1 rfl) ?_
    refine va_get (D := D) (ci := 8) (v := .ref (f 4)) (C := rn_MO) (T := fl_MO) (N := 55) hx hb hG in_MO hown hK hP 0 rfl rfl 10 (by decide) (hG _ k_1201) (fun _ h9 => h9) rfl d_MO_apply_47 ?_
    refine lv_iload hx hb d_MO_apply_50 (lv_at hl 0 rfl) ?_
    refine lv_lload_n hx hb d_MO_apply_52 rfl (lv_at hl 3 rfl) ?_
    refine va_last hx hb hK hP hD hS 2 1 rfl rfl (vp_in_nI (n := j_3) (N := 2000) (by omega) (by omega)) d_MO_apply_53 (fun H locs hP hD hS => ?_)
    have hP : va_P D classes [(h0, .inr (8, mS f tn rm ln lx at_ bd (fs - 1) dp on os bn df th tp mo_ ev ss so lk rs pt ot cl)), ((f 3), .inl (cL, 2000, .inr (.inl g_4))), ((f 4), .inl (cL, 2000, .inr (.inl (vp_updL ri (nI j_3).toNatClampNeg b)))), ((f 5), .inl (cI, 2000, .inl fr))] H := hP
    have hD : va_D A [(h0, .inr (8, mS f tn rm ln lx at_ bd (fs - 1) dp on os bn df th tp mo_ ev ss so lk rs pt ot cl)), ((f 3), .inl (cL, 2000, .inr (.inl g_4))), ((f 4), .inl (cL, 2000, .inr (.inl (vp_updL ri (nI j_3).toNatClampNeg b)))), ((f 5), .inl (cI, 2000, .inl fr))] := hD
    obtain ⟨g_5, eg_5⟩ : ∃ z, z = vp_updL ri j_3 b := ⟨_, rfl⟩
    rw [nI_clamp (n := j_3) (by omega), ← eg_5] at hP hD
    refine lv_iconst (v := 3) hx hb d_MO_apply_54 (by decide) ?_
    refine lv_iload hx hb d_MO_apply_55 (lv_at hl 0 rfl) ?_
    refine W.callRL (W.runS (As := [.int 3, .int (nI j_3)]) (rest := []) ⟨hx, hb, hml, hown, hG⟩ (mo_term l D cI cL cZ cC 3 (nI j_3) ) (cwS 2 hG (gd_S k_1445 k_1446 k_116 k_1447) rfl rfl rfl (by decide +kernel) ⟨Nat.le_of_ble_eq_true rfl, Nat.le_of_ble_eq_true rfl⟩) (wq_S hP hK [] rfl) rfl rfl hl.1 rfl (lv_room (Nat.le_of_ble_eq_true rfl)) d_MO_apply_57 ⟨Nat.le_of_ble_eq_true rfl, Nat.le_of_ble_eq_true rfl⟩) ?_
    refine W.eq (g2 := F0 m 60 ls [.long (wof 3 (nI j_3))]) rfl ?_
    exact em_lret hx hb hr hlocks hP hD hK hS (bd, fs - 1, g_4, g_5) [0, 1, 2, 3] (by decide) rfl ⟨_, rfl, ⟨(show bd = 0 → bd = 0 from (by first | exact id | exact (fun q => absurd q (by assumption)) | exact (id))), (show bdo bd from (by first | assumption | omega | exact Or.inl rfl)), (show ∃ T' : Tr, rep g_4 g_5 (wof 3 (nI j_3) : Int64) T' ∧ okT Pk T' ∧ (∀ d, fo fr (fs - 1) d + (toc T') d ≤ fo fr fs d + (toc T1 d + toc T2 d)) ∧ (∀ d, fo fr fs d + (toc T1 d + toc T2 d) = 0 → g_4 d = le d ∧ g_5 d = ri d) from (by subst eg_4 eg_5; obtain ⟨q1, q2, q3⟩ := tr_apply (T1 := T1) (T2 := T2) hfr (by omega) h1 h2 ho hj_3 ej_3; exact ⟨_, q1, ⟨hk1, hk2⟩, q2, q3⟩))⟩⟩ d_MO_apply_60
  · skip
    have hn_6 : fs = 0 := (nI_eq (a := fs) (b := 0) (by omega) (by omega)).mp hb_1
    refine lv_aload_n hx hb d_MO_apply_7 rfl (lv_at hl 0 rfl) ?_
    refine lv_iconst (v := 3) hx hb d_MO_apply_8 (by decide) ?_
    refine em_call (wr := [((f 3), .inl (cL, 2000, .inr (.inl le))), ((f 4), .inl (cL, 2000, .inr (.inl ri))), ((f 5), .inl (cI, 2000, .inl fr))]) (em_runV (As := [.int 3]) (rest := []) ⟨hx, hb, hml, hown, hG⟩ (mo_wrong l D cI cL cZ cC f h0 tn rm ln lx at_ bd fs dp on os bn df th tp mo_ ev ss so lk rs pt ot cl 3 _ (by decide) (by first | assumption | omega | exact Or.inl rfl) hnt) (cwV 1 hG (gd_V k_1388 k_1390 k_54 k_116 k_1391) rfl rfl rfl (by decide +kernel) ⟨Nat.le_of_ble_eq_true rfl, Nat.le_of_ble_eq_true rfl⟩) (tw_V (q0 := 0) hP hD hK hE hst hS rfl rfl [0] rfl (by decide)) rfl rfl hl.1 rfl (lv_room (Nat.le_of_ble_eq_true rfl)) d_MO_apply_9 ⟨Nat.le_of_ble_eq_true rfl, Nat.le_of_ble_eq_true rfl⟩) hP hD hS hA [0] [1, 2, 3] rfl rfl (by decide) (by decide) (fun v u H locs hok hP hD hS => ?_) (fun x C u H locs hbad hxx hP hD hS => ?_)
    · skip
      obtain ⟨bd_7, rfl⟩ : ∃ z, z = u := ⟨_, rfl⟩
      obtain ⟨rfl, hp_9⟩ := hok
      obtain ⟨hbn_10, hbo_11, hbx_12⟩ : (¬ bd_7 = 0) ∧ (bdo bd_7) ∧ (bd = 0 → bd_7 = (3 : Int32)) := hp_9
      have hP : va_P D classes [((f 3), .inl (cL, 2000, .inr (.inl le))), ((f 4), .inl (cL, 2000, .inr (.inl ri))), ((f 5), .inl (cI, 2000, .inl fr)), (h0, .inr (8, mS f tn rm ln lx at_ bd_7 fs dp on os bn df th tp mo_ ev ss so lk rs pt ot cl))] H := hP
      have hD : va_D A [((f 3), .inl (cL, 2000, .inr (.inl le))), ((f 4), .inl (cL, 2000, .inr (.inl ri))), ((f 5), .inl (cI, 2000, .inl fr)), (h0, .inr (8, mS f tn rm ln lx at_ bd_7 fs dp on os bn df th tp mo_ ev ss so lk rs pt ot cl))] := hD
      refine W.eq (g2 := F0 m 12 ls []) rfl ?_
      refine lv_iconst (v := 2) hx hb d_MO_apply_12 (by decide) ?_
      refine W.callRL (W.runS (As := [.int 2]) (rest := []) ⟨hx, hb, hml, hown, hG⟩ (mo_constant l D cI cL cZ cC 2 ) (cwS 1 hG (gd_S k_1461 k_1462 k_116 k_1463) rfl rfl rfl (by decide +kernel) ⟨Nat.le_of_ble_eq_true rfl, Nat.le_of_ble_eq_true rfl⟩) (wq_S hP hK [] rfl) rfl rfl hl.1 rfl (lv_room (Nat.le_of_ble_eq_true rfl)) d_MO_apply_13 ⟨Nat.le_of_ble_eq_true rfl, Nat.le_of_ble_eq_true rfl⟩) ?_
      refine W.eq (g2 := F0 m 16 ls [.long (wof 2 2)]) rfl ?_
      exact em_lret hx hb hr hlocks hP hD hK hS (bd_7, fs, le, ri) [3, 0, 1, 2] (by decide) rfl ⟨_, rfl, ⟨(show bd_7 = 0 → bd = 0 from (by first | exact id | exact (fun q => absurd q (by assumption)) | exact (id))), (show bdo bd_7 from (by first | assumption | omega | exact Or.inl rfl)), (show ∃ T' : Tr, rep le ri (wof 2 2 : Int64) T' ∧ okT Pk T' ∧ (∀ d, fo fr fs d + (toc T') d ≤ fo fr fs d + (toc T1 d + toc T2 d)) ∧ (∀ d, fo fr fs d + (toc T1 d + toc T2 d) = 0 → le d = le d ∧ ri d = ri d) from ⟨Lean.RArray.leaf (wof 2 2), rep_lf (by rw [wkind_of]; decide), hkI, (fun d => by rw [Tr.occ_lf]; omega), fun d _ => ⟨rfl, rfl⟩⟩)⟩⟩ d_MO_apply_16
    · skip
      exact hbad.elim
set_option maxHeartbeats 8000000 in
set_option maxRecDepth 100000 in
theorem mo_release (l : Launch) (D : va_G) (cI cL cZ cC : ClassId) (f : Nat → Nat) (h0 : Nat) (tn : Int32) (rm : Nat) (ln : Nat) (lx : Nat) (at_ : Nat) (bd : Int32) (fs : Nat) (dp : Nat) (on : Nat) (os : Nat) (bn : Nat) (df : Nat) (th : Int32) (tp : Nat) (mo_ : Int32) (ev : Nat) (ss : Int32) (so : Int32) (lk : Int64) (rs : Int64) (pt : Int32) (ot : Nat) (cl : Int32) (fr : Nat → Int32) (c0 : Nat) (t : Int64) (sz : Nat) (hfr : rng 2000 fr) (ec0 : t.toInt32 = nI c0) (hc0 : c0 < 2000) (ho : ∀ d, fo fr fs d + i1 d c0 ≤ 1) (hnt : l.stackTraces = false) : em_Met l y_MO_release (wz y_MO_release b_MO_release 3 none) ({ frames := 1, cells := 0, slots := 0, locals := 21 }) (va_Pc [.ref h0, .long t] (tw_pre D (tys4 cI cL cZ cC) [(h0, .inr (8, mS f tn rm ln lx at_ bd fs dp on os bn df th tp mo_ ev ss so lk rs pt ot cl)), ((f 5), .inl (cI, 2000, .inl fr))] sz)) D (tys4 cI cL cZ cC) (va_A [(h0, .inr (8, mS f tn rm ln lx at_ bd fs dp on os bn df th tp mo_ ev ss so lk rs pt ot cl)), ((f 5), .inl (cI, 2000, .inl fr))] sz) (fun (u : Nat × (Nat → Int32)) => [(h0, .inr (8, mS f tn rm ln lx at_ bd u.1 dp on os bn df th tp mo_ ev ss so lk rs pt ot cl)), ((f 5), .inl (cI, 2000, .inl u.2))]) (fun v (u : Nat × (Nat → Int32)) => v = none ∧ ((rng 2000 u.2) ∧ (u.1 = fs + 1) ∧ (∀ d, fo u.2 u.1 d = fo fr fs d + i1 d c0))) (fun C (u : Nat × (Nat → Int32)) => False) 0 0 := by
  refine em_Met.ofW (cc := b_MO_release) (maxL := 3) (ret := none) (by decide) rfl ?_
  intro p e s m args below meth c s₁ B hml hv hno
  obtain ⟨rfl, ⟨hsz, hP, hK, hD0⟩, hE⟩ := hv
  have hx := B.exec
  have hb := B.bytes
  have hr := B.returns
  have hts := atoms_spec (ws := wz y_MO_release b_MO_release 3 none) B.pre
  have hG := wz_G hts
  have hown : s.vm.findClass rn_MO = some m.cls := findClass_of_methodNamed B.named
  have hlocks := B.notSynchronized
  subst hsz
  have hD := hD0.self (sz := s.heap.size)
  have hst := tw_st hP
  generalize hAe : va_A [(h0, .inr (8, mS f tn rm ln lx at_ bd fs dp on os bn df th tp mo_ ev ss so lk rs pt ot cl)), ((f 5), .inl (cI, 2000, .inl fr))] s.heap.size = A at hD hst ⊢
  have hA : ∀ q : Nat, s.heap.size ≤ q → A q := fun q h => by rw [← hAe]; exact Or.inr h
  have hS : va_S A s.heap s.heap [] := va_S.rf
  have hl := lv_entry ([.ref h0, .long t]) (n := 3) (Nat.le_of_ble_eq_true rfl)
  rw [lg_entry_eq]
  generalize (lg_sl ([.ref h0, .long t]) ++ List.replicate (3 - (lg_sl ([.ref h0, .long t])).length) Slot.unset).toArray = ls at hl ⊢
  have hl : lv_has ls 3 [(0, .ref h0), (1, .long t)] := hl
  have hfs := fo_lt hfr hc0 ho
  refine lv_aload_n hx hb d_MO_release_0 rfl (lv_at hl 0 rfl) ?_
  refine va_get (D := D) (ci := 8) (v := .ref (f 5)) (C := rn_MO) (T := fl_MO) (N := 55) hx hb hG in_MO hown hK hP 0 rfl rfl 12 (by decide) (hG _ k_1203) (fun _ h9 => h9) rfl d_MO_release_1 ?_
  refine lv_aload_n hx hb d_MO_release_4 rfl (lv_at hl 0 rfl) ?_
  refine va_get (D := D) (ci := 8) (v := .int (nI fs)) (C := rn_MO) (T := fl_MO) (N := 55) hx hb hG in_MO hown hK hP 0 rfl rfl 11 (by decide) (hG _ k_1202) (fun _ h9 => h9) rfl d_MO_release_5 ?_
  refine lv_lload_n hx hb d_MO_release_8 rfl (lv_at hl 1 rfl) ?_
  refine W.callR (W.runS (As := [.long t]) (rest := [.int (nI fs), .ref (f 5)]) ⟨hx, hb, hml, hown, hG⟩ (mo_valueOf l D cI cL cZ cC t ) (cwS 1 hG (gd_S k_1522 k_1523 k_116 k_1524) rfl rfl rfl (by decide +kernel) ⟨Nat.le_of_ble_eq_true rfl, Nat.le_of_ble_eq_true rfl⟩) (wq_S hP hK [] rfl) rfl rfl hl.1 rfl (lv_room (Nat.le_of_ble_eq_true rfl)) d_MO_release_9 ⟨Nat.le_of_ble_eq_true rfl, Nat.le_of_ble_eq_true rfl⟩) ?_
  refine W.eq (g2 := F0 m 12 ls [.int t.toInt32, .int (nI fs), .ref (f 5)]) rfl ?_
  refine W.eq (g2 := F0 m 12 ls [.int (nI c0), .int (nI fs), .ref (f 5)]) (by rw [ec0]) ?_
  refine va_iast hx hb hK hP hD hS 1 0 rfl rfl (vp_in_nI (n := fs) (N := 2000) (by omega) (by omega)) d_MO_release_12 (fun H locs hP hD hS => ?_)
  have hP : va_P D classes [(h0, .inr (8, mS f tn rm ln lx at_ bd fs dp on os bn df th tp mo_ ev ss so lk rs pt ot cl)), ((f 5), .inl (cI, 2000, .inl (upd fr (nI fs).toNatClampNeg (nI c0))))] H := hP
  have hD : va_D A [(h0, .inr (8, mS f tn rm ln lx at_ bd fs dp on os bn df th tp mo_ ev ss so lk rs pt ot cl)), ((f 5), .inl (cI, 2000, .inl (upd fr (nI fs).toNatClampNeg (nI c0))))] := hD
  obtain ⟨g_1, eg_1⟩ : ∃ z, z = upd fr fs (nI c0) := ⟨_, rfl⟩
  rw [nI_clamp (n := fs) (by omega), ← eg_1] at hP hD
  have hg_1 : rng 2000 g_1 := by rw [eg_1]; exact rng_up hfr (by omega)
  refine lv_aload_n hx hb d_MO_release_13 rfl (lv_at hl 0 rfl) ?_
  refine lv_dup hx hb d_MO_release_14 rfl ?_
  refine va_get (D := D) (ci := 8) (v := .int (nI fs)) (C := rn_MO) (T := fl_MO) (N := 55) hx hb hG in_MO hown hK hP 0 rfl rfl 11 (by decide) (hG _ k_1202) (fun _ h9 => h9) rfl d_MO_release_15 ?_
  refine lv_iconst (v := 1) hx hb d_MO_release_18 (by decide) ?_
  refine lw_iadd (a := fs) (b := 1) hx hb d_MO_release_19 ?_
  refine va_put (D := D) (ci := 8) (v := .int (nI (fs + 1))) (ty := .int) (C := rn_MO) (T := fl_MO) (N := 55) hx hb hG in_MO tt_MO tk_MO nn_MO hown hK hP hD hS 0 rfl rfl 11 (by decide) (hG _ k_1202) (fun _ h9 => h9) rfl (by decide +kernel) rfl rfl (Nat.le_of_ble_eq_true rfl) d_MO_release_20 (fun H locs hP hD hS => ?_)
  have hP : va_P D classes [(h0, .inr (8, mS f tn rm ln lx at_ bd (fs + 1) dp on os bn df th tp mo_ ev ss so lk rs pt ot cl)), ((f 5), .inl (cI, 2000, .inl g_1))] H := hP
  have hD : va_D A [(h0, .inr (8, mS f tn rm ln lx at_ bd (fs + 1) dp on os bn df th tp mo_ ev ss so lk rs pt ot cl)), ((f 5), .inl (cI, 2000, .inl g_1))] := hD
  exact em_vret hx hb hr hlocks hP hD hK hS (fs + 1, g_1) [0, 1] (by decide) rfl ⟨rfl, ⟨hg_1, (show (fs + 1) = fs + 1 from (by first | assumption | omega | exact Or.inl rfl)), (show ∀ d, fo g_1 (fs + 1) d = fo fr fs d + i1 d c0 from (fun d => by rw [eg_1, fo_upd, nI_clamp (by omega)]))⟩⟩ d_MO_release_23
set_option maxHeartbeats 8000000 in
set_option maxRecDepth 100000 in
theorem mo_isApplied (l : Launch) (D : va_G) (cI cL cZ cC : ClassId) (f : Nat → Nat) (h0 : Nat) (tn : Int32) (rm : Nat) (ln : Nat) (lx : Nat) (at_ : Nat) (bd : Int32) (fs : Nat) (dp : Nat) (on : Nat) (os : Nat) (bn : Nat) (df : Nat) (th : Int32) (tp : Nat) (mo_ : Int32) (ev : Nat) (ss : Int32) (so : Int32) (lk : Int64) (rs : Int64) (pt : Int32) (ot : Nat) (cl : Int32) (le : Nat → Int64) (ri : Nat → Int64) (T : Tr) (t : Int64) (k : Int32) (sz : Nat) (h1 : rep le ri t T) (hnt : l.stackTraces = false) : em_Met l y_MO_isApplied (wz y_MO_isApplied b_MO_isApplied 4 (some .boolean)) ({ frames := 2, cells := 0, slots := 0, locals := 41 }) (va_Pc [.ref h0, .long t, .int k] (tw_pre D (tys4 cI cL cZ cC) [(h0, .inr (8, mS f tn rm ln lx at_ bd fs dp on os bn df th tp mo_ ev ss so lk rs pt ot cl)), ((f 3), .inl (cL, 2000, .inr (.inl le))), ((f 4), .inl (cL, 2000, .inr (.inl ri)))] sz)) D (tys4 cI cL cZ cC) (va_A [(h0, .inr (8, mS f tn rm ln lx at_ bd fs dp on os bn df th tp mo_ ev ss so lk rs pt ot cl)), ((f 3), .inl (cL, 2000, .inr (.inl le))), ((f 4), .inl (cL, 2000, .inr (.inl ri)))] sz) (fun (_ : Unit) => [(h0, .inr (8, mS f tn rm ln lx at_ bd fs dp on os bn df th tp mo_ ev ss so lk rs pt ot cl)), ((f 3), .inl (cL, 2000, .inr (.inl le))), ((f 4), .inl (cL, 2000, .inr (.inl ri)))]) (fun v (_ : Unit) => ∃ r : Int32, v = some (.int r) ∧ (((r = 0 ∨ (r = 1 ∧ ∃ (cc : Nat) (tb : Tr), T = Lean.RArray.branch cc (Lean.RArray.leaf (wof 2 k)) tb ∧ t.toInt32 = nI cc ∧ cc < 2000 ∧ rep le ri (ri cc) tb))))) (fun C (_ : Unit) => False) 0 0 := by
  refine em_Met.ofW (cc := b_MO_isApplied) (maxL := 4) (ret := (some .boolean)) (by decide) rfl ?_
  intro p e s m args below meth c s₁ B hml hv hno
  obtain ⟨rfl, ⟨hsz, hP, hK, hD0⟩, hE⟩ := hv
  have hx := B.exec
  have hb := B.bytes
  have hr := B.returns
  have hts := atoms_spec (ws := wz y_MO_isApplied b_MO_isApplied 4 (some .boolean)) B.pre
  have hG := wz_G hts
  have hown : s.vm.findClass rn_MO = some m.cls := findClass_of_methodNamed B.named
  have hlocks := B.notSynchronized
  subst hsz
  have hD := hD0.self (sz := s.heap.size)
  have hst := tw_st hP
  generalize hAe : va_A [(h0, .inr (8, mS f tn rm ln lx at_ bd fs dp on os bn df th tp mo_ ev ss so lk rs pt ot cl)), ((f 3), .inl (cL, 2000, .inr (.inl le))), ((f 4), .inl (cL, 2000, .inr (.inl ri)))] s.heap.size = A at hD hst ⊢
  have hA : ∀ q : Nat, s.heap.size ≤ q → A q := fun q h => by rw [← hAe]; exact Or.inr h
  have hS : va_S A s.heap s.heap [] := va_S.rf
  have hl := lv_entry ([.ref h0, .long t, .int k]) (n := 4) (Nat.le_of_ble_eq_true rfl)
  rw [lg_entry_eq]
  generalize (lg_sl ([.ref h0, .long t, .int k]) ++ List.replicate (4 - (lg_sl ([.ref h0, .long t, .int k])).length) Slot.unset).toArray = ls at hl ⊢
  have hl : lv_has ls 4 [(0, .ref h0), (1, .long t), (3, .int k)] := hl
  refine lv_lload_n hx hb d_MO_isApplied_0 rfl (lv_at hl 1 rfl) ?_
  refine W.callR (W.runS (As := [.long t]) (rest := []) ⟨hx, hb, hml, hown, hG⟩ (mo_kindOf l D cI cL cZ cC t ) (cwS 1 hG (gd_S k_1519 k_1520 k_116 k_1521) rfl rfl rfl (by decide +kernel) ⟨Nat.le_of_ble_eq_true rfl, Nat.le_of_ble_eq_true rfl⟩) (wq_S hP hK [] rfl) rfl rfl hl.1 rfl (lv_room (Nat.le_of_ble_eq_true rfl)) d_MO_isApplied_1 ⟨Nat.le_of_ble_eq_true rfl, Nat.le_of_ble_eq_true rfl⟩) ?_
  refine W.eq (g2 := F0 m 4 ls [.int (wkind t)]) rfl ?_
  refine lv_iconst (v := 3) hx hb d_MO_isApplied_4 (by decide) ?_
  refine lv_icmp_ne (tgt := 29) hx hb d_MO_isApplied_5 (by decide) (fun hb_1 => ?_) (fun hb_1 => ?_)
  · skip
    refine lv_iconst (v := 0) hx hb d_MO_isApplied_29 (by decide) ?_
    exact em_zret hx hb hr hlocks rfl hP hD hK hS () [0, 1, 2] (by decide) rfl ⟨_, rfl, (show ((0 : Int32) = 0 ∨ ((0 : Int32) = 1 ∧ ∃ (cc : Nat) (tb : Tr), T = Lean.RArray.branch cc (Lean.RArray.leaf (wof 2 k)) tb ∧ t.toInt32 = nI cc ∧ cc < 2000 ∧ rep le ri (ri cc) tb)) from (Or.inl rfl))⟩ d_MO_isApplied_30
  · skip
    obtain ⟨cc, ta, tb, eT, ecc, hcc, hra, hrb⟩ := rep_cell h1 hb_1
    refine lv_aload_n hx hb d_MO_isApplied_8 rfl (lv_at hl 0 rfl) ?_
    refine va_get (D := D) (ci := 8) (v := .ref (f 3)) (C := rn_MO) (T := fl_MO) (N := 55) hx hb hG in_MO hown hK hP 0 rfl rfl 9 (by decide) (hG _ k_1200) (fun _ h9 => h9) rfl d_MO_isApplied_9 ?_
    refine lv_lload_n hx hb d_MO_isApplied_12 rfl (lv_at hl 1 rfl) ?_
    refine W.callR (W.runS (As := [.long t]) (rest := [.ref (f 3)]) ⟨hx, hb, hml, hown, hG⟩ (mo_valueOf l D cI cL cZ cC t ) (cwS 1 hG (gd_S k_1522 k_1523 k_116 k_1524) rfl rfl rfl (by decide +kernel) ⟨Nat.le_of_ble_eq_true rfl, Nat.le_of_ble_eq_true rfl⟩) (wq_S hP hK [] rfl) rfl rfl hl.1 rfl (lv_room (Nat.le_of_ble_eq_true rfl)) d_MO_isApplied_13 ⟨Nat.le_of_ble_eq_true rfl, Nat.le_of_ble_eq_true rfl⟩) ?_
    refine W.eq (g2 := F0 m 16 ls [.int t.toInt32, .ref (f 3)]) rfl ?_
    refine W.eq (g2 := F0 m 16 ls [.int (nI cc), .ref (f 3)]) (by rw [ecc]) ?_
    refine va_lald hx hb hK hP 1 1 rfl rfl (vp_in_nI (n := cc) (N := 2000) (by omega) (by omega)) d_MO_isApplied_16 ?_
    refine W.eq (g2 := F0 m 17 ls [.long (le cc)]) (by rw [nI_clamp (n := cc) (by omega)]) ?_
    refine lv_iload_n hx hb d_MO_isApplied_17 rfl (lv_at hl 2 rfl) ?_
    refine W.callRL (W.runS (As := [.int k]) (rest := [.long (le cc)]) ⟨hx, hb, hml, hown, hG⟩ (mo_constant l D cI cL cZ cC k ) (cwS 1 hG (gd_S k_1461 k_1462 k_116 k_1463) rfl rfl rfl (by decide +kernel) ⟨Nat.le_of_ble_eq_true rfl, Nat.le_of_ble_eq_true rfl⟩) (wq_S hP hK [] rfl) rfl rfl hl.1 rfl (lv_room (Nat.le_of_ble_eq_true rfl)) d_MO_isApplied_18 ⟨Nat.le_of_ble_eq_true rfl, Nat.le_of_ble_eq_true rfl⟩) ?_
    refine W.eq (g2 := F0 m 21 ls [.long (wof 2 k), .long (le cc)]) rfl ?_
    refine W.lcmp hx hb d_MO_isApplied_21 ?_
    refine lv_if_ne (tgt := 29) hx hb d_MO_isApplied_22 (by decide) (fun hb_2 => ?_) (fun hb_2 => ?_)
    · skip
      have hq_3 : ¬ _ := fun h => hb_2 ((lg_cmp_eq _ _).mpr h)
      refine lv_iconst (v := 0) hx hb d_MO_isApplied_29 (by decide) ?_
      exact em_zret hx hb hr hlocks rfl hP hD hK hS () [0, 1, 2] (by decide) rfl ⟨_, rfl, (show ((0 : Int32) = 0 ∨ ((0 : Int32) = 1 ∧ ∃ (cc : Nat) (tb : Tr), T = Lean.RArray.branch cc (Lean.RArray.leaf (wof 2 k)) tb ∧ t.toInt32 = nI cc ∧ cc < 2000 ∧ rep le ri (ri cc) tb)) from (Or.inl rfl))⟩ d_MO_isApplied_30
    · skip
      have hq_4 := (lg_cmp_eq _ _).mp hb_2
      refine lv_iconst (v := 1) hx hb d_MO_isApplied_25 (by decide) ?_
      refine lv_goto (tgt := 30) hx hb d_MO_isApplied_26 (by decide) ?_
      exact em_zret hx hb hr hlocks rfl hP hD hK hS () [0, 1, 2] (by decide) rfl ⟨_, rfl, (show ((1 : Int32) = 0 ∨ ((1 : Int32) = 1 ∧ ∃ (cc : Nat) (tb : Tr), T = Lean.RArray.branch cc (Lean.RArray.leaf (wof 2 k)) tb ∧ t.toInt32 = nI cc ∧ cc < 2000 ∧ rep le ri (ri cc) tb)) from (Or.inr ⟨rfl, cc, tb, by rw [eT, rep_leaf (T := ta) (w := wof 2 k) (by rw [← hq_4]; exact hra) (by rw [wkind_of]; decide)], ecc, hcc, hrb⟩))⟩ d_MO_isApplied_30
