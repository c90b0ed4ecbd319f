set_option maxHeartbeats 8000000 in
set_option maxRecDepth 100000 in
theorem mo_without (l : Launch) (D : va_G) (cI cL cZ cC : ClassId) (f : Nat → Nat) (h0 : Nat) (tn : Int32) (rm : Nat) (ln : Nat) (lx : Nat) (at_ : Nat) (bd : Int32) (fs : Nat) (dp : Nat) (on : Nat) (os : Nat) (bn : Nat) (df : Nat) (th : Int32) (tp : Nat) (mo_ : Int32) (ev : Nat) (ss : Int32) (so : Int32) (lk : Int64) (rs : Int64) (pt : Int32) (ot : Nat) (cl : Int32) (le : Nat → Int64) (ri : Nat → Int64) (fr : Nat → Int32) (od : Nat → Int32) (ha : Nat → Int32) (be : Nat → Int64) (gon : Nat → Int32) (T : Tr) (Pk : Int64 → Prop) (t : Int64) (x : Int64) (sz : Nat) (hfr : rng 2000 fr) (hha : bln ha) (hgon : bln gon) (h1 : rep le ri t T) (ho : ∀ d, fo fr fs d + (toc T) d ≤ 1) (hxn : ¬ wkind x = 3) (hok : okT (fun w => w = x ∨ Pk w) T) (hcon : ∀ c : Nat, 2 ≤ c → c ≤ 22 → Pk (wof 2 (nI c))) (hg : ∀ d, gon d = 0) (hbo : bdo bd) (hnt : l.stackTraces = false) : em_Met l y_MO_without (wz y_MO_without b_MO_without 12 (some .long)) ({ frames := 4, cells := 0, slots := 0, locals := 101 }) (va_Pc [.ref h0, .long t, .long x] (tw_pre D (tys4 cI cL cZ cC) [(h0, .inr (8, mS f tn rm ln lx at_ bd fs dp on os bn df th tp mo_ ev ss so lk rs pt ot cl)), ((f 3), .inl (cL, 2000, .inr (.inl le))), ((f 4), .inl (cL, 2000, .inr (.inl ri))), ((f 5), .inl (cI, 2000, .inl fr)), ((f 6), .inl (cI, 2000, .inl od)), ((f 7), .inl (cZ, 2000, .inl ha)), ((f 8), .inl (cL, 2000, .inr (.inl be))), ((f 30), .inl (cZ, 2000, .inl gon))] sz)) D (tys4 cI cL cZ cC) (va_A [(h0, .inr (8, mS f tn rm ln lx at_ bd fs dp on os bn df th tp mo_ ev ss so lk rs pt ot cl)), ((f 3), .inl (cL, 2000, .inr (.inl le))), ((f 4), .inl (cL, 2000, .inr (.inl ri))), ((f 5), .inl (cI, 2000, .inl fr)), ((f 6), .inl (cI, 2000, .inl od)), ((f 7), .inl (cZ, 2000, .inl ha)), ((f 8), .inl (cL, 2000, .inr (.inl be))), ((f 30), .inl (cZ, 2000, .inl gon))] sz) (fun (u : Int32 × Nat × (Nat → Int64) × (Nat → Int64) × (Nat → Int32) × (Nat → Int32) × (Nat → Int32) × (Nat → Int64) × (Nat → Int32)) => [(h0, .inr (8, mS f tn rm ln lx at_ u.1 u.2.1 dp on os bn df th tp mo_ ev ss so lk rs pt ot cl)), ((f 3), .inl (cL, 2000, .inr (.inl u.2.2.1))), ((f 4), .inl (cL, 2000, .inr (.inl u.2.2.2.1))), ((f 5), .inl (cI, 2000, .inl u.2.2.2.2.1)), ((f 6), .inl (cI, 2000, .inl u.2.2.2.2.2.1)), ((f 7), .inl (cZ, 2000, .inl u.2.2.2.2.2.2.1)), ((f 8), .inl (cL, 2000, .inr (.inl u.2.2.2.2.2.2.2.1))), ((f 30), .inl (cZ, 2000, .inl u.2.2.2.2.2.2.2.2))]) (fun v (u : Int32 × Nat × (Nat → Int64) × (Nat → Int64) × (Nat → Int32) × (Nat → Int32) × (Nat → Int32) × (Nat → Int64) × (Nat → Int32)) => ∃ r : Int64, v = some (.long r) ∧ ((rng 2000 u.2.2.2.2.1) ∧ (bln u.2.2.2.2.2.2.1) ∧ (bln u.2.2.2.2.2.2.2.2) ∧ (u.1 = 0 → bd = 0) ∧ (bdo u.1) ∧ (∀ d, u.2.2.2.2.2.2.2.2 d = 0) ∧ ((u.1 = 0 → ∃ T' : Tr, rep u.2.2.1 u.2.2.2.1 r T' ∧ okT Pk T' ∧ (∀ d, fo u.2.2.2.2.1 u.2.1 d + (toc T') d ≤ fo fr fs d + toc T d) ∧ (∀ d, fo fr fs d + toc T d = 0 → u.2.2.1 d = le d ∧ u.2.2.2.1 d = ri d))))) (fun C (u : Int32 × Nat × (Nat → Int64) × (Nat → Int64) × (Nat → Int32) × (Nat → Int32) × (Nat → Int32) × (Nat → Int64) × (Nat → Int32)) => False) 0 0 := by
  refine em_Met.ofW (cc := b_MO_without) (maxL := 12) (ret := (some .long)) (by decide) rfl ?_
  intro p e s m args below meth c s₁ B hml hv hno
  obtain ⟨rfl, ⟨hsz, hP, hK, hD0⟩, hE⟩ := hv
  have hx := B.exec
  have hb := B.bytes
  have hr := B.returns
  have hts := atoms_spec (ws := wz y_MO_without b_MO_without 12 (some .long)) B.pre
  have hG := wz_G hts
  have hown : s.vm.findClass rn_MO = some m.cls := findClass_of_methodNamed B.named
  have hlocks := B.notSynchronized
  subst hsz
  have hD := hD0.self (sz := s.heap.size)
  have hst := tw_st hP
  generalize hAe : va_A [(h0, .inr (8, mS f tn rm ln lx at_ bd fs dp on os bn df th tp mo_ ev ss so lk rs pt ot cl)), ((f 3), .inl (cL, 2000, .inr (.inl le))), ((f 4), .inl (cL, 2000, .inr (.inl ri))), ((f 5), .inl (cI, 2000, .inl fr)), ((f 6), .inl (cI, 2000, .inl od)), ((f 7), .inl (cZ, 2000, .inl ha)), ((f 8), .inl (cL, 2000, .inr (.inl be))), ((f 30), .inl (cZ, 2000, .inl gon))] s.heap.size = A at hD hst ⊢
  have hA : ∀ q : Nat, s.heap.size ≤ q → A q := fun q h => by rw [← hAe]; exact Or.inr h
  have hS : va_S A s.heap s.heap [] := va_S.rf
  have hl := lv_entry ([.ref h0, .long t, .long x]) (n := 12) (Nat.le_of_ble_eq_true rfl)
  rw [lg_entry_eq]
  generalize (lg_sl ([.ref h0, .long t, .long x]) ++ List.replicate (12 - (lg_sl ([.ref h0, .long t, .long x])).length) Slot.unset).toArray = ls at hl ⊢
  have hl : lv_has ls 12 [(0, .ref h0), (1, .long t), (3, .long x)] := hl
  refine lv_lload_n hx hb d_MO_without_0 rfl (lv_at hl 1 rfl) ?_
  refine lv_lload_n hx hb d_MO_without_1 rfl (lv_at hl 2 rfl) ?_
  refine W.lcmp hx hb d_MO_without_2 ?_
  refine lv_if_ne (tgt := 11) hx hb d_MO_without_3 (by decide) (fun hb_1 => ?_) (fun hb_1 => ?_)
  · skip
    have hq_2 : ¬ _ := fun h => hb_1 ((lg_cmp_eq _ _).mpr h)
    refine lv_aload_n hx hb d_MO_without_11 rfl (lv_at hl 0 rfl) ?_
    refine lv_lload_n hx hb d_MO_without_12 rfl (lv_at hl 1 rfl) ?_
    refine em_call (wr := [((f 5), .inl (cI, 2000, .inl fr)), ((f 7), .inl (cZ, 2000, .inl ha)), ((f 8), .inl (cL, 2000, .inr (.inl be))), ((f 30), .inl (cZ, 2000, .inl gon))]) (em_runV (As := [.long t]) (rest := []) ⟨hx, hb, hml, hown, hG⟩ (mo_cells l D cI cL cZ cC f h0 tn rm ln lx at_ bd fs dp on os bn df th tp mo_ ev ss so lk rs pt ot cl od le ri T t _ h1 (fun d => by have := ho d; omega) hnt) (cwV 1 hG (gd_V k_1515 k_1517 k_78 k_116 k_1518) rfl rfl rfl (by decide +kernel) ⟨Nat.le_of_ble_eq_true rfl, Nat.le_of_ble_eq_true rfl⟩) (tw_V (q0 := 0) hP hD hK hE hst hS rfl rfl [0, 4, 1, 2] rfl (by decide)) rfl rfl hl.1 rfl (lv_room (Nat.le_of_ble_eq_true rfl)) d_MO_without_13 ⟨Nat.le_of_ble_eq_true rfl, Nat.le_of_ble_eq_true rfl⟩) hP hD hS hA [0, 4, 1, 2] [3, 5, 6, 7] rfl rfl (by decide) (by decide) (fun v u H locs hok hP hD hS => ?_) (fun x C u H locs hbad hxx hP hD hS => ?_)
    · skip
      obtain ⟨od_3, rfl⟩ : ∃ z, z = u := ⟨_, rfl⟩
      obtain ⟨r_4, rfl, hp_5⟩ := hok
      have hres_6 : ((r_4 = nI (tsz T) ∧ tsz T ≤ 2000 ∧ ∃ S, BI le ri od_3 S T (tsz T) (tsz T))) := hp_5
      obtain ⟨rfl, hszT, S, hBI⟩ := hres_6
      have hP : va_P D classes [((f 5), .inl (cI, 2000, .inl fr)), ((f 7), .inl (cZ, 2000, .inl ha)), ((f 8), .inl (cL, 2000, .inr (.inl be))), ((f 30), .inl (cZ, 2000, .inl gon)), (h0, .inr (8, mS f tn rm ln lx at_ bd fs dp on os bn df th tp mo_ ev ss so lk rs pt ot cl)), ((f 6), .inl (cI, 2000, .inl od_3)), ((f 3), .inl (cL, 2000, .inr (.inl le))), ((f 4), .inl (cL, 2000, .inr (.inl ri)))] H := hP
      have hD : va_D A [((f 5), .inl (cI, 2000, .inl fr)), ((f 7), .inl (cZ, 2000, .inl ha)), ((f 8), .inl (cL, 2000, .inr (.inl be))), ((f 30), .inl (cZ, 2000, .inl gon)), (h0, .inr (8, mS f tn rm ln lx at_ bd fs dp on os bn df th tp mo_ ev ss so lk rs pt ot cl)), ((f 6), .inl (cI, 2000, .inl od_3)), ((f 3), .inl (cL, 2000, .inr (.inl le))), ((f 4), .inl (cL, 2000, .inr (.inl ri)))] := hD
      refine W.eq (g2 := F0 m 16 ls [.int (nI (tsz T))]) rfl ?_
      refine lv_istore (lv' := [(5, .int (nI (tsz T))), (0, .ref h0), (1, .long t), (3, .long x)]) hx hb d_MO_without_16 hl (Nat.le_of_ble_eq_true rfl) rfl (fun ls hl => ?_)
      have hoT : ∀ d, toc T d ≤ 1 := fun d => by have := ho d; omega
      have hsz : tsz T ≤ 2000 := rep_sz h1 hoT
      have loop_8 : ∀ (k_7 : Nat) (k : Nat) (ha1 : Nat → Int32) (H : Heap) (locs : List Loc) (ls : Array Slot), k < k_7 → (k ≤ tsz T) → (HI ha1 S x k (tsz T)) → (bln ha1) → lv_has ls 12 [(0, .ref h0), (1, .long t), (3, .long x), (5, .int (nI (tsz T))), (6, .int (nI k - 1))] → va_P D classes [((f 5), .inl (cI, 2000, .inl fr)), ((f 7), .inl (cZ, 2000, .inl ha1)), ((f 8), .inl (cL, 2000, .inr (.inl be))), ((f 30), .inl (cZ, 2000, .inl gon)), (h0, .inr (8, mS f tn rm ln lx at_ bd fs dp on os bn df th tp mo_ ev ss so lk rs pt ot cl)), ((f 6), .inl (cI, 2000, .inl od_3)), ((f 3), .inl (cL, 2000, .inr (.inl le))), ((f 4), .inl (cL, 2000, .inr (.inl ri)))] H → va_D A [((f 5), .inl (cI, 2000, .inl fr)), ((f 7), .inl (cZ, 2000, .inl ha1)), ((f 8), .inl (cL, 2000, .inr (.inl be))), ((f 30), .inl (cZ, 2000, .inl gon)), (h0, .inr (8, mS f tn rm ln lx at_ bd fs dp on os bn df th tp mo_ ev ss so lk rs pt ot cl)), ((f 6), .inl (cI, 2000, .inl od_3)), ((f 3), .inl (cL, 2000, .inr (.inl le))), ((f 4), .inl (cL, 2000, .inr (.inl ri)))] → va_S A s.heap H locs → W p l e (headSpec (wz y_MO_without b_MO_without 12 (some .long)) ({ frames := 4, cells := 0, slots := 0, locals := 101 })).room s m ([.ref h0, .long t, .long x] : List Value).toArray below meth c H locs 0 0 (em_MQ below D (tys4 cI cL cZ cC) A (fun (u : Int32 × Nat × (Nat → Int64) × (Nat → Int64) × (Nat → Int32) × (Nat → Int32) × (Nat → Int32) × (Nat → Int64) × (Nat → Int32)) => [(h0, .inr (8, mS f tn rm ln lx at_ u.1 u.2.1 dp on os bn df th tp mo_ ev ss so lk rs pt ot cl)), ((f 3), .inl (cL, 2000, .inr (.inl u.2.2.1))), ((f 4), .inl (cL, 2000, .inr (.inl u.2.2.2.1))), ((f 5), .inl (cI, 2000, .inl u.2.2.2.2.1)), ((f 6), .inl (cI, 2000, .inl u.2.2.2.2.2.1)), ((f 7), .inl (cZ, 2000, .inl u.2.2.2.2.2.2.1)), ((f 8), .inl (cL, 2000, .inr (.inl u.2.2.2.2.2.2.2.1))), ((f 30), .inl (cZ, 2000, .inl u.2.2.2.2.2.2.2.2))]) (fun v (u : Int32 × Nat × (Nat → Int64) × (Nat → Int64) × (Nat → Int32) × (Nat → Int32) × (Nat → Int32) × (Nat → Int64) × (Nat → Int32)) => ∃ r : Int64, v = some (.long r) ∧ ((rng 2000 u.2.2.2.2.1) ∧ (bln u.2.2.2.2.2.2.1) ∧ (bln u.2.2.2.2.2.2.2.2) ∧ (u.1 = 0 → bd = 0) ∧ (bdo u.1) ∧ (∀ d, u.2.2.2.2.2.2.2.2 d = 0) ∧ ((u.1 = 0 → ∃ T' : Tr, rep u.2.2.1 u.2.2.2.1 r T' ∧ okT Pk T' ∧ (∀ d, fo u.2.2.2.2.1 u.2.1 d + (toc T') d ≤ fo fr fs d + toc T d) ∧ (∀ d, fo fr fs d + toc T d = 0 → u.2.2.1 d = le d ∧ u.2.2.2.1 d = ri d))))) (fun C (u : Int32 × Nat × (Nat → Int64) × (Nat → Int64) × (Nat → Int32) × (Nat → Int32) × (Nat → Int32) × (Nat → Int64) × (Nat → Int32)) => False) s 0 0) (F0 m 24 ls []) := by
        intro k_7
        induction k_7 with
        | zero => intro k ha1 H locs ls hm; exact absurd hm (Nat.not_lt_zero _)
        | succ k_7 ih_9 =>
          intro k ha1 H locs ls hm hk hH hha1 hl hP hD hS
          refine lv_iload hx hb d_MO_without_24 (lv_at hl 4 rfl) ?_
          refine lv_if_lt (tgt := 92) hx hb d_MO_without_26 (by decide) (fun hb_10 => ?_) (fun hb_10 => ?_)
          · skip
            obtain rfl : k = 0 := dn_lt (by omega) hb_10
            refine lv_aload_n hx hb d_MO_without_92 rfl (lv_at hl 0 rfl) ?_
            refine lv_lload_n hx hb d_MO_without_93 rfl (lv_at hl 1 rfl) ?_
            refine lv_lload_n hx hb d_MO_without_94 rfl (lv_at hl 2 rfl) ?_
            refine em_call (wr := [((f 5), .inl (cI, 2000, .inl fr)), ((f 8), .inl (cL, 2000, .inr (.inl be))), ((f 30), .inl (cZ, 2000, .inl gon)), ((f 6), .inl (cI, 2000, .inl od_3)), ((f 3), .inl (cL, 2000, .inr (.inl le))), ((f 4), .inl (cL, 2000, .inr (.inl ri)))]) (em_runV (As := [.long t, .long x]) (rest := []) ⟨hx, hb, hml, hown, hG⟩ (mo_having l D cI cL cZ cC f h0 tn rm ln lx at_ bd fs dp on os bn df th tp mo_ ev ss so lk rs pt ot cl ha1 t x _ hha1 (rep_w h1) hnt) (cwV 2 hG (gd_V k_1525 k_1527 k_79 k_116 k_1528) rfl rfl rfl (by decide +kernel) ⟨Nat.le_of_ble_eq_true rfl, Nat.le_of_ble_eq_true rfl⟩) (tw_V (q0 := 4) hP hD hK hE hst hS rfl rfl [4, 1] rfl (by decide)) rfl rfl hl.1 rfl (lv_room (Nat.le_of_ble_eq_true rfl)) d_MO_without_95 ⟨Nat.le_of_ble_eq_true rfl, Nat.le_of_ble_eq_true rfl⟩) hP hD hS hA [4, 1] [0, 2, 3, 5, 6, 7] rfl rfl (by decide) (by decide) (fun v u H locs hok hP hD hS => ?_) (fun x C u H locs hbad hxx hP hD hS => ?_)
            · skip
              obtain ⟨r_11, rfl, hp_12⟩ := hok
              have hres_13 : (((r_11 = 1 ∧ hvT ha1 x t) ∨ (r_11 = 0 ∧ hvF ha1 x t))) := hp_12
              have hP : va_P D classes [((f 5), .inl (cI, 2000, .inl fr)), ((f 8), .inl (cL, 2000, .inr (.inl be))), ((f 30), .inl (cZ, 2000, .inl gon)), ((f 6), .inl (cI, 2000, .inl od_3)), ((f 3), .inl (cL, 2000, .inr (.inl le))), ((f 4), .inl (cL, 2000, .inr (.inl ri))), (h0, .inr (8, mS f tn rm ln lx at_ bd fs dp on os bn df th tp mo_ ev ss so lk rs pt ot cl)), ((f 7), .inl (cZ, 2000, .inl ha1))] H := hP
              have hD : va_D A [((f 5), .inl (cI, 2000, .inl fr)), ((f 8), .inl (cL, 2000, .inr (.inl be))), ((f 30), .inl (cZ, 2000, .inl gon)), ((f 6), .inl (cI, 2000, .inl od_3)), ((f 3), .inl (cL, 2000, .inr (.inl le))), ((f 4), .inl (cL, 2000, .inr (.inl ri))), (h0, .inr (8, mS f tn rm ln lx at_ bd fs dp on os bn df th tp mo_ ev ss so lk rs pt ot cl)), ((f 7), .inl (cZ, 2000, .inl ha1))] := hD
              rcases hres_13 with ⟨rfl, hy_14⟩ | ⟨rfl, hy_14⟩
              · skip
                have hcT : cont x T := (hv_kid hxn h1 hH (q := 0) (fun p => ⟨Nat.le_refl _, by have := sz_isn T; omega, hBI.1 p⟩)).1 hy_14
                have hk3 : wkind t = 3 := by rcases hy_14 with q | q; exact absurd q hq_2; exact q.1
                obtain ⟨ct, tta, ttb, eT, ect, hct, -, -⟩ := rep_cell h1 hk3
                have hiT : isn T = 1 := isn_1 h1 hk3
                refine W.eq (g2 := F0 m 98 ls [.int 1]) rfl ?_
                refine lv_if_ne (tgt := 115) hx hb d_MO_without_98 (by decide) (fun hbr => ?_) (fun hbr => absurd hbr (by decide))
                have loop_16 : ∀ (k_15 : Nat) (k2 : Nat) (bd2 : Int32) (fs2 : Nat) (le2 : Nat → Int64) (ri2 : Nat → Int64) (fr2 : Nat → Int32) (be2 : Nat → Int64) (gon2 : Nat → Int32) (H : Heap) (locs : List Loc) (ls : Array Slot), k2 < k_15 → (k2 ≤ tsz T) → (bd2 = 0 → bd = 0) → (bdo bd2) → (∃ Wt, WI le ri fr fs od_3 S T x Pk (tsz T) le2 ri2 be2 gon2 fr2 fs2 Wt k2) → (rng 2000 fr2) → (bln gon2) → lv_has ls 12 [(0, .ref h0), (1, .long t), (3, .long x), (5, .int (nI (tsz T))), (6, .int (nI k2 - 1))] → va_P D classes [((f 5), .inl (cI, 2000, .inl fr2)), ((f 8), .inl (cL, 2000, .inr (.inl be2))), ((f 30), .inl (cZ, 2000, .inl gon2)), ((f 6), .inl (cI, 2000, .inl od_3)), ((f 3), .inl (cL, 2000, .inr (.inl le2))), ((f 4), .inl (cL, 2000, .inr (.inl ri2))), (h0, .inr (8, mS f tn rm ln lx at_ bd2 fs2 dp on os bn df th tp mo_ ev ss so lk rs pt ot cl)), ((f 7), .inl (cZ, 2000, .inl ha1))] H → va_D A [((f 5), .inl (cI, 2000, .inl fr2)), ((f 8), .inl (cL, 2000, .inr (.inl be2))), ((f 30), .inl (cZ, 2000, .inl gon2)), ((f 6), .inl (cI, 2000, .inl od_3)), ((f 3), .inl (cL, 2000, .inr (.inl le2))), ((f 4), .inl (cL, 2000, .inr (.inl ri2))), (h0, .inr (8, mS f tn rm ln lx at_ bd2 fs2 dp on os bn df th tp mo_ ev ss so lk rs pt ot cl)), ((f 7), .inl (cZ, 2000, .inl ha1))] → va_S A s.heap H locs → W p l e (headSpec (wz y_MO_without b_MO_without 12 (some .long)) ({ frames := 4, cells := 0, slots := 0, locals := 101 })).room s m ([.ref h0, .long t, .long x] : List Value).toArray below meth c H locs 0 0 (em_MQ below D (tys4 cI cL cZ cC) A (fun (u : Int32 × Nat × (Nat → Int64) × (Nat → Int64) × (Nat → Int32) × (Nat → Int32) × (Nat → Int32) × (Nat → Int64) × (Nat → Int32)) => [(h0, .inr (8, mS f tn rm ln lx at_ u.1 u.2.1 dp on os bn df th tp mo_ ev ss so lk rs pt ot cl)), ((f 3), .inl (cL, 2000, .inr (.inl u.2.2.1))), ((f 4), .inl (cL, 2000, .inr (.inl u.2.2.2.1))), ((f 5), .inl (cI, 2000, .inl u.2.2.2.2.1)), ((f 6), .inl (cI, 2000, .inl u.2.2.2.2.2.1)), ((f 7), .inl (cZ, 2000, .inl u.2.2.2.2.2.2.1)), ((f 8), .inl (cL, 2000, .inr (.inl u.2.2.2.2.2.2.2.1))), ((f 30), .inl (cZ, 2000, .inl u.2.2.2.2.2.2.2.2))]) (fun v (u : Int32 × Nat × (Nat → Int64) × (Nat → Int64) × (Nat → Int32) × (Nat → Int32) × (Nat → Int32) × (Nat → Int64) × (Nat → Int32)) => ∃ r : Int64, v = some (.long r) ∧ ((rng 2000 u.2.2.2.2.1) ∧ (bln u.2.2.2.2.2.2.1) ∧ (bln u.2.2.2.2.2.2.2.2) ∧ (u.1 = 0 → bd = 0) ∧ (bdo u.1) ∧ (∀ d, u.2.2.2.2.2.2.2.2 d = 0) ∧ ((u.1 = 0 → ∃ T' : Tr, rep u.2.2.1 u.2.2.2.1 r T' ∧ okT Pk T' ∧ (∀ d, fo u.2.2.2.2.1 u.2.1 d + (toc T') d ≤ fo fr fs d + toc T d) ∧ (∀ d, fo fr fs d + toc T d = 0 → u.2.2.1 d = le d ∧ u.2.2.2.1 d = ri d))))) (fun C (u : Int32 × Nat × (Nat → Int64) × (Nat → Int64) × (Nat → Int32) × (Nat → Int32) × (Nat → Int32) × (Nat → Int64) × (Nat → Int32)) => False) s 0 0) (F0 m 121 ls []) := by
                  intro k_15
                  induction k_15 with
                  | zero => intro k2 bd2 fs2 le2 ri2 fr2 be2 gon2 H locs ls hm; exact absurd hm (Nat.not_lt_zero _)
                  | succ k_15 ih_17 =>
                    intro k2 bd2 fs2 le2 ri2 fr2 be2 gon2 H locs ls hm hk2 hbz2 hbo2 hW hfr2 hgon2 hl hP hD hS
                    obtain ⟨Wt, hW⟩ := hW
                    have loop_19 : ∀ (k_18 : Nat) (i3 : Nat) (fs3 : Nat) (fr3 : Nat → Int32) (gon3 : Nat → Int32) (H : Heap) (locs : List Loc) (ls : Array Slot), tsz T - i3 < k_18 → (i3 ≤ tsz T) → (∃ X : Tr, (bd2 = 0 → rep le2 ri2 (be2 ct) X ∧ okT Pk X) ∧ ∀ d, fo fr3 fs3 d + gn gon3 d + (toc X) d ≤ fo fr fs d + (toc T) d) → (∀ d, gon3 d = 0 ∨ ∃ i, i3 ≤ i ∧ i < tsz T ∧ (od_3 i).toNatClampNeg = d) → (rng 2000 fr3) → (bln gon3) → lv_has ls 12 [(0, .ref h0), (5, .int (nI (tsz T))), (6, .long (be2 ct)), (8, .int (nI i3))] → va_P D classes [((f 5), .inl (cI, 2000, .inl fr3)), ((f 8), .inl (cL, 2000, .inr (.inl be2))), ((f 30), .inl (cZ, 2000, .inl gon3)), ((f 6), .inl (cI, 2000, .inl od_3)), ((f 3), .inl (cL, 2000, .inr (.inl le2))), ((f 4), .inl (cL, 2000, .inr (.inl ri2))), (h0, .inr (8, mS f tn rm ln lx at_ bd2 fs3 dp on os bn df th tp mo_ ev ss so lk rs pt ot cl)), ((f 7), .inl (cZ, 2000, .inl ha1))] H → va_D A [((f 5), .inl (cI, 2000, .inl fr3)), ((f 8), .inl (cL, 2000, .inr (.inl be2))), ((f 30), .inl (cZ, 2000, .inl gon3)), ((f 6), .inl (cI, 2000, .inl od_3)), ((f 3), .inl (cL, 2000, .inr (.inl le2))), ((f 4), .inl (cL, 2000, .inr (.inl ri2))), (h0, .inr (8, mS f tn rm ln lx at_ bd2 fs3 dp on os bn df th tp mo_ ev ss so lk rs pt ot cl)), ((f 7), .inl (cZ, 2000, .inl ha1))] → va_S A s.heap H locs → W p l e (headSpec (wz y_MO_without b_MO_without 12 (some .long)) ({ frames := 4, cells := 0, slots := 0, locals := 101 })).room s m ([.ref h0, .long t, .long x] : List Value).toArray below meth c H locs 0 0 (em_MQ below D (tys4 cI cL cZ cC) A (fun (u : Int32 × Nat × (Nat → Int64) × (Nat → Int64) × (Nat → Int32) × (Nat → Int32) × (Nat → Int32) × (Nat → Int64) × (Nat → Int32)) => [(h0, .inr (8, mS f tn rm ln lx at_ u.1 u.2.1 dp on os bn df th tp mo_ ev ss so lk rs pt ot cl)), ((f 3), .inl (cL, 2000, .inr (.inl u.2.2.1))), ((f 4), .inl (cL, 2000, .inr (.inl u.2.2.2.1))), ((f 5), .inl (cI, 2000, .inl u.2.2.2.2.1)), ((f 6), .inl (cI, 2000, .inl u.2.2.2.2.2.1)), ((f 7), .inl (cZ, 2000, .inl u.2.2.2.2.2.2.1)), ((f 8), .inl (cL, 2000, .inr (.inl u.2.2.2.2.2.2.2.1))), ((f 30), .inl (cZ, 2000, .inl u.2.2.2.2.2.2.2.2))]) (fun v (u : Int32 × Nat × (Nat → Int64) × (Nat → Int64) × (Nat → Int32) × (Nat → Int32) × (Nat → Int32) × (Nat → Int64) × (Nat → Int32)) => ∃ r : Int64, v = some (.long r) ∧ ((rng 2000 u.2.2.2.2.1) ∧ (bln u.2.2.2.2.2.2.1) ∧ (bln u.2.2.2.2.2.2.2.2) ∧ (u.1 = 0 → bd = 0) ∧ (bdo u.1) ∧ (∀ d, u.2.2.2.2.2.2.2.2 d = 0) ∧ ((u.1 = 0 → ∃ T' : Tr, rep u.2.2.1 u.2.2.2.1 r T' ∧ okT Pk T' ∧ (∀ d, fo u.2.2.2.2.1 u.2.1 d + (toc T') d ≤ fo fr fs d + toc T d) ∧ (∀ d, fo fr fs d + toc T d = 0 → u.2.2.1 d = le d ∧ u.2.2.2.1 d = ri d))))) (fun C (u : Int32 × Nat × (Nat → Int64) × (Nat → Int64) × (Nat → Int32) × (Nat → Int32) × (Nat → Int32) × (Nat → Int64) × (Nat → Int32)) => False) s 0 0) (F0 m 223 ls []) := by
                      intro k_18
                      induction k_18 with
                      | zero => intro i3 fs3 fr3 gon3 H locs ls hm; exact absurd hm (Nat.not_lt_zero _)
                      | succ k_18 ih_20 =>
                        intro i3 fs3 fr3 gon3 H locs ls hm hi3 hX hG3 hfr3 hgon3 hl hP hD hS
                        obtain ⟨X, hX1, hX2⟩ := hX
                        refine lv_iload hx hb d_MO_without_223 (lv_at hl 3 rfl) ?_
                        refine lv_iload hx hb d_MO_without_225 (lv_at hl 1 rfl) ?_
                        refine lv_icmp_ge (tgt := 279) hx hb d_MO_without_227 (by decide) (fun hb_21 => ?_) (fun hb_21 => ?_)
                        · skip
                          have hn_22 : (tsz T) ≤ i3 := (nI_leI (a := tsz T) (b := i3) (by omega) (by omega)).mp hb_21
                          have hg0 : ∀ d, gon3 d = 0 := fun d => (hG3 d).elim id (fun ⟨i, q1, q2, _⟩ => absurd q2 (by omega))
                          have hgn := gn_0 hg0
                          refine lv_aload_n hx hb d_MO_without_279 rfl (lv_at hl 0 rfl) ?_
                          refine lv_lload hx hb d_MO_without_280 (lv_at hl 2 rfl) ?_
                          refine em_call (wr := [((f 5), .inl (cI, 2000, .inl fr3)), ((f 8), .inl (cL, 2000, .inr (.inl be2))), ((f 30), .inl (cZ, 2000, .inl gon3)), ((f 7), .inl (cZ, 2000, .inl ha1))]) (em_runV (As := [.long (be2 ct)]) (rest := []) ⟨hx, hb, hml, hown, hG⟩ (mo_within400 l D cI cL cZ cC f h0 tn rm ln lx at_ bd2 fs3 dp on os bn df th tp mo_ ev ss so lk rs pt ot cl od_3 le2 ri2 X (be2 ct) _ (fun q => (hX1 q).1) (by intro d; have a0 := ho d; have a1 := hX2 d; have a2 := hgn d; omega) (by first | assumption | omega | exact Or.inl rfl) hnt) (cwV 1 hG (gd_V k_1529 k_1531 k_80 k_116 k_1532) rfl rfl rfl (by decide +kernel) ⟨Nat.le_of_ble_eq_true rfl, Nat.le_of_ble_eq_true rfl⟩) (tw_V (q0 := 6) hP hD hK hE hst hS rfl rfl [6, 3, 4, 5] rfl (by decide)) rfl rfl hl.1 rfl (lv_room (Nat.le_of_ble_eq_true rfl)) d_MO_without_282 ⟨Nat.le_of_ble_eq_true rfl, Nat.le_of_ble_eq_true rfl⟩) hP hD hS hA [6, 3, 4, 5] [0, 1, 2, 7] rfl rfl (by decide) (by decide) (fun v u H locs hok hP hD hS => ?_) (fun x C u H locs hbad hxx hP hD hS => ?_)
                          · skip
                            obtain ⟨bd_23, od_24⟩ := u
                            obtain ⟨r_25, rfl, hp_26⟩ := hok
                            obtain ⟨hbz_27, hbo_28, hres_29⟩ : (bd_23 = 0 → bd2 = 0) ∧ (bdo bd_23) ∧ ((be2 ct) = r_25) := hp_26
                            subst hres_29
                            have hP : va_P D classes [((f 5), .inl (cI, 2000, .inl fr3)), ((f 8), .inl (cL, 2000, .inr (.inl be2))), ((f 30), .inl (cZ, 2000, .inl gon3)), ((f 7), .inl (cZ, 2000, .inl ha1)), (h0, .inr (8, mS f tn rm ln lx at_ bd_23 fs3 dp on os bn df th tp mo_ ev ss so lk rs pt ot cl)), ((f 6), .inl (cI, 2000, .inl od_24)), ((f 3), .inl (cL, 2000, .inr (.inl le2))), ((f 4), .inl (cL, 2000, .inr (.inl ri2)))] H := hP
                            have hD : va_D A [((f 5), .inl (cI, 2000, .inl fr3)), ((f 8), .inl (cL, 2000, .inr (.inl be2))), ((f 30), .inl (cZ, 2000, .inl gon3)), ((f 7), .inl (cZ, 2000, .inl ha1)), (h0, .inr (8, mS f tn rm ln lx at_ bd_23 fs3 dp on os bn df th tp mo_ ev ss so lk rs pt ot cl)), ((f 6), .inl (cI, 2000, .inl od_24)), ((f 3), .inl (cL, 2000, .inr (.inl le2))), ((f 4), .inl (cL, 2000, .inr (.inl ri2)))] := hD
                            refine W.eq (g2 := F0 m 285 ls [.long (be2 ct)]) rfl ?_
                            exact em_lret hx hb hr hlocks hP hD hK hS (bd_23, fs3, le2, ri2, fr3, od_24, ha1, be2, gon3) [4, 6, 7, 0, 5, 3, 1, 2] (by decide) rfl ⟨_, rfl, ⟨hfr3, hha1, hgon3, (show bd_23 = 0 → bd = 0 from (by first | exact id | exact (fun q => absurd q (by assumption)) | exact (fun q => hbz2 (hbz_27 q)))), (show bdo bd_23 from (by first | assumption | omega | exact Or.inl rfl)), (show ∀ d, gon3 d = 0 from hg0), (show (bd_23 = 0 → ∃ T' : Tr, rep le2 ri2 (be2 ct : Int64) T' ∧ okT Pk T' ∧ (∀ d, fo fr3 fs3 d + (toc T') d ≤ fo fr fs d + toc T d) ∧ (∀ d, fo fr fs d + toc T d = 0 → le2 d = le d ∧ ri2 d = ri d)) from (fun q => ⟨X, (hX1 (hbz_27 q)).1, (hX1 (hbz_27 q)).2, (by intro d; have a0 := ho d; have a1 := hX2 d; have a2 := hgn d; omega), hW.2.2.2.1⟩))⟩⟩ d_MO_without_285
                          · skip
                            exact hbad.elim
                        · skip
                          have hn_30 : ¬ (tsz T) ≤ i3 := fun h => hb_21 ((nI_leI (a := tsz T) (b := i3) (by omega) (by omega)).mpr h)
                          obtain ⟨cc, ta, tb, eS⟩ := hBI.at (k := i3) (by omega)
                          obtain ⟨eod, hcc, hra, hrb, hq5, hq6, hq7, hq8, hq9⟩ := hBI.kid (k := i3) (by omega) eS
                          refine lv_aload_n hx hb d_MO_without_230 rfl (lv_at hl 0 rfl) ?_
                          refine va_get (D := D) (ci := 8) (v := .ref (f 30)) (C := rn_MO) (T := fl_MO) (N := 55) hx hb hG in_MO hown hK hP 6 rfl rfl 52 (by decide) (hG _ k_1243) (fun _ h9 => h9) rfl d_MO_without_231 ?_
                          refine lv_aload_n hx hb d_MO_without_234 rfl (lv_at hl 0 rfl) ?_
                          refine va_get (D := D) (ci := 8) (v := .ref (f 6)) (C := rn_MO) (T := fl_MO) (N := 55) hx hb hG in_MO hown hK hP 6 rfl rfl 13 (by decide) (hG _ k_1204) (fun _ h9 => h9) rfl d_MO_without_235 ?_
                          refine lv_iload hx hb d_MO_without_238 (lv_at hl 3 rfl) ?_
                          refine va_iald hx hb hK hP 3 0 rfl rfl (vp_in_nI (n := i3) (N := 2000) (by omega) (by omega)) d_MO_without_240 ?_
                          refine W.eq (g2 := F0 m 241 ls [.int (nI cc), .ref (f 30)]) (by rw [nI_clamp (n := i3) (by omega)]; rw [eod]) ?_
                          refine va_zald hx hb hK hP 2 2 rfl rfl (vp_in_nI (n := cc) (N := 2000) (by omega) (by omega)) d_MO_without_241 ?_
                          refine W.eq (g2 := F0 m 242 ls [.int (gon3 cc)]) (by rw [nI_clamp (n := cc) (by omega)]) ?_
                          refine lv_if_eq (tgt := 273) hx hb d_MO_without_242 (by decide) (fun hb_31 => ?_) (fun hb_31 => ?_)
                          · skip
                            refine lv_iinc (k := 3) (v := nI (i3 + 1)) (lv' := [(8, .int (nI (i3 + 1))), (0, .ref h0), (5, .int (nI (tsz T))), (6, .long (be2 ct))]) hx hb d_MO_without_273 hl rfl (lw_inc i3 1) (Nat.le_of_ble_eq_true rfl) rfl (fun ls hl => ?_)
                            refine lv_goto (tgt := 223) hx hb d_MO_without_276 (by decide) ?_
                            have hl := lv_sub (l' := [(0, .ref h0), (5, .int (nI (tsz T))), (6, .long (be2 ct)), (8, .int (nI (i3 + 1)))]) hl [1, 2, 3, 0] rfl
                            exact ih_20 (i3 + 1) fs3 fr3 gon3 _ _ _ (by omega) (by omega) ⟨X, hX1, hX2⟩ (gon_next hG3 eod hcc hb_31) hfr3 hgon3 hl hP hD hS
                          · skip
                            have hig := i1_gn hb_31
                            refine lv_aload_n hx hb d_MO_without_245 rfl (lv_at hl 0 rfl) ?_
                            refine va_get (D := D) (ci := 8) (v := .ref (f 30)) (C := rn_MO) (T := fl_MO) (N := 55) hx hb hG in_MO hown hK hP 6 rfl rfl 52 (by decide) (hG _ k_1243) (fun _ h9 => h9) rfl d_MO_without_246 ?_
                            refine lv_aload_n hx hb d_MO_without_249 rfl (lv_at hl 0 rfl) ?_
                            refine va_get (D := D) (ci := 8) (v := .ref (f 6)) (C := rn_MO) (T := fl_MO) (N := 55) hx hb hG in_MO hown hK hP 6 rfl rfl 13 (by decide) (hG _ k_1204) (fun _ h9 => h9) rfl d_MO_without_250 ?_
                            refine lv_iload hx hb d_MO_without_253 (lv_at hl 3 rfl) ?_
                            refine va_iald hx hb hK hP 3 0 rfl rfl (vp_in_nI (n := i3) (N := 2000) (by omega) (by omega)) d_MO_without_255 ?_
                            refine W.eq (g2 := F0 m 256 ls [.int (nI cc), .ref (f 30)]) (by rw [nI_clamp (n := i3) (by omega)]; rw [eod]) ?_
                            refine lv_iconst (v := 0) hx hb d_MO_without_256 (by decide) ?_
                            refine va_zast hx hb hK hP hD hS 2 2 rfl rfl (vp_in_nI (n := cc) (N := 2000) (by omega) (by omega)) d_MO_without_257 (fun H locs hP hD hS => ?_)
                            have hP : va_P D classes [((f 5), .inl (cI, 2000, .inl fr3)), ((f 8), .inl (cL, 2000, .inr (.inl be2))), ((f 30), .inl (cZ, 2000, .inl (upd gon3 (nI cc).toNatClampNeg (vp_nar .boolean 0)))), ((f 6), .inl (cI, 2000, .inl od_3)), ((f 3), .inl (cL, 2000, .inr (.inl le2))), ((f 4), .inl (cL, 2000, .inr (.inl ri2))), (h0, .inr (8, mS f tn rm ln lx at_ bd2 fs3 dp on os bn df th tp mo_ ev ss so lk rs pt ot cl)), ((f 7), .inl (cZ, 2000, .inl ha1))] H := hP
                            have hD : va_D A [((f 5), .inl (cI, 2000, .inl fr3)), ((f 8), .inl (cL, 2000, .inr (.inl be2))), ((f 30), .inl (cZ, 2000, .inl (upd gon3 (nI cc).toNatClampNeg (vp_nar .boolean 0)))), ((f 6), .inl (cI, 2000, .inl od_3)), ((f 3), .inl (cL, 2000, .inr (.inl le2))), ((f 4), .inl (cL, 2000, .inr (.inl ri2))), (h0, .inr (8, mS f tn rm ln lx at_ bd2 fs3 dp on os bn df th tp mo_ ev ss so lk rs pt ot cl)), ((f 7), .inl (cZ, 2000, .inl ha1))] := hD
                            obtain ⟨g_32, eg_32⟩ : ∃ z, z = upd gon3 cc 0 := ⟨_, rfl⟩
                            rw [nI_clamp (n := cc) (by omega), nar_b (Or.inl rfl), ← eg_32] at hP hD
                            have hg_32 : bln g_32 := by rw [eg_32]; exact bln_ub hgon3 (Or.inl rfl)
                            refine lv_aload_n hx hb d_MO_without_258 rfl (lv_at hl 0 rfl) ?_
                            refine lv_iconst (v := 3) hx hb d_MO_without_259 (by decide) ?_
                            refine lv_aload_n hx hb d_MO_without_260 rfl (lv_at hl 0 rfl) ?_
                            refine va_get (D := D) (ci := 8) (v := .ref (f 6)) (C := rn_MO) (T := fl_MO) (N := 55) hx hb hG in_MO hown hK hP 6 rfl rfl 13 (by decide) (hG _ k_1204) (fun _ h9 => h9) rfl d_MO_without_261 ?_
                            refine lv_iload hx hb d_MO_without_264 (lv_at hl 3 rfl) ?_
                            refine va_iald hx hb hK hP 3 0 rfl rfl (vp_in_nI (n := i3) (N := 2000) (by omega) (by omega)) d_MO_without_266 ?_
                            refine W.eq (g2 := F0 m 267 ls [.int (nI cc), .int 3, .ref h0]) (by rw [nI_clamp (n := i3) (by omega)]; rw [eod]) ?_
                            refine W.callRL (W.runS (As := [.int 3, .int (nI cc)]) (rest := [.ref h0]) ⟨hx, hb, hml, hown, hG⟩ (mo_term l D cI cL cZ cC 3 (nI cc) ) (cwS 2 hG (gd_S k_1445 k_1446 k_116 k_1447) rfl rfl rfl (by decide +kernel) ⟨Nat.le_of_ble_eq_true rfl, Nat.le_of_ble_eq_true rfl⟩) (wq_S hP hK [] rfl) rfl rfl hl.1 rfl (lv_room (Nat.le_of_ble_eq_true rfl)) d_MO_without_267 ⟨Nat.le_of_ble_eq_true rfl, Nat.le_of_ble_eq_true rfl⟩) ?_
                            refine W.eq (g2 := F0 m 270 ls [.long (wof 3 (nI cc)), .ref h0]) rfl ?_
                            have hgd : ∀ d, gn g_32 d + i1 d cc = gn gon3 d := fun d => by rw [eg_32]; exact gn_dn hb_31 d
                            refine em_call (wr := [((f 8), .inl (cL, 2000, .inr (.inl be2))), ((f 30), .inl (cZ, 2000, .inl g_32)), ((f 6), .inl (cI, 2000, .inl od_3)), ((f 3), .inl (cL, 2000, .inr (.inl le2))), ((f 4), .inl (cL, 2000, .inr (.inl ri2))), ((f 7), .inl (cZ, 2000, .inl ha1))]) (em_runV (As := [.long (wof 3 (nI cc))]) (rest := []) ⟨hx, hb, hml, hown, hG⟩ (mo_release l D cI cL cZ cC f h0 tn rm ln lx at_ bd2 fs3 dp on os bn df th tp mo_ ev ss so lk rs pt ot cl fr3 cc (wof 3 (nI cc)) _ hfr3 (wnum_of _ _) hcc (by intro d; have a0 := ho d; have a1 := hX2 d; have a2 := hig d; have a3 := hgd d; omega) hnt) (cwV 1 hG (gd_V k_1545 k_1547 k_84 k_116 k_1548) rfl rfl rfl (by decide +kernel) ⟨Nat.le_of_ble_eq_true rfl, Nat.le_of_ble_eq_true rfl⟩) (tw_V (q0 := 6) hP hD hK hE hst hS rfl rfl [6, 0] rfl (by decide)) rfl rfl hl.1 rfl (lv_room (Nat.le_of_ble_eq_true rfl)) d_MO_without_270 ⟨Nat.le_of_ble_eq_true rfl, Nat.le_of_ble_eq_true rfl⟩) hP hD hS hA [6, 0] [1, 2, 3, 4, 5, 7] rfl rfl (by decide) (by decide) (fun v u H locs hok hP hD hS => ?_) (fun x C u H locs hbad hxx hP hD hS => ?_)
                            · skip
                              obtain ⟨fs_33, fr_34⟩ := u
                              obtain ⟨rfl, hp_36⟩ := hok
                              obtain ⟨hfr_37, hfs_38, hF_39⟩ : (rng 2000 fr_34) ∧ (fs_33 = fs3 + 1) ∧ (∀ d, fo fr_34 fs_33 d = fo fr3 fs3 d + i1 d cc) := hp_36
                              have hP : va_P D classes [((f 8), .inl (cL, 2000, .inr (.inl be2))), ((f 30), .inl (cZ, 2000, .inl g_32)), ((f 6), .inl (cI, 2000, .inl od_3)), ((f 3), .inl (cL, 2000, .inr (.inl le2))), ((f 4), .inl (cL, 2000, .inr (.inl ri2))), ((f 7), .inl (cZ, 2000, .inl ha1)), (h0, .inr (8, mS f tn rm ln lx at_ bd2 fs_33 dp on os bn df th tp mo_ ev ss so lk rs pt ot cl)), ((f 5), .inl (cI, 2000, .inl fr_34))] H := hP
                              have hD : va_D A [((f 8), .inl (cL, 2000, .inr (.inl be2))), ((f 30), .inl (cZ, 2000, .inl g_32)), ((f 6), .inl (cI, 2000, .inl od_3)), ((f 3), .inl (cL, 2000, .inr (.inl le2))), ((f 4), .inl (cL, 2000, .inr (.inl ri2))), ((f 7), .inl (cZ, 2000, .inl ha1)), (h0, .inr (8, mS f tn rm ln lx at_ bd2 fs_33 dp on os bn df th tp mo_ ev ss so lk rs pt ot cl)), ((f 5), .inl (cI, 2000, .inl fr_34))] := hD
                              refine W.eq (g2 := F0 m 273 ls []) rfl ?_
                              refine lv_iinc (k := 3) (v := nI (i3 + 1)) (lv' := [(8, .int (nI (i3 + 1))), (0, .ref h0), (5, .int (nI (tsz T))), (6, .long (be2 ct))]) hx hb d_MO_without_273 hl rfl (lw_inc i3 1) (Nat.le_of_ble_eq_true rfl) rfl (fun ls hl => ?_)
                              refine lv_goto (tgt := 223) hx hb d_MO_without_276 (by decide) ?_
                              have hl := lv_sub (l' := [(0, .ref h0), (5, .int (nI (tsz T))), (6, .long (be2 ct)), (8, .int (nI (i3 + 1)))]) hl [1, 2, 3, 0] rfl
                              have hP : va_P D classes [((f 5), .inl (cI, 2000, .inl fr_34)), ((f 8), .inl (cL, 2000, .inr (.inl be2))), ((f 30), .inl (cZ, 2000, .inl g_32)), ((f 6), .inl (cI, 2000, .inl od_3)), ((f 3), .inl (cL, 2000, .inr (.inl le2))), ((f 4), .inl (cL, 2000, .inr (.inl ri2))), (h0, .inr (8, mS f tn rm ln lx at_ bd2 fs_33 dp on os bn df th tp mo_ ev ss so lk rs pt ot cl)), ((f 7), .inl (cZ, 2000, .inl ha1))] _ := hP.sub [7, 0, 1, 2, 3, 4, 6, 5] (wp_fm rfl)
                              have hD : va_D A [((f 5), .inl (cI, 2000, .inl fr_34)), ((f 8), .inl (cL, 2000, .inr (.inl be2))), ((f 30), .inl (cZ, 2000, .inl g_32)), ((f 6), .inl (cI, 2000, .inl od_3)), ((f 3), .inl (cL, 2000, .inr (.inl le2))), ((f 4), .inl (cL, 2000, .inr (.inl ri2))), (h0, .inr (8, mS f tn rm ln lx at_ bd2 fs_33 dp on os bn df th tp mo_ ev ss so lk rs pt ot cl)), ((f 7), .inl (cZ, 2000, .inl ha1))] := hD.sub [7, 0, 1, 2, 3, 4, 6, 5] (by decide) rfl
                              exact ih_20 (i3 + 1) fs_33 fr_34 g_32 _ _ _ (by omega) (by omega) ⟨X, hX1, (by intro d; have a0 := ho d; have a1 := hX2 d; have a2 := hig d; have a3 := hgd d; have a4 := hF_39 d; omega)⟩ (by rw [eg_32]; exact gon_clr hG3 eod hcc) hfr_37 hg_32 hl hP hD hS
                            · skip
                              exact hbad.elim
                    refine lv_iload hx hb d_MO_without_121 (lv_at hl 4 rfl) ?_
                    refine lv_if_lt (tgt := 209) hx hb d_MO_without_123 (by decide) (fun hb_41 => ?_) (fun hb_41 => ?_)
                    · skip
                      obtain rfl : k2 = 0 := dn_lt (by omega) hb_41
                      have hX0 := WI.fin hiT (hBI.1 hiT) hcT eT hW
                      refine lv_aload_n hx hb d_MO_without_209 rfl (lv_at hl 0 rfl) ?_
                      refine va_get (D := D) (ci := 8) (v := .ref (f 8)) (C := rn_MO) (T := fl_MO) (N := 55) hx hb hG in_MO hown hK hP 6 rfl rfl 15 (by decide) (hG _ k_1206) (fun _ h9 => h9) rfl d_MO_without_210 ?_
                      refine lv_lload_n hx hb d_MO_without_213 rfl (lv_at hl 1 rfl) ?_
                      refine W.callR (W.runS (As := [.long t]) (rest := [.ref (f 8)]) ⟨hx, hb, hml, hown, hG⟩ (mo_valueOf l D cI cL cZ cC t ) (cwS 1 hG (gd_S k_1522 k_1523 k_116 k_1524) rfl rfl rfl (by decide +kernel) ⟨Nat.le_of_ble_eq_true rfl, Nat.le_of_ble_eq_true rfl⟩) (wq_S hP hK [] rfl) rfl rfl hl.1 rfl (lv_room (Nat.le_of_ble_eq_true rfl)) d_MO_without_214 ⟨Nat.le_of_ble_eq_true rfl, Nat.le_of_ble_eq_true rfl⟩) ?_
                      refine W.eq (g2 := F0 m 217 ls [.int t.toInt32, .ref (f 8)]) rfl ?_
                      refine W.eq (g2 := F0 m 217 ls [.int (nI ct), .ref (f 8)]) (by rw [ect]) ?_
                      refine va_lald hx hb hK hP 1 1 rfl rfl (vp_in_nI (n := ct) (N := 2000) (by omega) (by omega)) d_MO_without_217 ?_
                      refine W.eq (g2 := F0 m 218 ls [.long (be2 ct)]) (by rw [nI_clamp (n := ct) (by omega)]) ?_
                      refine lv_lstore (lv' := [(6, .long (be2 ct)), (0, .ref h0), (1, .long t), (3, .long x), (5, .int (nI (tsz T)))]) hx hb d_MO_without_218 hl (Nat.le_of_ble_eq_true rfl) rfl (fun ls hl => ?_)
                      refine lv_iconst (v := 0) hx hb d_MO_without_220 (by decide) ?_
                      refine lv_istore (lv' := [(8, .int 0), (6, .long (be2 ct)), (0, .ref h0), (1, .long t), (3, .long x), (5, .int (nI (tsz T)))]) hx hb d_MO_without_221 hl (Nat.le_of_ble_eq_true rfl) rfl (fun ls hl => ?_)
                      have hl := lv_sub (l' := [(0, .ref h0), (5, .int (nI (tsz T))), (6, .long (be2 ct)), (8, .int 0)]) hl [2, 5, 1, 0] rfl
                      exact loop_19 _ 0 fs2 fr2 gon2 _ _ _ (Nat.lt_succ_self _) (by omega) ⟨Wt 0, fun _ => ⟨hX0.1, hX0.2.1⟩, hX0.2.2⟩ (fun d => (hW.2.2.2.2 d).imp id (fun ⟨i, q1, q2⟩ => ⟨i, Nat.zero_le _, q1, q2⟩)) hfr2 hgon2 hl hP hD hS
                    · skip
                      have hk1 : 1 ≤ k2 := dn_ge (by omega) hb_41
                      have hl : lv_has ls 12 [(0, .ref h0), (1, .long t), (3, .long x), (5, .int (nI (tsz T))), (6, .int (nI (k2 - 1)))] := by rw [← dn_eq hk1]; exact hl
                      refine lv_aload_n hx hb d_MO_without_126 rfl (lv_at hl 0 rfl) ?_
                      refine va_get (D := D) (ci := 8) (v := .int bd2) (C := rn_MO) (T := fl_MO) (N := 55) hx hb hG in_MO hown hK hP 6 rfl rfl 6 (by decide) (hG _ k_1197) (fun _ h9 => h9) rfl d_MO_without_127 ?_
                      refine lv_if_ne (tgt := 209) hx hb d_MO_without_130 (by decide) (fun hb_42 => ?_) (fun hb_42 => ?_)
                      · skip
                        refine lv_aload_n hx hb d_MO_without_209 rfl (lv_at hl 0 rfl) ?_
                        refine va_get (D := D) (ci := 8) (v := .ref (f 8)) (C := rn_MO) (T := fl_MO) (N := 55) hx hb hG in_MO hown hK hP 6 rfl rfl 15 (by decide) (hG _ k_1206) (fun _ h9 => h9) rfl d_MO_without_210 ?_
                        refine lv_lload_n hx hb d_MO_without_213 rfl (lv_at hl 1 rfl) ?_
                        refine W.callR (W.runS (As := [.long t]) (rest := [.ref (f 8)]) ⟨hx, hb, hml, hown, hG⟩ (mo_valueOf l D cI cL cZ cC t ) (cwS 1 hG (gd_S k_1522 k_1523 k_116 k_1524) rfl rfl rfl (by decide +kernel) ⟨Nat.le_of_ble_eq_true rfl, Nat.le_of_ble_eq_true rfl⟩) (wq_S hP hK [] rfl) rfl rfl hl.1 rfl (lv_room (Nat.le_of_ble_eq_true rfl)) d_MO_without_214 ⟨Nat.le_of_ble_eq_true rfl, Nat.le_of_ble_eq_true rfl⟩) ?_
                        refine W.eq (g2 := F0 m 217 ls [.int t.toInt32, .ref (f 8)]) rfl ?_
                        refine W.eq (g2 := F0 m 217 ls [.int (nI ct), .ref (f 8)]) (by rw [ect]) ?_
                        refine va_lald hx hb hK hP 1 1 rfl rfl (vp_in_nI (n := ct) (N := 2000) (by omega) (by omega)) d_MO_without_217 ?_
                        refine W.eq (g2 := F0 m 218 ls [.long (be2 ct)]) (by rw [nI_clamp (n := ct) (by omega)]) ?_
                        refine lv_lstore (lv' := [(6, .long (be2 ct)), (0, .ref h0), (1, .long t), (3, .long x), (5, .int (nI (tsz T)))]) hx hb d_MO_without_218 hl (Nat.le_of_ble_eq_true rfl) rfl (fun ls hl => ?_)
                        refine lv_iconst (v := 0) hx hb d_MO_without_220 (by decide) ?_
                        refine lv_istore (lv' := [(8, .int 0), (6, .long (be2 ct)), (0, .ref h0), (1, .long t), (3, .long x), (5, .int (nI (tsz T)))]) hx hb d_MO_without_221 hl (Nat.le_of_ble_eq_true rfl) rfl (fun ls hl => ?_)
                        have hl := lv_sub (l' := [(0, .ref h0), (5, .int (nI (tsz T))), (6, .long (be2 ct)), (8, .int 0)]) hl [2, 5, 1, 0] rfl
                        exact loop_19 _ 0 fs2 fr2 gon2 _ _ _ (Nat.lt_succ_self _) (by omega) ⟨Lean.RArray.leaf 0, fun q => absurd q hb_42, WI.any hW⟩ (fun d => (hW.2.2.2.2 d).imp id (fun ⟨i, q1, q2⟩ => ⟨i, Nat.zero_le _, q1, q2⟩)) hfr2 hgon2 hl hP hD hS
                      · skip
                        obtain ⟨cc, ta, tb, eS⟩ := hBI.at (k := k2 - 1) (by omega)
                        obtain ⟨eod, hcc, hra, hrb, hq5, hq6, hq7, hq8, hq9⟩ := hBI.kid (k := k2 - 1) (by omega) eS
                        have hW1 : WI le ri fr fs od_3 S T x Pk (tsz T) le2 ri2 be2 gon2 fr2 fs2 Wt (k2 - 1 + 1) := by rw [Nat.sub_add_cancel (by omega)]; exact hW
                        have hacc := WI.acc hBI hW1 (by omega) eS
                        refine lv_aload_n hx hb d_MO_without_133 rfl (lv_at hl 0 rfl) ?_
                        refine va_get (D := D) (ci := 8) (v := .ref (f 6)) (C := rn_MO) (T := fl_MO) (N := 55) hx hb hG in_MO hown hK hP 6 rfl rfl 13 (by decide) (hG _ k_1204) (fun _ h9 => h9) rfl d_MO_without_134 ?_
                        refine lv_iload hx hb d_MO_without_137 (lv_at hl 4 rfl) ?_
                        refine va_iald hx hb hK hP 3 0 rfl rfl (vp_in_nI (n := k2 - 1) (N := 2000) (by omega) (by omega)) d_MO_without_139 ?_
                        refine W.eq (g2 := F0 m 140 ls [.int (nI cc)]) (by rw [nI_clamp (n := k2 - 1) (by omega)]; rw [eod]) ?_
                        refine lv_istore (lv' := [(7, .int (nI cc)), (0, .ref h0), (1, .long t), (3, .long x), (5, .int (nI (tsz T))), (6, .int (nI (k2 - 1)))]) hx hb d_MO_without_140 hl (Nat.le_of_ble_eq_true rfl) rfl (fun ls hl => ?_)
                        refine lv_aload_n hx hb d_MO_without_142 rfl (lv_at hl 1 rfl) ?_
                        refine va_get (D := D) (ci := 8) (v := .ref (f 7)) (C := rn_MO) (T := fl_MO) (N := 55) hx hb hG in_MO hown hK hP 6 rfl rfl 14 (by decide) (hG _ k_1205) (fun _ h9 => h9) rfl d_MO_without_143 ?_
                        refine lv_iload hx hb d_MO_without_146 (lv_at hl 0 rfl) ?_
                        refine va_zald hx hb hK hP 7 2 rfl rfl (vp_in_nI (n := cc) (N := 2000) (by omega) (by omega)) d_MO_without_148 ?_
                        refine W.eq (g2 := F0 m 149 ls [.int (ha1 cc)]) (by rw [nI_clamp (n := cc) (by omega)]) ?_
                        refine lv_if_eq (tgt := 203) hx hb d_MO_without_149 (by decide) (fun hb_43 => ?_) (fun hb_43 => ?_)
                        · skip
                          have hnc : ¬ cont x (S (k2 - 1)) := (hH (k2 - 1) (by omega) (by omega) _ _ _ eS).elim (fun q => absurd (hb_43.symm.trans q.1) (by decide)) (fun q => q.2)
                          refine lv_iinc (k := 5) (v := nI (k2 - 1) - 1) (lv' := [(6, .int (nI (k2 - 1) - 1)), (7, .int (nI cc)), (0, .ref h0), (1, .long t), (3, .long x), (5, .int (nI (tsz T)))]) hx hb d_MO_without_203 hl rfl (dn_dec _) (Nat.le_of_ble_eq_true rfl) rfl (fun ls hl => ?_)
                          refine lv_goto (tgt := 121) hx hb d_MO_without_206 (by decide) ?_
                          have hl := lv_sub (l' := [(0, .ref h0), (1, .long t), (3, .long x), (5, .int (nI (tsz T))), (6, .int (nI (k2 - 1) - 1))]) hl [2, 3, 4, 5, 0] rfl
                          exact ih_17 (k2 - 1) bd2 fs2 le2 ri2 fr2 be2 gon2 _ _ _ (by omega) (by omega) (by first | exact id | exact (fun q => absurd q (by assumption)) | exact (fun q => hbz2 q)) (by assumption) ⟨_, WI.skip hBI hW1 (by omega) eS hnc⟩ hfr2 hgon2 hl hP hD hS
                        · skip
                          have hcx : cont x (S (k2 - 1)) := (hH (k2 - 1) (by omega) (by omega) _ _ _ eS).elim (fun q => q.2) (fun q => absurd q.1 hb_43)
                          have hww := hW.1 (k2 - 1) (by omega) cc ta tb eS
                          have hokk : okT (fun w => w = x ∨ Pk w) ta ∧ okT (fun w => w = x ∨ Pk w) tb := by have q := okT_at hBI hok (k2 - 1) (by omega); rw [eS] at q; exact q
                          have hsa : sd le2 ri2 be2 ha1 Pk x (le2 cc) (kw Wt (qf (isn T) S (k2 - 1)) ta) := by rw [hww.1]; exact WI.sub hBI hH hok hxn hW1 (by omega) hra hokk.1 (fun p => ⟨by omega, by omega, hq8 p⟩)
                          have hsb : sd le2 ri2 be2 ha1 Pk x (ri2 cc) (kw Wt (qf (isn T) S (k2 - 1) + isn ta) tb) := by rw [hww.2]; exact WI.sub hBI hH hok hxn hW1 (by omega) hrb hokk.2 (fun p => ⟨by omega, by omega, hq9 p⟩)
                          refine lv_aload_n hx hb d_MO_without_152 rfl (lv_at hl 1 rfl) ?_
                          refine lv_aload_n hx hb d_MO_without_153 rfl (lv_at hl 1 rfl) ?_
                          refine va_get (D := D) (ci := 8) (v := .ref (f 3)) (C := rn_MO) (T := fl_MO) (N := 55) hx hb hG in_MO hown hK hP 6 rfl rfl 9 (by decide) (hG _ k_1200) (fun _ h9 => h9) rfl d_MO_without_154 ?_
                          refine lv_iload hx hb d_MO_without_157 (lv_at hl 0 rfl) ?_
                          refine va_lald hx hb hK hP 4 1 rfl rfl (vp_in_nI (n := cc) (N := 2000) (by omega) (by omega)) d_MO_without_159 ?_
                          refine W.eq (g2 := F0 m 160 ls [.long (le2 cc), .ref h0]) (by rw [nI_clamp (n := cc) (by omega)]) ?_
                          refine lv_lload_n hx hb d_MO_without_160 rfl (lv_at hl 3 rfl) ?_
                          refine em_call (wr := [((f 30), .inl (cZ, 2000, .inl gon2)), ((f 6), .inl (cI, 2000, .inl od_3))]) (em_runV (As := [.long (le2 cc), .long x]) (rest := []) ⟨hx, hb, hml, hown, hG⟩ (mo_side l D cI cL cZ cC f h0 tn rm ln lx at_ bd2 fs2 dp on os bn df th tp mo_ ev ss so lk rs pt ot cl le2 ri2 fr2 ha1 be2 (kw Wt (qf (isn T) S (k2 - 1)) ta) Pk (le2 cc) x _ hfr2 hha1 hsa (by intro d; have a0 := ho d; have a1 := hacc d; omega) hcon (by first | assumption | omega | exact Or.inl rfl) hnt) (cwV 2 hG (gd_V k_1533 k_1535 k_81 k_116 k_1536) rfl rfl rfl (by decide +kernel) ⟨Nat.le_of_ble_eq_true rfl, Nat.le_of_ble_eq_true rfl⟩) (tw_V (q0 := 6) hP hD hK hE hst hS rfl rfl [6, 4, 5, 0, 7, 1] rfl (by decide)) rfl rfl hl.1 rfl (lv_room (Nat.le_of_ble_eq_true rfl)) d_MO_without_161 ⟨Nat.le_of_ble_eq_true rfl, Nat.le_of_ble_eq_true rfl⟩) hP hD hS hA [6, 4, 5, 0, 7, 1] [2, 3] rfl rfl (by decide) (by decide) (fun v u H locs hok hP hD hS => ?_) (fun x C u H locs hbad hxx hP hD hS => ?_)
                          · skip
                            obtain ⟨bd_44, fs_45, le_46, ri_47⟩ := u
                            obtain ⟨r_48, rfl, hp_49⟩ := hok
                            obtain ⟨hbz_50, hbo_51, hres_52⟩ : (bd_44 = 0 → bd2 = 0) ∧ (bdo bd_44) ∧ (∃ T' : Tr, rep le_46 ri_47 r_48 T' ∧ okT Pk T' ∧ (∀ d, fo fr2 fs_45 d + (toc T') d ≤ fo fr2 fs2 d + toc (kw Wt (qf (isn T) S (k2 - 1)) ta) d) ∧ (∀ d, fo fr2 fs2 d + toc (kw Wt (qf (isn T) S (k2 - 1)) ta) d = 0 → le_46 d = le2 d ∧ ri_47 d = ri2 d)) := hp_49
                            obtain ⟨T_53, hR_54, hK_55, hF_56, hA_57⟩ := hres_52
                            have hcc2 := hA_57 cc (by have a := hacc cc; have b := ho cc; rw [i1_self] at a; omega)
                            have hsb2 : sd le_46 ri_47 be2 ha1 Pk x (ri_47 cc) (kw Wt (qf (isn T) S (k2 - 1) + isn ta) tb) := by rw [hcc2.2]; exact sd_fr hsb (fun d hd => hA_57 d (by have a0 := ho d; have a1 := hacc d; have a2 := hF_56 d; omega))
                            have hP : va_P D classes [((f 30), .inl (cZ, 2000, .inl gon2)), ((f 6), .inl (cI, 2000, .inl od_3)), (h0, .inr (8, mS f tn rm ln lx at_ bd_44 fs_45 dp on os bn df th tp mo_ ev ss so lk rs pt ot cl)), ((f 3), .inl (cL, 2000, .inr (.inl le_46))), ((f 4), .inl (cL, 2000, .inr (.inl ri_47))), ((f 5), .inl (cI, 2000, .inl fr2)), ((f 7), .inl (cZ, 2000, .inl ha1)), ((f 8), .inl (cL, 2000, .inr (.inl be2)))] H := hP
                            have hD : va_D A [((f 30), .inl (cZ, 2000, .inl gon2)), ((f 6), .inl (cI, 2000, .inl od_3)), (h0, .inr (8, mS f tn rm ln lx at_ bd_44 fs_45 dp on os bn df th tp mo_ ev ss so lk rs pt ot cl)), ((f 3), .inl (cL, 2000, .inr (.inl le_46))), ((f 4), .inl (cL, 2000, .inr (.inl ri_47))), ((f 5), .inl (cI, 2000, .inl fr2)), ((f 7), .inl (cZ, 2000, .inl ha1)), ((f 8), .inl (cL, 2000, .inr (.inl be2)))] := hD
                            refine W.eq (g2 := F0 m 164 ls [.long r_48]) rfl ?_
                            refine lv_lstore (lv' := [(8, .long r_48), (7, .int (nI cc)), (0, .ref h0), (1, .long t), (3, .long x), (5, .int (nI (tsz T))), (6, .int (nI (k2 - 1)))]) hx hb d_MO_without_164 hl (Nat.le_of_ble_eq_true rfl) rfl (fun ls hl => ?_)
                            refine lv_aload_n hx hb d_MO_without_166 rfl (lv_at hl 2 rfl) ?_
                            refine lv_aload_n hx hb d_MO_without_167 rfl (lv_at hl 2 rfl) ?_
                            refine va_get (D := D) (ci := 8) (v := .ref (f 4)) (C := rn_MO) (T := fl_MO) (N := 55) hx hb hG in_MO hown hK hP 2 rfl rfl 10 (by decide) (hG _ k_1201) (fun _ h9 => h9) rfl d_MO_without_168 ?_
                            refine lv_iload hx hb d_MO_without_171 (lv_at hl 1 rfl) ?_
                            refine va_lald hx hb hK hP 4 1 rfl rfl (vp_in_nI (n := cc) (N := 2000) (by omega) (by omega)) d_MO_without_173 ?_
                            refine W.eq (g2 := F0 m 174 ls [.long (ri_47 cc), .ref h0]) (by rw [nI_clamp (n := cc) (by omega)]) ?_
                            refine lv_lload_n hx hb d_MO_without_174 rfl (lv_at hl 4 rfl) ?_
                            refine em_call (wr := [((f 30), .inl (cZ, 2000, .inl gon2)), ((f 6), .inl (cI, 2000, .inl od_3))]) (em_runV (As := [.long (ri_47 cc), .long x]) (rest := []) ⟨hx, hb, hml, hown, hG⟩ (mo_side l D cI cL cZ cC f h0 tn rm ln lx at_ bd_44 fs_45 dp on os bn df th tp mo_ ev ss so lk rs pt ot cl le_46 ri_47 fr2 ha1 be2 (kw Wt (qf (isn T) S (k2 - 1) + isn ta) tb) Pk (ri_47 cc) x _ hfr2 hha1 hsb2 (by intro d; have a0 := ho d; have a1 := hacc d; have a2 := hF_56 d; omega) hcon (by first | assumption | omega | exact Or.inl rfl) hnt) (cwV 2 hG (gd_V k_1533 k_1535 k_81 k_116 k_1536) rfl rfl rfl (by decide +kernel) ⟨Nat.le_of_ble_eq_true rfl, Nat.le_of_ble_eq_true rfl⟩) (tw_V (q0 := 2) hP hD hK hE hst hS rfl rfl [2, 3, 4, 5, 6, 7] rfl (by decide)) rfl rfl hl.1 rfl (lv_room (Nat.le_of_ble_eq_true rfl)) d_MO_without_175 ⟨Nat.le_of_ble_eq_true rfl, Nat.le_of_ble_eq_true rfl⟩) hP hD hS hA [2, 3, 4, 5, 6, 7] [0, 1] rfl rfl (by decide) (by decide) (fun v u H locs hok hP hD hS => ?_) (fun x C u H locs hbad hxx hP hD hS => ?_)
                            · skip
                              obtain ⟨bd_58, fs_59, le_60, ri_61⟩ := u
                              obtain ⟨r_62, rfl, hp_63⟩ := hok
                              obtain ⟨hbz_64, hbo_65, hres_66⟩ : (bd_58 = 0 → bd_44 = 0) ∧ (bdo bd_58) ∧ (∃ T' : Tr, rep le_60 ri_61 r_62 T' ∧ okT Pk T' ∧ (∀ d, fo fr2 fs_59 d + (toc T') d ≤ fo fr2 fs_45 d + toc (kw Wt (qf (isn T) S (k2 - 1) + isn ta) tb) d) ∧ (∀ d, fo fr2 fs_45 d + toc (kw Wt (qf (isn T) S (k2 - 1) + isn ta) tb) d = 0 → le_60 d = le_46 d ∧ ri_61 d = ri_47 d)) := hp_63
                              obtain ⟨T_67, hR_68, hK_69, hF_70, hA_71⟩ := hres_66
                              have hR_72 : rep le_60 ri_61 r_48 T_53 := rep_fr hR_54 (fun d hd => hA_71 d (by have a0 := ho d; have a1 := hacc d; have a2 := hF_56 d; have a3 := hF_70 d; omega))
                              have hP : va_P D classes [((f 30), .inl (cZ, 2000, .inl gon2)), ((f 6), .inl (cI, 2000, .inl od_3)), (h0, .inr (8, mS f tn rm ln lx at_ bd_58 fs_59 dp on os bn df th tp mo_ ev ss so lk rs pt ot cl)), ((f 3), .inl (cL, 2000, .inr (.inl le_60))), ((f 4), .inl (cL, 2000, .inr (.inl ri_61))), ((f 5), .inl (cI, 2000, .inl fr2)), ((f 7), .inl (cZ, 2000, .inl ha1)), ((f 8), .inl (cL, 2000, .inr (.inl be2)))] H := hP
                              have hD : va_D A [((f 30), .inl (cZ, 2000, .inl gon2)), ((f 6), .inl (cI, 2000, .inl od_3)), (h0, .inr (8, mS f tn rm ln lx at_ bd_58 fs_59 dp on os bn df th tp mo_ ev ss so lk rs pt ot cl)), ((f 3), .inl (cL, 2000, .inr (.inl le_60))), ((f 4), .inl (cL, 2000, .inr (.inl ri_61))), ((f 5), .inl (cI, 2000, .inl fr2)), ((f 7), .inl (cZ, 2000, .inl ha1)), ((f 8), .inl (cL, 2000, .inr (.inl be2)))] := hD
                              refine W.eq (g2 := F0 m 178 ls [.long r_62]) rfl ?_
                              refine lv_lstore (lv' := [(10, .long r_62), (8, .long r_48), (7, .int (nI cc)), (0, .ref h0), (1, .long t), (3, .long x), (5, .int (nI (tsz T))), (6, .int (nI (k2 - 1)))]) hx hb d_MO_without_178 hl (Nat.le_of_ble_eq_true rfl) rfl (fun ls hl => ?_)
                              refine lv_aload_n hx hb d_MO_without_180 rfl (lv_at hl 3 rfl) ?_
                              refine va_get (D := D) (ci := 8) (v := .ref (f 8)) (C := rn_MO) (T := fl_MO) (N := 55) hx hb hG in_MO hown hK hP 2 rfl rfl 15 (by decide) (hG _ k_1206) (fun _ h9 => h9) rfl d_MO_without_181 ?_
                              refine lv_iload hx hb d_MO_without_184 (lv_at hl 2 rfl) ?_
                              refine lv_aload_n hx hb d_MO_without_186 rfl (lv_at hl 3 rfl) ?_
                              refine lv_lload hx hb d_MO_without_187 (lv_at hl 1 rfl) ?_
                              refine lv_lload hx hb d_MO_without_189 (lv_at hl 0 rfl) ?_
                              refine em_call (wr := [((f 30), .inl (cZ, 2000, .inl gon2)), ((f 6), .inl (cI, 2000, .inl od_3)), ((f 7), .inl (cZ, 2000, .inl ha1)), ((f 8), .inl (cL, 2000, .inr (.inl be2)))]) (em_runV (As := [.long r_48, .long r_62]) (rest := [.int (nI cc), .ref (f 8)]) ⟨hx, hb, hml, hown, hG⟩ (mo_combined l D cI cL cZ cC f h0 tn rm ln lx at_ bd_58 fs_59 dp on os bn df th tp mo_ ev ss so lk rs pt ot cl le_60 ri_61 fr2 T_53 T_67 Pk r_48 r_62 _ hfr2 hR_72 hR_68 (by intro d; have a0 := ho d; have a1 := hacc d; have a2 := hF_56 d; have a3 := hF_70 d; omega) hK_55 hK_69 hcon (by first | assumption | omega | exact Or.inl rfl) hnt) (cwV 2 hG (gd_V k_1537 k_1539 k_82 k_116 k_1540) rfl rfl rfl (by decide +kernel) ⟨Nat.le_of_ble_eq_true rfl, Nat.le_of_ble_eq_true rfl⟩) (tw_V (q0 := 2) hP hD hK hE hst hS rfl rfl [2, 3, 4, 5] rfl (by decide)) rfl rfl hl.1 rfl (lv_room (Nat.le_of_ble_eq_true rfl)) d_MO_without_191 ⟨Nat.le_of_ble_eq_true rfl, Nat.le_of_ble_eq_true rfl⟩) hP hD hS hA [2, 3, 4, 5] [0, 1, 6, 7] rfl rfl (by decide) (by decide) (fun v u H locs hok hP hD hS => ?_) (fun x C u H locs hbad hxx hP hD hS => ?_)
                              · skip
                                obtain ⟨bd_73, fs_74, le_75, ri_76, fr_77⟩ := u
                                obtain ⟨r_78, rfl, hp_79⟩ := hok
                                obtain ⟨hfr_80, hbz_81, hbo_82, hres_83⟩ : (rng 2000 fr_77) ∧ (bd_73 = 0 → bd_58 = 0) ∧ (bdo bd_73) ∧ (∃ T' : Tr, rep le_75 ri_76 r_78 T' ∧ okT Pk T' ∧ (∀ d, fo fr_77 fs_74 d + (toc T') d ≤ fo fr2 fs_59 d + (toc T_53 d + toc T_67 d)) ∧ (∀ d, fo fr2 fs_59 d + (toc T_53 d + toc T_67 d) = 0 → le_75 d = le_60 d ∧ ri_76 d = ri_61 d)) := hp_79
                                obtain ⟨T_84, hR_85, hK_86, hF_87, hA_88⟩ := hres_83
                                have hP : va_P D classes [((f 30), .inl (cZ, 2000, .inl gon2)), ((f 6), .inl (cI, 2000, .inl od_3)), ((f 7), .inl (cZ, 2000, .inl ha1)), ((f 8), .inl (cL, 2000, .inr (.inl be2))), (h0, .inr (8, mS f tn rm ln lx at_ bd_73 fs_74 dp on os bn df th tp mo_ ev ss so lk rs pt ot cl)), ((f 3), .inl (cL, 2000, .inr (.inl le_75))), ((f 4), .inl (cL, 2000, .inr (.inl ri_76))), ((f 5), .inl (cI, 2000, .inl fr_77))] H := hP
                                have hD : va_D A [((f 30), .inl (cZ, 2000, .inl gon2)), ((f 6), .inl (cI, 2000, .inl od_3)), ((f 7), .inl (cZ, 2000, .inl ha1)), ((f 8), .inl (cL, 2000, .inr (.inl be2))), (h0, .inr (8, mS f tn rm ln lx at_ bd_73 fs_74 dp on os bn df th tp mo_ ev ss so lk rs pt ot cl)), ((f 3), .inl (cL, 2000, .inr (.inl le_75))), ((f 4), .inl (cL, 2000, .inr (.inl ri_76))), ((f 5), .inl (cI, 2000, .inl fr_77))] := hD
                                refine W.eq (g2 := F0 m 194 ls [.long r_78, .int (nI cc), .ref (f 8)]) rfl ?_
                                refine va_last hx hb hK hP hD hS 3 1 rfl rfl (vp_in_nI (n := cc) (N := 2000) (by omega) (by omega)) d_MO_without_194 (fun H locs hP hD hS => ?_)
                                have hP : va_P D classes [((f 30), .inl (cZ, 2000, .inl gon2)), ((f 6), .inl (cI, 2000, .inl od_3)), ((f 7), .inl (cZ, 2000, .inl ha1)), ((f 8), .inl (cL, 2000, .inr (.inl (vp_updL be2 (nI cc).toNatClampNeg r_78)))), (h0, .inr (8, mS f tn rm ln lx at_ bd_73 fs_74 dp on os bn df th tp mo_ ev ss so lk rs pt ot cl)), ((f 3), .inl (cL, 2000, .inr (.inl le_75))), ((f 4), .inl (cL, 2000, .inr (.inl ri_76))), ((f 5), .inl (cI, 2000, .inl fr_77))] H := hP
                                have hD : va_D A [((f 30), .inl (cZ, 2000, .inl gon2)), ((f 6), .inl (cI, 2000, .inl od_3)), ((f 7), .inl (cZ, 2000, .inl ha1)), ((f 8), .inl (cL, 2000, .inr (.inl (vp_updL be2 (nI cc).toNatClampNeg r_78)))), (h0, .inr (8, mS f tn rm ln lx at_ bd_73 fs_74 dp on os bn df th tp mo_ ev ss so lk rs pt ot cl)), ((f 3), .inl (cL, 2000, .inr (.inl le_75))), ((f 4), .inl (cL, 2000, .inr (.inl ri_76))), ((f 5), .inl (cI, 2000, .inl fr_77))] := hD
                                obtain ⟨g_89, eg_89⟩ : ∃ z, z = vp_updL be2 cc r_78 := ⟨_, rfl⟩
                                rw [nI_clamp (n := cc) (by omega), ← eg_89] at hP hD
                                refine lv_aload_n hx hb d_MO_without_195 rfl (lv_at hl 3 rfl) ?_
                                refine va_get (D := D) (ci := 8) (v := .ref (f 30)) (C := rn_MO) (T := fl_MO) (N := 55) hx hb hG in_MO hown hK hP 4 rfl rfl 52 (by decide) (hG _ k_1243) (fun _ h9 => h9) rfl d_MO_without_196 ?_
                                refine lv_iload hx hb d_MO_without_199 (lv_at hl 2 rfl) ?_
                                refine lv_iconst (v := 1) hx hb d_MO_without_201 (by decide) ?_
                                refine va_zast hx hb hK hP hD hS 0 2 rfl rfl (vp_in_nI (n := cc) (N := 2000) (by omega) (by omega)) d_MO_without_202 (fun H locs hP hD hS => ?_)
                                have hP : va_P D classes [((f 30), .inl (cZ, 2000, .inl (upd gon2 (nI cc).toNatClampNeg (vp_nar .boolean 1)))), ((f 6), .inl (cI, 2000, .inl od_3)), ((f 7), .inl (cZ, 2000, .inl ha1)), ((f 8), .inl (cL, 2000, .inr (.inl g_89))), (h0, .inr (8, mS f tn rm ln lx at_ bd_73 fs_74 dp on os bn df th tp mo_ ev ss so lk rs pt ot cl)), ((f 3), .inl (cL, 2000, .inr (.inl le_75))), ((f 4), .inl (cL, 2000, .inr (.inl ri_76))), ((f 5), .inl (cI, 2000, .inl fr_77))] H := hP
                                have hD : va_D A [((f 30), .inl (cZ, 2000, .inl (upd gon2 (nI cc).toNatClampNeg (vp_nar .boolean 1)))), ((f 6), .inl (cI, 2000, .inl od_3)), ((f 7), .inl (cZ, 2000, .inl ha1)), ((f 8), .inl (cL, 2000, .inr (.inl g_89))), (h0, .inr (8, mS f tn rm ln lx at_ bd_73 fs_74 dp on os bn df th tp mo_ ev ss so lk rs pt ot cl)), ((f 3), .inl (cL, 2000, .inr (.inl le_75))), ((f 4), .inl (cL, 2000, .inr (.inl ri_76))), ((f 5), .inl (cI, 2000, .inl fr_77))] := hD
                                obtain ⟨g_90, eg_90⟩ : ∃ z, z = upd gon2 cc 1 := ⟨_, rfl⟩
                                rw [nI_clamp (n := cc) (by omega), nar_b (Or.inr rfl), ← eg_90] at hP hD
                                have hg_90 : bln g_90 := by rw [eg_90]; exact bln_ub hgon2 (Or.inr rfl)
                                refine lv_iinc (k := 7) (v := nI (k2 - 1) - 1) (lv' := [(6, .int (nI (k2 - 1) - 1)), (10, .long r_62), (8, .long r_48), (7, .int (nI cc)), (0, .ref h0), (1, .long t), (3, .long x), (5, .int (nI (tsz T)))]) hx hb d_MO_without_203 hl rfl (dn_dec _) (Nat.le_of_ble_eq_true rfl) rfl (fun ls hl => ?_)
                                refine lv_goto (tgt := 121) hx hb d_MO_without_206 (by decide) ?_
                                have hl := lv_sub (l' := [(0, .ref h0), (1, .long t), (3, .long x), (5, .int (nI (tsz T))), (6, .int (nI (k2 - 1) - 1))]) hl [4, 5, 6, 7, 0] rfl
                                have hP : va_P D classes [((f 5), .inl (cI, 2000, .inl fr_77)), ((f 8), .inl (cL, 2000, .inr (.inl g_89))), ((f 30), .inl (cZ, 2000, .inl g_90)), ((f 6), .inl (cI, 2000, .inl od_3)), ((f 3), .inl (cL, 2000, .inr (.inl le_75))), ((f 4), .inl (cL, 2000, .inr (.inl ri_76))), (h0, .inr (8, mS f tn rm ln lx at_ bd_73 fs_74 dp on os bn df th tp mo_ ev ss so lk rs pt ot cl)), ((f 7), .inl (cZ, 2000, .inl ha1))] _ := hP.sub [7, 3, 0, 1, 5, 6, 4, 2] (wp_fm rfl)
                                have hD : va_D A [((f 5), .inl (cI, 2000, .inl fr_77)), ((f 8), .inl (cL, 2000, .inr (.inl g_89))), ((f 30), .inl (cZ, 2000, .inl g_90)), ((f 6), .inl (cI, 2000, .inl od_3)), ((f 3), .inl (cL, 2000, .inr (.inl le_75))), ((f 4), .inl (cL, 2000, .inr (.inl ri_76))), (h0, .inr (8, mS f tn rm ln lx at_ bd_73 fs_74 dp on os bn df th tp mo_ ev ss so lk rs pt ot cl)), ((f 7), .inl (cZ, 2000, .inl ha1))] := hD.sub [7, 3, 0, 1, 5, 6, 4, 2] (by decide) rfl
                                exact ih_17 (k2 - 1) bd_73 fs_74 le_75 ri_76 fr_77 g_89 g_90 _ _ _ (by omega) (by omega) (by first | exact id | exact (fun q => absurd q (by assumption)) | exact (fun q => hbz2 (hbz_50 (hbz_64 (hbz_81 q))))) (by assumption) ⟨_, by rw [eg_89, eg_90]; exact WI.has hBI ho hW1 (by omega) eS hcx hR_85 hK_86 (by intro d; have a0 := ho d; have a1 := hacc d; have a2 := hF_56 d; have a3 := hF_70 d; have a4 := hF_87 d; omega) (fun d hd => by have a0 := ho d; have a1 := hacc d; have a2 := hF_56 d; have a3 := hF_70 d; have a4 := hF_87 d; have g0 := hA_57 d (by omega); have g1 := hA_71 d (by omega); have g2 := hA_88 d (by omega); exact ⟨by rw [g2.1, g1.1, g0.1], by rw [g2.2, g1.2, g0.2]⟩)⟩ hfr_80 hg_90 hl hP hD hS
                              · skip
                                exact hbad.elim
                            · skip
                              exact hbad.elim
                          · skip
                            exact hbad.elim
                refine lv_iload hx hb d_MO_without_115 (lv_at hl 3 rfl) ?_
                refine lv_iconst (v := 1) hx hb d_MO_without_117 (by decide) ?_
                refine lv_isub hx hb d_MO_without_118 ?_
                refine lv_istore (lv' := [(6, .int ((nI (tsz T)) - 1)), (0, .ref h0), (1, .long t), (3, .long x), (5, .int (nI (tsz T)))]) hx hb d_MO_without_119 hl (Nat.le_of_ble_eq_true rfl) rfl (fun ls hl => ?_)
                have hl := lv_sub (l' := [(0, .ref h0), (1, .long t), (3, .long x), (5, .int (nI (tsz T))), (6, .int ((nI (tsz T)) - 1))]) hl [1, 2, 3, 4, 0] rfl
                exact loop_16 _ (tsz T) bd fs le ri fr be gon _ _ _ (Nat.lt_succ_self _) (by omega) (by first | exact id | exact (fun q => absurd q (by assumption)) | exact (id)) (by assumption) ⟨fun _ => Lean.RArray.leaf 0, WI.init hBI hg⟩ hfr hgon hl hP hD hS
              · skip
                have hnT : ¬ cont x T := (hv_kid hxn h1 hH (q := 0) (fun p => ⟨Nat.le_refl _, by have := sz_isn T; omega, hBI.1 p⟩)).2 hy_14
                refine W.eq (g2 := F0 m 98 ls [.int 0]) rfl ?_
                refine lv_if_ne (tgt := 115) hx hb d_MO_without_98 (by decide) (fun hbr => absurd (by decide) hbr) (fun hbr => ?_)
                refine lv_aload_n hx hb d_MO_without_101 rfl (lv_at hl 0 rfl) ?_
                refine lv_aload_n hx hb d_MO_without_102 rfl (lv_at hl 0 rfl) ?_
                refine lv_iconst (v := 3) hx hb d_MO_without_103 (by decide) ?_
                refine W.callRL (W.runS (As := [.int 3]) (rest := [.ref h0, .ref h0]) ⟨hx, hb, hml, hown, hG⟩ (mo_constant l D cI cL cZ cC 3 ) (cwS 1 hG (gd_S k_1461 k_1462 k_116 k_1463) rfl rfl rfl (by decide +kernel) ⟨Nat.le_of_ble_eq_true rfl, Nat.le_of_ble_eq_true rfl⟩) (wq_S hP hK [] rfl) rfl rfl hl.1 rfl (lv_room (Nat.le_of_ble_eq_true rfl)) d_MO_without_104 ⟨Nat.le_of_ble_eq_true rfl, Nat.le_of_ble_eq_true rfl⟩) ?_
                refine W.eq (g2 := F0 m 107 ls [.long (wof 2 3), .ref h0, .ref h0]) rfl ?_
                refine lv_lload_n hx hb d_MO_without_107 rfl (lv_at hl 1 rfl) ?_
                refine em_call (wr := [((f 8), .inl (cL, 2000, .inr (.inl be))), ((f 30), .inl (cZ, 2000, .inl gon)), ((f 6), .inl (cI, 2000, .inl od_3)), ((f 7), .inl (cZ, 2000, .inl ha1))]) (em_runV (As := [.long (wof 2 3), .long t]) (rest := [.ref h0]) ⟨hx, hb, hml, hown, hG⟩ (mo_apply l D cI cL cZ cC f h0 tn rm ln lx at_ bd fs dp on os bn df th tp mo_ ev ss so lk rs pt ot cl le ri fr (Lean.RArray.leaf (wof 2 3)) T Pk (wof 2 3) t _ hfr (rep_lf (by rw [wkind_of]; decide)) h1 (by intro d; have a0 := ho d; have a1 := (Tr.occ_lf (wof 2 3)) d; omega) (hcon 3 (by decide) (by decide)) (okT_no hok hnT) (hcon 2 (by decide) (by decide)) (by first | assumption | omega | exact Or.inl rfl) hnt) (cwV 2 hG (gd_V k_1457 k_1459 k_67 k_116 k_1460) rfl rfl rfl (by decide +kernel) ⟨Nat.le_of_ble_eq_true rfl, Nat.le_of_ble_eq_true rfl⟩) (tw_V (q0 := 6) hP hD hK hE hst hS rfl rfl [6, 4, 5, 0] rfl (by decide)) rfl rfl hl.1 rfl (lv_room (Nat.le_of_ble_eq_true rfl)) d_MO_without_108 ⟨Nat.le_of_ble_eq_true rfl, Nat.le_of_ble_eq_true rfl⟩) hP hD hS hA [6, 4, 5, 0] [1, 2, 3, 7] rfl rfl (by decide) (by decide) (fun v u H locs hok hP hD hS => ?_) (fun x C u H locs hbad hxx hP hD hS => ?_)
                · skip
                  obtain ⟨bd_91, fs_92, le_93, ri_94⟩ := u
                  obtain ⟨r_95, rfl, hp_96⟩ := hok
                  obtain ⟨hbz_97, hbo_98, hres_99⟩ : (bd_91 = 0 → bd = 0) ∧ (bdo bd_91) ∧ (∃ T' : Tr, rep le_93 ri_94 r_95 T' ∧ okT Pk T' ∧ (∀ d, fo fr fs_92 d + (toc T') d ≤ fo fr fs d + (toc (Lean.RArray.leaf (wof 2 3)) d + toc T d)) ∧ (∀ d, fo fr fs d + (toc (Lean.RArray.leaf (wof 2 3)) d + toc T d) = 0 → le_93 d = le d ∧ ri_94 d = ri d)) := hp_96
                  obtain ⟨T_100, hR_101, hK_102, hF_103, hA_104⟩ := hres_99
                  have hP : va_P D classes [((f 8), .inl (cL, 2000, .inr (.inl be))), ((f 30), .inl (cZ, 2000, .inl gon)), ((f 6), .inl (cI, 2000, .inl od_3)), ((f 7), .inl (cZ, 2000, .inl ha1)), (h0, .inr (8, mS f tn rm ln lx at_ bd_91 fs_92 dp on os bn df th tp mo_ ev ss so lk rs pt ot cl)), ((f 3), .inl (cL, 2000, .inr (.inl le_93))), ((f 4), .inl (cL, 2000, .inr (.inl ri_94))), ((f 5), .inl (cI, 2000, .inl fr))] H := hP
                  have hD : va_D A [((f 8), .inl (cL, 2000, .inr (.inl be))), ((f 30), .inl (cZ, 2000, .inl gon)), ((f 6), .inl (cI, 2000, .inl od_3)), ((f 7), .inl (cZ, 2000, .inl ha1)), (h0, .inr (8, mS f tn rm ln lx at_ bd_91 fs_92 dp on os bn df th tp mo_ ev ss so lk rs pt ot cl)), ((f 3), .inl (cL, 2000, .inr (.inl le_93))), ((f 4), .inl (cL, 2000, .inr (.inl ri_94))), ((f 5), .inl (cI, 2000, .inl fr))] := hD
                  refine W.eq (g2 := F0 m 111 ls [.long r_95, .ref h0]) rfl ?_
                  refine em_call (wr := [((f 8), .inl (cL, 2000, .inr (.inl be))), ((f 30), .inl (cZ, 2000, .inl gon)), ((f 7), .inl (cZ, 2000, .inl ha1)), ((f 5), .inl (cI, 2000, .inl fr))]) (em_runV (As := [.long r_95]) (rest := []) ⟨hx, hb, hml, hown, hG⟩ (mo_within400 l D cI cL cZ cC f h0 tn rm ln lx at_ bd_91 fs_92 dp on os bn df th tp mo_ ev ss so lk rs pt ot cl od_3 le_93 ri_94 T_100 r_95 _ (fun _ => hR_101) (by intro d; have a0 := ho d; have a1 := (Tr.occ_lf (wof 2 3)) d; have a2 := hF_103 d; omega) (by first | assumption | omega | exact Or.inl rfl) hnt) (cwV 1 hG (gd_V k_1529 k_1531 k_80 k_116 k_1532) rfl rfl rfl (by decide +kernel) ⟨Nat.le_of_ble_eq_true rfl, Nat.le_of_ble_eq_true rfl⟩) (tw_V (q0 := 4) hP hD hK hE hst hS rfl rfl [4, 2, 5, 6] rfl (by decide)) rfl rfl hl.1 rfl (lv_room (Nat.le_of_ble_eq_true rfl)) d_MO_without_111 ⟨Nat.le_of_ble_eq_true rfl, Nat.le_of_ble_eq_true rfl⟩) hP hD hS hA [4, 2, 5, 6] [0, 1, 3, 7] rfl rfl (by decide) (by decide) (fun v u H locs hok hP hD hS => ?_) (fun x C u H locs hbad hxx hP hD hS => ?_)
                  · skip
                    obtain ⟨bd_105, od_106⟩ := u
                    obtain ⟨r_107, rfl, hp_108⟩ := hok
                    obtain ⟨hbz_109, hbo_110, hres_111⟩ : (bd_105 = 0 → bd_91 = 0) ∧ (bdo bd_105) ∧ (r_95 = r_107) := hp_108
                    subst hres_111
                    have hP : va_P D classes [((f 8), .inl (cL, 2000, .inr (.inl be))), ((f 30), .inl (cZ, 2000, .inl gon)), ((f 7), .inl (cZ, 2000, .inl ha1)), ((f 5), .inl (cI, 2000, .inl fr)), (h0, .inr (8, mS f tn rm ln lx at_ bd_105 fs_92 dp on os bn df th tp mo_ ev ss so lk rs pt ot cl)), ((f 6), .inl (cI, 2000, .inl od_106)), ((f 3), .inl (cL, 2000, .inr (.inl le_93))), ((f 4), .inl (cL, 2000, .inr (.inl ri_94)))] H := hP
                    have hD : va_D A [((f 8), .inl (cL, 2000, .inr (.inl be))), ((f 30), .inl (cZ, 2000, .inl gon)), ((f 7), .inl (cZ, 2000, .inl ha1)), ((f 5), .inl (cI, 2000, .inl fr)), (h0, .inr (8, mS f tn rm ln lx at_ bd_105 fs_92 dp on os bn df th tp mo_ ev ss so lk rs pt ot cl)), ((f 6), .inl (cI, 2000, .inl od_106)), ((f 3), .inl (cL, 2000, .inr (.inl le_93))), ((f 4), .inl (cL, 2000, .inr (.inl ri_94)))] := hD
                    refine W.eq (g2 := F0 m 114 ls [.long r_95]) rfl ?_
                    exact em_lret hx hb hr hlocks hP hD hK hS (bd_105, fs_92, le_93, ri_94, fr, od_106, ha1, be, gon) [4, 6, 7, 3, 5, 2, 0, 1] (by decide) rfl ⟨_, rfl, ⟨hfr, hha1, hgon, (show bd_105 = 0 → bd = 0 from (by first | exact id | exact (fun q => absurd q (by assumption)) | exact (fun q => hbz_97 (hbz_109 q)))), (show bdo bd_105 from (by first | assumption | omega | exact Or.inl rfl)), (show ∀ d, gon d = 0 from hg), (show (bd_105 = 0 → ∃ T' : Tr, rep le_93 ri_94 (r_95 : Int64) T' ∧ okT Pk T' ∧ (∀ d, fo fr fs_92 d + (toc T') d ≤ fo fr fs d + toc T d) ∧ (∀ d, fo fr fs d + toc T d = 0 → le_93 d = le d ∧ ri_94 d = ri d)) from (fun _ => ⟨T_100, hR_101, hK_102, (by intro d; have a0 := ho d; have a1 := (Tr.occ_lf (wof 2 3)) d; have a2 := hF_103 d; omega), (fun d hd => by have a0 := ho d; have a1 := (Tr.occ_lf (wof 2 3)) d; have a2 := hF_103 d; have g0 := hA_104 d (by omega); exact ⟨by rw [g0.1], by rw [g0.2]⟩)⟩))⟩⟩ d_MO_without_114
                  · skip
                    exact hbad.elim
                · skip
                  exact hbad.elim
            · skip
              exact hbad.elim
          · skip
            have hk1 : 1 ≤ k := dn_ge (by omega) hb_10
            have hl : lv_has ls 12 [(0, .ref h0), (1, .long t), (3, .long x), (5, .int (nI (tsz T))), (6, .int (nI (k - 1)))] := by rw [← dn_eq hk1]; exact hl
            obtain ⟨cc, ta, tb, eS⟩ := hBI.at (k := k - 1) (by omega)
            obtain ⟨eod, hcc, hra, hrb, hq5, hq6, hq7, hq8, hq9⟩ := hBI.kid (k := k - 1) (by omega) eS
            have hka := hv_kid hxn hra hH (q := qf (isn T) S (k - 1)) (fun p => ⟨by omega, by omega, hq8 p⟩)
            have hkb := hv_kid hxn hrb hH (q := qf (isn T) S (k - 1) + isn ta) (fun p => ⟨by omega, by omega, hq9 p⟩)
            refine lv_aload_n hx hb d_MO_without_29 rfl (lv_at hl 0 rfl) ?_
            refine va_get (D := D) (ci := 8) (v := .ref (f 7)) (C := rn_MO) (T := fl_MO) (N := 55) hx hb hG in_MO hown hK hP 4 rfl rfl 14 (by decide) (hG _ k_1205) (fun _ h9 => h9) rfl d_MO_without_30 ?_
            refine lv_aload_n hx hb d_MO_without_33 rfl (lv_at hl 0 rfl) ?_
            refine va_get (D := D) (ci := 8) (v := .ref (f 6)) (C := rn_MO) (T := fl_MO) (N := 55) hx hb hG in_MO hown hK hP 4 rfl rfl 13 (by decide) (hG _ k_1204) (fun _ h9 => h9) rfl d_MO_without_34 ?_
            refine lv_iload hx hb d_MO_without_37 (lv_at hl 4 rfl) ?_
            refine va_iald hx hb hK hP 5 0 rfl rfl (vp_in_nI (n := k - 1) (N := 2000) (by omega) (by omega)) d_MO_without_39 ?_
            refine W.eq (g2 := F0 m 40 ls [.int (nI cc), .ref (f 7)]) (by rw [nI_clamp (n := k - 1) (by omega)]; rw [eod]) ?_
            refine lv_aload_n hx hb d_MO_without_40 rfl (lv_at hl 0 rfl) ?_
            refine lv_aload_n hx hb d_MO_without_41 rfl (lv_at hl 0 rfl) ?_
            refine va_get (D := D) (ci := 8) (v := .ref (f 3)) (C := rn_MO) (T := fl_MO) (N := 55) hx hb hG in_MO hown hK hP 4 rfl rfl 9 (by decide) (hG _ k_1200) (fun _ h9 => h9) rfl d_MO_without_42 ?_
            refine lv_aload_n hx hb d_MO_without_45 rfl (lv_at hl 0 rfl) ?_
            refine va_get (D := D) (ci := 8) (v := .ref (f 6)) (C := rn_MO) (T := fl_MO) (N := 55) hx hb hG in_MO hown hK hP 4 rfl rfl 13 (by decide) (hG _ k_1204) (fun _ h9 => h9) rfl d_MO_without_46 ?_
            refine lv_iload hx hb d_MO_without_49 (lv_at hl 4 rfl) ?_
            refine va_iald hx hb hK hP 5 0 rfl rfl (vp_in_nI (n := k - 1) (N := 2000) (by omega) (by omega)) d_MO_without_51 ?_
            refine W.eq (g2 := F0 m 52 ls [.int (nI cc), .ref (f 3), .ref h0, .int (nI cc), .ref (f 7)]) (by rw [nI_clamp (n := k - 1) (by omega)]; rw [eod]) ?_
            refine va_lald hx hb hK hP 6 1 rfl rfl (vp_in_nI (n := cc) (N := 2000) (by omega) (by omega)) d_MO_without_52 ?_
            refine W.eq (g2 := F0 m 53 ls [.long (le cc), .ref h0, .int (nI cc), .ref (f 7)]) (by rw [nI_clamp (n := cc) (by omega)]) ?_
            refine lv_lload_n hx hb d_MO_without_53 rfl (lv_at hl 2 rfl) ?_
            refine em_call (wr := [((f 5), .inl (cI, 2000, .inl fr)), ((f 8), .inl (cL, 2000, .inr (.inl be))), ((f 30), .inl (cZ, 2000, .inl gon)), ((f 6), .inl (cI, 2000, .inl od_3)), ((f 3), .inl (cL, 2000, .inr (.inl le))), ((f 4), .inl (cL, 2000, .inr (.inl ri)))]) (em_runV (As := [.long (le cc), .long x]) (rest := [.int (nI cc), .ref (f 7)]) ⟨hx, hb, hml, hown, hG⟩ (mo_having l D cI cL cZ cC f h0 tn rm ln lx at_ bd fs dp on os bn df th tp mo_ ev ss so lk rs pt ot cl ha1 (le cc) x _ hha1 (rep_w hra) hnt) (cwV 2 hG (gd_V k_1525 k_1527 k_79 k_116 k_1528) rfl rfl rfl (by decide +kernel) ⟨Nat.le_of_ble_eq_true rfl, Nat.le_of_ble_eq_true rfl⟩) (tw_V (q0 := 4) hP hD hK hE hst hS rfl rfl [4, 1] rfl (by decide)) rfl rfl hl.1 rfl (lv_room (Nat.le_of_ble_eq_true rfl)) d_MO_without_54 ⟨Nat.le_of_ble_eq_true rfl, Nat.le_of_ble_eq_true rfl⟩) hP hD hS hA [4, 1] [0, 2, 3, 5, 6, 7] rfl rfl (by decide) (by decide) (fun v u H locs hok hP hD hS => ?_) (fun x C u H locs hbad hxx hP hD hS => ?_)
            · skip
              obtain ⟨r_112, rfl, hp_113⟩ := hok
              have hres_114 : (((r_112 = 1 ∧ hvT ha1 x (le cc)) ∨ (r_112 = 0 ∧ hvF ha1 x (le cc)))) := hp_113
              have hP : va_P D classes [((f 5), .inl (cI, 2000, .inl fr)), ((f 8), .inl (cL, 2000, .inr (.inl be))), ((f 30), .inl (cZ, 2000, .inl gon)), ((f 6), .inl (cI, 2000, .inl od_3)), ((f 3), .inl (cL, 2000, .inr (.inl le))), ((f 4), .inl (cL, 2000, .inr (.inl ri))), (h0, .inr (8, mS f tn rm ln lx at_ bd fs dp on os bn df th tp mo_ ev ss so lk rs pt ot cl)), ((f 7), .inl (cZ, 2000, .inl ha1))] H := hP
              have hD : va_D A [((f 5), .inl (cI, 2000, .inl fr)), ((f 8), .inl (cL, 2000, .inr (.inl be))), ((f 30), .inl (cZ, 2000, .inl gon)), ((f 6), .inl (cI, 2000, .inl od_3)), ((f 3), .inl (cL, 2000, .inr (.inl le))), ((f 4), .inl (cL, 2000, .inr (.inl ri))), (h0, .inr (8, mS f tn rm ln lx at_ bd fs dp on os bn df th tp mo_ ev ss so lk rs pt ot cl)), ((f 7), .inl (cZ, 2000, .inl ha1))] := hD
              rcases hres_114 with ⟨rfl, hy_115⟩ | ⟨rfl, hy_115⟩
              · skip
                refine W.eq (g2 := F0 m 57 ls [.int 1, .int (nI cc), .ref (f 7)]) rfl ?_
                refine lv_if_ne (tgt := 80) hx hb d_MO_without_57 (by decide) (fun hbr => ?_) (fun hbr => absurd hbr (by decide))
                refine lv_iconst (v := 1) hx hb d_MO_without_80 (by decide) ?_
                refine lv_goto (tgt := 85) hx hb d_MO_without_81 (by decide) ?_
                refine va_zast hx hb hK hP hD hS 7 2 rfl rfl (vp_in_nI (n := cc) (N := 2000) (by omega) (by omega)) d_MO_without_85 (fun H locs hP hD hS => ?_)
                have hP : va_P D classes [((f 5), .inl (cI, 2000, .inl fr)), ((f 8), .inl (cL, 2000, .inr (.inl be))), ((f 30), .inl (cZ, 2000, .inl gon)), ((f 6), .inl (cI, 2000, .inl od_3)), ((f 3), .inl (cL, 2000, .inr (.inl le))), ((f 4), .inl (cL, 2000, .inr (.inl ri))), (h0, .inr (8, mS f tn rm ln lx at_ bd fs dp on os bn df th tp mo_ ev ss so lk rs pt ot cl)), ((f 7), .inl (cZ, 2000, .inl (upd ha1 (nI cc).toNatClampNeg (vp_nar .boolean 1))))] H := hP
                have hD : va_D A [((f 5), .inl (cI, 2000, .inl fr)), ((f 8), .inl (cL, 2000, .inr (.inl be))), ((f 30), .inl (cZ, 2000, .inl gon)), ((f 6), .inl (cI, 2000, .inl od_3)), ((f 3), .inl (cL, 2000, .inr (.inl le))), ((f 4), .inl (cL, 2000, .inr (.inl ri))), (h0, .inr (8, mS f tn rm ln lx at_ bd fs dp on os bn df th tp mo_ ev ss so lk rs pt ot cl)), ((f 7), .inl (cZ, 2000, .inl (upd ha1 (nI cc).toNatClampNeg (vp_nar .boolean 1))))] := hD
                obtain ⟨g_116, eg_116⟩ : ∃ z, z = upd ha1 cc 1 := ⟨_, rfl⟩
                rw [nI_clamp (n := cc) (by omega), nar_b (Or.inr rfl), ← eg_116] at hP hD
                have hg_116 : bln g_116 := by rw [eg_116]; exact bln_ub hha1 (Or.inr rfl)
                refine lv_iinc (k := 4) (v := nI (k - 1) - 1) (lv' := [(6, .int (nI (k - 1) - 1)), (0, .ref h0), (1, .long t), (3, .long x), (5, .int (nI (tsz T)))]) hx hb d_MO_without_86 hl rfl (dn_dec _) (Nat.le_of_ble_eq_true rfl) rfl (fun ls hl => ?_)
                refine lv_goto (tgt := 24) hx hb d_MO_without_89 (by decide) ?_
                have hl := lv_sub (l' := [(0, .ref h0), (1, .long t), (3, .long x), (5, .int (nI (tsz T))), (6, .int (nI (k - 1) - 1))]) hl [1, 2, 3, 4, 0] rfl
                have hP : va_P D classes [((f 5), .inl (cI, 2000, .inl fr)), ((f 7), .inl (cZ, 2000, .inl g_116)), ((f 8), .inl (cL, 2000, .inr (.inl be))), ((f 30), .inl (cZ, 2000, .inl gon)), (h0, .inr (8, mS f tn rm ln lx at_ bd fs dp on os bn df th tp mo_ ev ss so lk rs pt ot cl)), ((f 6), .inl (cI, 2000, .inl od_3)), ((f 3), .inl (cL, 2000, .inr (.inl le))), ((f 4), .inl (cL, 2000, .inr (.inl ri)))] _ := hP.sub [0, 7, 1, 2, 6, 3, 4, 5] (wp_fm rfl)
                have hD : va_D A [((f 5), .inl (cI, 2000, .inl fr)), ((f 7), .inl (cZ, 2000, .inl g_116)), ((f 8), .inl (cL, 2000, .inr (.inl be))), ((f 30), .inl (cZ, 2000, .inl gon)), (h0, .inr (8, mS f tn rm ln lx at_ bd fs dp on os bn df th tp mo_ ev ss so lk rs pt ot cl)), ((f 6), .inl (cI, 2000, .inl od_3)), ((f 3), .inl (cL, 2000, .inr (.inl le))), ((f 4), .inl (cL, 2000, .inr (.inl ri)))] := hD.sub [0, 7, 1, 2, 6, 3, 4, 5] (by decide) rfl
                exact ih_9 (k - 1) g_116 _ _ _ (by omega) (by omega) (by rw [eg_116]; exact HI.up hBI hoT (by omega) (show HI ha1 S x (k - 1 + 1) (tsz T) by rw [Nat.sub_add_cancel (by omega)]; exact hH) eS (Or.inl ⟨rfl, by rw [eS]; exact Or.inl (hka.1 hy_115)⟩)) hg_116 hl hP hD hS
              · skip
                refine W.eq (g2 := F0 m 57 ls [.int 0, .int (nI cc), .ref (f 7)]) rfl ?_
                refine lv_if_ne (tgt := 80) hx hb d_MO_without_57 (by decide) (fun hbr => absurd (by decide) hbr) (fun hbr => ?_)
                refine lv_aload_n hx hb d_MO_without_60 rfl (lv_at hl 0 rfl) ?_
                refine lv_aload_n hx hb d_MO_without_61 rfl (lv_at hl 0 rfl) ?_
                refine va_get (D := D) (ci := 8) (v := .ref (f 4)) (C := rn_MO) (T := fl_MO) (N := 55) hx hb hG in_MO hown hK hP 6 rfl rfl 10 (by decide) (hG _ k_1201) (fun _ h9 => h9) rfl d_MO_without_62 ?_
                refine lv_aload_n hx hb d_MO_without_65 rfl (lv_at hl 0 rfl) ?_
                refine va_get (D := D) (ci := 8) (v := .ref (f 6)) (C := rn_MO) (T := fl_MO) (N := 55) hx hb hG in_MO hown hK hP 6 rfl rfl 13 (by decide) (hG _ k_1204) (fun _ h9 => h9) rfl d_MO_without_66 ?_
                refine lv_iload hx hb d_MO_without_69 (lv_at hl 4 rfl) ?_
                refine va_iald hx hb hK hP 3 0 rfl rfl (vp_in_nI (n := k - 1) (N := 2000) (by omega) (by omega)) d_MO_without_71 ?_
                refine W.eq (g2 := F0 m 72 ls [.int (nI cc), .ref (f 4), .ref h0, .int (nI cc), .ref (f 7)]) (by rw [nI_clamp (n := k - 1) (by omega)]; rw [eod]) ?_
                refine va_lald hx hb hK hP 5 1 rfl rfl (vp_in_nI (n := cc) (N := 2000) (by omega) (by omega)) d_MO_without_72 ?_
                refine W.eq (g2 := F0 m 73 ls [.long (ri cc), .ref h0, .int (nI cc), .ref (f 7)]) (by rw [nI_clamp (n := cc) (by omega)]) ?_
                refine lv_lload_n hx hb d_MO_without_73 rfl (lv_at hl 2 rfl) ?_
                refine em_call (wr := [((f 5), .inl (cI, 2000, .inl fr)), ((f 8), .inl (cL, 2000, .inr (.inl be))), ((f 30), .inl (cZ, 2000, .inl gon)), ((f 6), .inl (cI, 2000, .inl od_3)), ((f 3), .inl (cL, 2000, .inr (.inl le))), ((f 4), .inl (cL, 2000, .inr (.inl ri)))]) (em_runV (As := [.long (ri cc), .long x]) (rest := [.int (nI cc), .ref (f 7)]) ⟨hx, hb, hml, hown, hG⟩ (mo_having l D cI cL cZ cC f h0 tn rm ln lx at_ bd fs dp on os bn df th tp mo_ ev ss so lk rs pt ot cl ha1 (ri cc) x _ hha1 (rep_w hrb) hnt) (cwV 2 hG (gd_V k_1525 k_1527 k_79 k_116 k_1528) rfl rfl rfl (by decide +kernel) ⟨Nat.le_of_ble_eq_true rfl, Nat.le_of_ble_eq_true rfl⟩) (tw_V (q0 := 6) hP hD hK hE hst hS rfl rfl [6, 7] rfl (by decide)) rfl rfl hl.1 rfl (lv_room (Nat.le_of_ble_eq_true rfl)) d_MO_without_74 ⟨Nat.le_of_ble_eq_true rfl, Nat.le_of_ble_eq_true rfl⟩) hP hD hS hA [6, 7] [0, 1, 2, 3, 4, 5] rfl rfl (by decide) (by decide) (fun v u H locs hok hP hD hS => ?_) (fun x C u H locs hbad hxx hP hD hS => ?_)
                · skip
                  obtain ⟨r_117, rfl, hp_118⟩ := hok
                  have hres_119 : (((r_117 = 1 ∧ hvT ha1 x (ri cc)) ∨ (r_117 = 0 ∧ hvF ha1 x (ri cc)))) := hp_118
                  have hP : va_P D classes [((f 5), .inl (cI, 2000, .inl fr)), ((f 8), .inl (cL, 2000, .inr (.inl be))), ((f 30), .inl (cZ, 2000, .inl gon)), ((f 6), .inl (cI, 2000, .inl od_3)), ((f 3), .inl (cL, 2000, .inr (.inl le))), ((f 4), .inl (cL, 2000, .inr (.inl ri))), (h0, .inr (8, mS f tn rm ln lx at_ bd fs dp on os bn df th tp mo_ ev ss so lk rs pt ot cl)), ((f 7), .inl (cZ, 2000, .inl ha1))] H := hP
                  have hD : va_D A [((f 5), .inl (cI, 2000, .inl fr)), ((f 8), .inl (cL, 2000, .inr (.inl be))), ((f 30), .inl (cZ, 2000, .inl gon)), ((f 6), .inl (cI, 2000, .inl od_3)), ((f 3), .inl (cL, 2000, .inr (.inl le))), ((f 4), .inl (cL, 2000, .inr (.inl ri))), (h0, .inr (8, mS f tn rm ln lx at_ bd fs dp on os bn df th tp mo_ ev ss so lk rs pt ot cl)), ((f 7), .inl (cZ, 2000, .inl ha1))] := hD
                  rcases hres_119 with ⟨rfl, hy_120⟩ | ⟨rfl, hy_120⟩
                  · skip
                    refine W.eq (g2 := F0 m 77 ls [.int 1, .int (nI cc), .ref (f 7)]) rfl ?_
                    refine lv_if_eq (tgt := 84) hx hb d_MO_without_77 (by decide) (fun hbr => absurd hbr (by decide)) (fun hbr => ?_)
                    refine lv_iconst (v := 1) hx hb d_MO_without_80 (by decide) ?_
                    refine lv_goto (tgt := 85) hx hb d_MO_without_81 (by decide) ?_
                    refine va_zast hx hb hK hP hD hS 7 2 rfl rfl (vp_in_nI (n := cc) (N := 2000) (by omega) (by omega)) d_MO_without_85 (fun H locs hP hD hS => ?_)
                    have hP : va_P D classes [((f 5), .inl (cI, 2000, .inl fr)), ((f 8), .inl (cL, 2000, .inr (.inl be))), ((f 30), .inl (cZ, 2000, .inl gon)), ((f 6), .inl (cI, 2000, .inl od_3)), ((f 3), .inl (cL, 2000, .inr (.inl le))), ((f 4), .inl (cL, 2000, .inr (.inl ri))), (h0, .inr (8, mS f tn rm ln lx at_ bd fs dp on os bn df th tp mo_ ev ss so lk rs pt ot cl)), ((f 7), .inl (cZ, 2000, .inl (upd ha1 (nI cc).toNatClampNeg (vp_nar .boolean 1))))] H := hP
                    have hD : va_D A [((f 5), .inl (cI, 2000, .inl fr)), ((f 8), .inl (cL, 2000, .inr (.inl be))), ((f 30), .inl (cZ, 2000, .inl gon)), ((f 6), .inl (cI, 2000, .inl od_3)), ((f 3), .inl (cL, 2000, .inr (.inl le))), ((f 4), .inl (cL, 2000, .inr (.inl ri))), (h0, .inr (8, mS f tn rm ln lx at_ bd fs dp on os bn df th tp mo_ ev ss so lk rs pt ot cl)), ((f 7), .inl (cZ, 2000, .inl (upd ha1 (nI cc).toNatClampNeg (vp_nar .boolean 1))))] := hD
                    obtain ⟨g_121, eg_121⟩ : ∃ z, z = upd ha1 cc 1 := ⟨_, rfl⟩
                    rw [nI_clamp (n := cc) (by omega), nar_b (Or.inr rfl), ← eg_121] at hP hD
                    have hg_121 : bln g_121 := by rw [eg_121]; exact bln_ub hha1 (Or.inr rfl)
                    refine lv_iinc (k := 4) (v := nI (k - 1) - 1) (lv' := [(6, .int (nI (k - 1) - 1)), (0, .ref h0), (1, .long t), (3, .long x), (5, .int (nI (tsz T)))]) hx hb d_MO_without_86 hl rfl (dn_dec _) (Nat.le_of_ble_eq_true rfl) rfl (fun ls hl => ?_)
                    refine lv_goto (tgt := 24) hx hb d_MO_without_89 (by decide) ?_
                    have hl := lv_sub (l' := [(0, .ref h0), (1, .long t), (3, .long x), (5, .int (nI (tsz T))), (6, .int (nI (k - 1) - 1))]) hl [1, 2, 3, 4, 0] rfl
                    have hP : va_P D classes [((f 5), .inl (cI, 2000, .inl fr)), ((f 7), .inl (cZ, 2000, .inl g_121)), ((f 8), .inl (cL, 2000, .inr (.inl be))), ((f 30), .inl (cZ, 2000, .inl gon)), (h0, .inr (8, mS f tn rm ln lx at_ bd fs dp on os bn df th tp mo_ ev ss so lk rs pt ot cl)), ((f 6), .inl (cI, 2000, .inl od_3)), ((f 3), .inl (cL, 2000, .inr (.inl le))), ((f 4), .inl (cL, 2000, .inr (.inl ri)))] _ := hP.sub [0, 7, 1, 2, 6, 3, 4, 5] (wp_fm rfl)
                    have hD : va_D A [((f 5), .inl (cI, 2000, .inl fr)), ((f 7), .inl (cZ, 2000, .inl g_121)), ((f 8), .inl (cL, 2000, .inr (.inl be))), ((f 30), .inl (cZ, 2000, .inl gon)), (h0, .inr (8, mS f tn rm ln lx at_ bd fs dp on os bn df th tp mo_ ev ss so lk rs pt ot cl)), ((f 6), .inl (cI, 2000, .inl od_3)), ((f 3), .inl (cL, 2000, .inr (.inl le))), ((f 4), .inl (cL, 2000, .inr (.inl ri)))] := hD.sub [0, 7, 1, 2, 6, 3, 4, 5] (by decide) rfl
                    exact ih_9 (k - 1) g_121 _ _ _ (by omega) (by omega) (by rw [eg_121]; exact HI.up hBI hoT (by omega) (show HI ha1 S x (k - 1 + 1) (tsz T) by rw [Nat.sub_add_cancel (by omega)]; exact hH) eS (Or.inl ⟨rfl, by rw [eS]; exact Or.inr (hkb.1 hy_120)⟩)) hg_121 hl hP hD hS
                  · skip
                    refine W.eq (g2 := F0 m 77 ls [.int 0, .int (nI cc), .ref (f 7)]) rfl ?_
                    refine lv_if_eq (tgt := 84) hx hb d_MO_without_77 (by decide) (fun hbr => ?_) (fun hbr => absurd (by decide) hbr)
                    refine lv_iconst (v := 0) hx hb d_MO_without_84 (by decide) ?_
                    refine va_zast hx hb hK hP hD hS 7 2 rfl rfl (vp_in_nI (n := cc) (N := 2000) (by omega) (by omega)) d_MO_without_85 (fun H locs hP hD hS => ?_)
                    have hP : va_P D classes [((f 5), .inl (cI, 2000, .inl fr)), ((f 8), .inl (cL, 2000, .inr (.inl be))), ((f 30), .inl (cZ, 2000, .inl gon)), ((f 6), .inl (cI, 2000, .inl od_3)), ((f 3), .inl (cL, 2000, .inr (.inl le))), ((f 4), .inl (cL, 2000, .inr (.inl ri))), (h0, .inr (8, mS f tn rm ln lx at_ bd fs dp on os bn df th tp mo_ ev ss so lk rs pt ot cl)), ((f 7), .inl (cZ, 2000, .inl (upd ha1 (nI cc).toNatClampNeg (vp_nar .boolean 0))))] H := hP
                    have hD : va_D A [((f 5), .inl (cI, 2000, .inl fr)), ((f 8), .inl (cL, 2000, .inr (.inl be))), ((f 30), .inl (cZ, 2000, .inl gon)), ((f 6), .inl (cI, 2000, .inl od_3)), ((f 3), .inl (cL, 2000, .inr (.inl le))), ((f 4), .inl (cL, 2000, .inr (.inl ri))), (h0, .inr (8, mS f tn rm ln lx at_ bd fs dp on os bn df th tp mo_ ev ss so lk rs pt ot cl)), ((f 7), .inl (cZ, 2000, .inl (upd ha1 (nI cc).toNatClampNeg (vp_nar .boolean 0))))] := hD
                    obtain ⟨g_122, eg_122⟩ : ∃ z, z = upd ha1 cc 0 := ⟨_, rfl⟩
                    rw [nI_clamp (n := cc) (by omega), nar_b (Or.inl rfl), ← eg_122] at hP hD
                    have hg_122 : bln g_122 := by rw [eg_122]; exact bln_ub hha1 (Or.inl rfl)
                    refine lv_iinc (k := 4) (v := nI (k - 1) - 1) (lv' := [(6, .int (nI (k - 1) - 1)), (0, .ref h0), (1, .long t), (3, .long x), (5, .int (nI (tsz T)))]) hx hb d_MO_without_86 hl rfl (dn_dec _) (Nat.le_of_ble_eq_true rfl) rfl (fun ls hl => ?_)
                    refine lv_goto (tgt := 24) hx hb d_MO_without_89 (by decide) ?_
                    have hl := lv_sub (l' := [(0, .ref h0), (1, .long t), (3, .long x), (5, .int (nI (tsz T))), (6, .int (nI (k - 1) - 1))]) hl [1, 2, 3, 4, 0] rfl
                    have hP : va_P D classes [((f 5), .inl (cI, 2000, .inl fr)), ((f 7), .inl (cZ, 2000, .inl g_122)), ((f 8), .inl (cL, 2000, .inr (.inl be))), ((f 30), .inl (cZ, 2000, .inl gon)), (h0, .inr (8, mS f tn rm ln lx at_ bd fs dp on os bn df th tp mo_ ev ss so lk rs pt ot cl)), ((f 6), .inl (cI, 2000, .inl od_3)), ((f 3), .inl (cL, 2000, .inr (.inl le))), ((f 4), .inl (cL, 2000, .inr (.inl ri)))] _ := hP.sub [0, 7, 1, 2, 6, 3, 4, 5] (wp_fm rfl)
                    have hD : va_D A [((f 5), .inl (cI, 2000, .inl fr)), ((f 7), .inl (cZ, 2000, .inl g_122)), ((f 8), .inl (cL, 2000, .inr (.inl be))), ((f 30), .inl (cZ, 2000, .inl gon)), (h0, .inr (8, mS f tn rm ln lx at_ bd fs dp on os bn df th tp mo_ ev ss so lk rs pt ot cl)), ((f 6), .inl (cI, 2000, .inl od_3)), ((f 3), .inl (cL, 2000, .inr (.inl le))), ((f 4), .inl (cL, 2000, .inr (.inl ri)))] := hD.sub [0, 7, 1, 2, 6, 3, 4, 5] (by decide) rfl
                    exact ih_9 (k - 1) g_122 _ _ _ (by omega) (by omega) (by rw [eg_122]; exact HI.up hBI hoT (by omega) (show HI ha1 S x (k - 1 + 1) (tsz T) by rw [Nat.sub_add_cancel (by omega)]; exact hH) eS (Or.inr ⟨rfl, by rw [eS]; exact fun q => q.elim (hka.2 hy_115) (hkb.2 hy_120)⟩)) hg_122 hl hP hD hS
                · skip
                  exact hbad.elim
            · skip
              exact hbad.elim
      refine lv_iload hx hb d_MO_without_18 (lv_at hl 0 rfl) ?_
      refine lv_iconst (v := 1) hx hb d_MO_without_20 (by decide) ?_
      refine lv_isub hx hb d_MO_without_21 ?_
      refine lv_istore (lv' := [(6, .int ((nI (tsz T)) - 1)), (5, .int (nI (tsz T))), (0, .ref h0), (1, .long t), (3, .long x)]) hx hb d_MO_without_22 hl (Nat.le_of_ble_eq_true rfl) rfl (fun ls hl => ?_)
      have hl := lv_sub (l' := [(0, .ref h0), (1, .long t), (3, .long x), (5, .int (nI (tsz T))), (6, .int ((nI (tsz T)) - 1))]) hl [2, 3, 4, 1, 0] rfl
      exact loop_8 _ (tsz T) ha _ _ _ (Nat.lt_succ_self _) (by omega) (fun j q1 q2 => absurd q2 (by omega)) hha hl hP hD hS
    · skip
      exact hbad.elim
  · skip
    have hq_123 := (lg_cmp_eq _ _).mp hb_1
    refine lv_iconst (v := 2) hx hb d_MO_without_6 (by decide) ?_
    refine W.callRL (W.runS (As := [.int 2]) (rest := []) ⟨hx, hb, hml, hown, hG⟩ (mo_constant l D cI cL cZ cC 2 ) (cwS 1 hG (gd_S k_1461 k_1462 k_116 k_1463) rfl rfl rfl (by decide +kernel) ⟨Nat.le_of_ble_eq_true rfl, Nat.le_of_ble_eq_true rfl⟩) (wq_S hP hK [] rfl) rfl rfl hl.1 rfl (lv_room (Nat.le_of_ble_eq_true rfl)) d_MO_without_7 ⟨Nat.le_of_ble_eq_true rfl, Nat.le_of_ble_eq_true rfl⟩) ?_
    refine W.eq (g2 := F0 m 10 ls [.long (wof 2 2)]) rfl ?_
    exact em_lret hx hb hr hlocks hP hD hK hS (bd, fs, le, ri, fr, od, ha, be, gon) [0, 1, 2, 3, 4, 5, 6, 7] (by decide) rfl ⟨_, rfl, ⟨hfr, hha, hgon, (show bd = 0 → bd = 0 from (by first | exact id | exact (fun q => absurd q (by assumption)) | exact (id))), (show bdo bd from (by first | assumption | omega | exact Or.inl rfl)), (show ∀ d, gon d = 0 from hg), (show (bd = 0 → ∃ T' : Tr, rep le ri (wof 2 2 : Int64) T' ∧ okT Pk T' ∧ (∀ d, fo fr fs d + (toc T') d ≤ fo fr fs d + toc T d) ∧ (∀ d, fo fr fs d + toc T d = 0 → le d = le d ∧ ri d = ri d)) from (fun _ => ⟨Lean.RArray.leaf (wof 2 2), (rep_lf (by rw [wkind_of]; decide)), (hcon 2 (by decide) (by decide)), (by intro d; have a0 := ho d; have a1 := (Tr.occ_lf (wof 2 2)) d; omega), (fun d _ => ⟨rfl, rfl⟩)⟩))⟩⟩ d_MO_without_10
