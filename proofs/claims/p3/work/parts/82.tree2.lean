set_option maxHeartbeats 8000000 in
set_option maxRecDepth 100000 in
theorem mo_combined (l : Launch) (D : va_G) (cI cL cZ cC : ClassId) (f : Nat → Nat) (h0 : Nat) (tn : Int32) (rm : Nat) (ln : Nat) (lx : Nat) (at_ : Nat) (bd : Int32) (fs : Nat) (dp : Nat) (on : Nat) (os : Nat) (bn : Nat) (df : Nat) (th : Int32) (tp : Nat) (mo_ : Int32) (ev : Nat) (ss : Int32) (so : Int32) (lk : Int64) (rs : Int64) (pt : Int32) (ot : Nat) (cl : Int32) (le : Nat → Int64) (ri : Nat → Int64) (fr : Nat → Int32) (T1 : Tr) (T2 : Tr) (Pk : Int64 → Prop) (a : Int64) (b : Int64) (sz : Nat) (hfr : rng 2000 fr) (h1 : rep le ri a T1) (h2 : rep le ri b T2) (ho : ∀ d, fo fr fs d + (toc T1) d + (toc T2) d ≤ 1) (hk1 : okT Pk T1) (hk2 : okT Pk T2) (hcon : ∀ c : Nat, 2 ≤ c → c ≤ 22 → Pk (wof 2 (nI c))) (hbo : bdo bd) (hnt : l.stackTraces = false) : em_Met l y_MO_combined (wz y_MO_combined b_MO_combined 16 (some .long)) ({ frames := 3, cells := 0, slots := 0, locals := 66 }) (va_Pc [.ref h0, .long a, .long b] (tw_pre D (tys4 cI cL cZ cC) [(h0, .inr (8, mS f tn rm ln lx at_ bd fs dp on os bn df th tp mo_ ev ss so lk rs pt ot cl)), ((f 3), .inl (cL, 2000, .inr (.inl le))), ((f 4), .inl (cL, 2000, .inr (.inl ri))), ((f 5), .inl (cI, 2000, .inl fr))] sz)) D (tys4 cI cL cZ cC) (va_A [(h0, .inr (8, mS f tn rm ln lx at_ bd fs dp on os bn df th tp mo_ ev ss so lk rs pt ot cl)), ((f 3), .inl (cL, 2000, .inr (.inl le))), ((f 4), .inl (cL, 2000, .inr (.inl ri))), ((f 5), .inl (cI, 2000, .inl fr))] sz) (fun (u : Int32 × Nat × (Nat → Int64) × (Nat → Int64) × (Nat → Int32)) => [(h0, .inr (8, mS f tn rm ln lx at_ u.1 u.2.1 dp on os bn df th tp mo_ ev ss so lk rs pt ot cl)), ((f 3), .inl (cL, 2000, .inr (.inl u.2.2.1))), ((f 4), .inl (cL, 2000, .inr (.inl u.2.2.2.1))), ((f 5), .inl (cI, 2000, .inl u.2.2.2.2))]) (fun v (u : Int32 × Nat × (Nat → Int64) × (Nat → Int64) × (Nat → Int32)) => ∃ r : Int64, v = some (.long r) ∧ ((rng 2000 u.2.2.2.2) ∧ (u.1 = 0 → bd = 0) ∧ (bdo u.1) ∧ (∃ T' : Tr, rep u.2.2.1 u.2.2.2.1 r T' ∧ okT Pk T' ∧ (∀ d, fo u.2.2.2.2 u.2.1 d + (toc T') d ≤ fo fr fs d + (toc T1 d + toc T2 d)) ∧ (∀ d, fo fr fs d + (toc T1 d + toc T2 d) = 0 → u.2.2.1 d = le d ∧ u.2.2.2.1 d = ri d)))) (fun C (u : Int32 × Nat × (Nat → Int64) × (Nat → Int64) × (Nat → Int32)) => False) 0 0 := by
  refine em_Met.ofW (cc := b_MO_combined) (maxL := 16) (ret := (some .long)) (by decide) rfl ?_
  intro p e s m args below meth c s₁ B hml hv hno
  obtain ⟨rfl, ⟨hsz, hP, hK, hD0⟩, hE⟩ := hv
  have hx := B.exec
  have hb := B.bytes
  have hr := B.returns
  have hts := atoms_spec (ws := wz y_MO_combined b_MO_combined 16 (some .long)) B.pre
  have hG := wz_G hts
  have hown : s.vm.findClass rn_MO = some m.cls := findClass_of_methodNamed B.named
  have hlocks := B.notSynchronized
  subst hsz
  have hD := hD0.self (sz := s.heap.size)
  have hst := tw_st hP
  generalize hAe : va_A [(h0, .inr (8, mS f tn rm ln lx at_ bd fs dp on os bn df th tp mo_ ev ss so lk rs pt ot cl)), ((f 3), .inl (cL, 2000, .inr (.inl le))), ((f 4), .inl (cL, 2000, .inr (.inl ri))), ((f 5), .inl (cI, 2000, .inl fr))] s.heap.size = A at hD hst ⊢
  have hA : ∀ q : Nat, s.heap.size ≤ q → A q := fun q h => by rw [← hAe]; exact Or.inr h
  have hS : va_S A s.heap s.heap [] := va_S.rf
  have hl := lv_entry ([.ref h0, .long a, .long b]) (n := 16) (Nat.le_of_ble_eq_true rfl)
  rw [lg_entry_eq]
  generalize (lg_sl ([.ref h0, .long a, .long b]) ++ List.replicate (16 - (lg_sl ([.ref h0, .long a, .long b])).length) Slot.unset).toArray = ls at hl ⊢
  have hl : lv_has ls 16 [(0, .ref h0), (1, .long a), (3, .long b)] := hl
  refine lv_aload_n hx hb d_MO_combined_0 rfl (lv_at hl 0 rfl) ?_
  refine lv_lload_n hx hb d_MO_combined_1 rfl (lv_at hl 1 rfl) ?_
  refine lv_iconst (v := 3) hx hb d_MO_combined_2 (by decide) ?_
  refine em_call (wr := [((f 5), .inl (cI, 2000, .inl fr))]) (em_runV (As := [.long a, .int 3]) (rest := []) ⟨hx, hb, hml, hown, hG⟩ (mo_isApplied l D cI cL cZ cC f h0 tn rm ln lx at_ bd fs dp on os bn df th tp mo_ ev ss so lk rs pt ot cl le ri T1 a 3 _ h1 hnt) (cwV 2 hG (gd_V k_1541 k_1543 k_83 k_116 k_1544) rfl rfl rfl (by decide +kernel) ⟨Nat.le_of_ble_eq_true rfl, Nat.le_of_ble_eq_true rfl⟩) (tw_V (q0 := 0) hP hD hK hE hst hS rfl rfl [0, 1, 2] rfl (by decide)) rfl rfl hl.1 rfl (lv_room (Nat.le_of_ble_eq_true rfl)) d_MO_combined_3 ⟨Nat.le_of_ble_eq_true rfl, Nat.le_of_ble_eq_true rfl⟩) hP hD hS hA [0, 1, 2] [3] rfl rfl (by decide) (by decide) (fun v u H locs hok hP hD hS => ?_) (fun x C u H locs hbad hxx hP hD hS => ?_)
  · skip
    obtain ⟨r_1, rfl, hp_2⟩ := hok
    have hres_3 : ((r_1 = 0 ∨ (r_1 = 1 ∧ ∃ (cc : Nat) (tb : Tr), T1 = Lean.RArray.branch cc (Lean.RArray.leaf (wof 2 3)) tb ∧ a.toInt32 = nI cc ∧ cc < 2000 ∧ rep le ri (ri cc) tb))) := hp_2
    have hP : va_P D classes [((f 5), .inl (cI, 2000, .inl fr)), (h0, .inr (8, mS f tn rm ln lx at_ bd fs dp on os bn df th tp mo_ ev ss so lk rs pt ot cl)), ((f 3), .inl (cL, 2000, .inr (.inl le))), ((f 4), .inl (cL, 2000, .inr (.inl ri)))] H := hP
    have hD : va_D A [((f 5), .inl (cI, 2000, .inl fr)), (h0, .inr (8, mS f tn rm ln lx at_ bd fs dp on os bn df th tp mo_ ev ss so lk rs pt ot cl)), ((f 3), .inl (cL, 2000, .inr (.inl le))), ((f 4), .inl (cL, 2000, .inr (.inl ri)))] := hD
    rcases hres_3 with rfl | ⟨rfl, hy_4⟩
    · skip
      refine W.eq (g2 := F0 m 6 ls [.int 0]) rfl ?_
      refine lv_istore (lv' := [(5, .int 0), (0, .ref h0), (1, .long a), (3, .long b)]) hx hb d_MO_combined_6 hl (Nat.le_of_ble_eq_true rfl) rfl (fun ls hl => ?_)
      refine lv_aload_n hx hb d_MO_combined_8 rfl (lv_at hl 1 rfl) ?_
      refine lv_lload_n hx hb d_MO_combined_9 rfl (lv_at hl 3 rfl) ?_
      refine lv_iconst (v := 3) hx hb d_MO_combined_10 (by decide) ?_
      refine em_call (wr := [((f 5), .inl (cI, 2000, .inl fr))]) (em_runV (As := [.long b, .int 3]) (rest := []) ⟨hx, hb, hml, hown, hG⟩ (mo_isApplied l D cI cL cZ cC f h0 tn rm ln lx at_ bd fs dp on os bn df th tp mo_ ev ss so lk rs pt ot cl le ri T2 b 3 _ h2 hnt) (cwV 2 hG (gd_V k_1541 k_1543 k_83 k_116 k_1544) rfl rfl rfl (by decide +kernel) ⟨Nat.le_of_ble_eq_true rfl, Nat.le_of_ble_eq_true rfl⟩) (tw_V (q0 := 1) hP hD hK hE hst hS rfl rfl [1, 2, 3] rfl (by decide)) rfl rfl hl.1 rfl (lv_room (Nat.le_of_ble_eq_true rfl)) d_MO_combined_11 ⟨Nat.le_of_ble_eq_true rfl, Nat.le_of_ble_eq_true rfl⟩) hP hD hS hA [1, 2, 3] [0] rfl rfl (by decide) (by decide) (fun v u H locs hok hP hD hS => ?_) (fun x C u H locs hbad hxx hP hD hS => ?_)
      · skip
        obtain ⟨r_5, rfl, hp_6⟩ := hok
        have hres_7 : ((r_5 = 0 ∨ (r_5 = 1 ∧ ∃ (cc : Nat) (tb : Tr), T2 = Lean.RArray.branch cc (Lean.RArray.leaf (wof 2 3)) tb ∧ b.toInt32 = nI cc ∧ cc < 2000 ∧ rep le ri (ri cc) tb))) := hp_6
        have hP : va_P D classes [((f 5), .inl (cI, 2000, .inl fr)), (h0, .inr (8, mS f tn rm ln lx at_ bd fs dp on os bn df th tp mo_ ev ss so lk rs pt ot cl)), ((f 3), .inl (cL, 2000, .inr (.inl le))), ((f 4), .inl (cL, 2000, .inr (.inl ri)))] H := hP
        have hD : va_D A [((f 5), .inl (cI, 2000, .inl fr)), (h0, .inr (8, mS f tn rm ln lx at_ bd fs dp on os bn df th tp mo_ ev ss so lk rs pt ot cl)), ((f 3), .inl (cL, 2000, .inr (.inl le))), ((f 4), .inl (cL, 2000, .inr (.inl ri)))] := hD
        rcases hres_7 with rfl | ⟨rfl, hy_8⟩
        · skip
          refine W.eq (g2 := F0 m 14 ls [.int 0]) rfl ?_
          refine lv_istore (lv' := [(6, .int 0), (5, .int 0), (0, .ref h0), (1, .long a), (3, .long b)]) hx hb d_MO_combined_14 hl (Nat.le_of_ble_eq_true rfl) rfl (fun ls hl => ?_)
          refine lv_iload hx hb d_MO_combined_16 (lv_at hl 1 rfl) ?_
          refine lv_if_eq (tgt := 33) hx hb d_MO_combined_18 (by decide) (fun hbr => ?_) (fun hbr => absurd (by decide) hbr)
          refine lv_lconst (v := 0) hx hb d_MO_combined_33 (by decide) ?_
          refine lv_lstore (lv' := [(7, .long 0), (6, .int 0), (5, .int 0), (0, .ref h0), (1, .long a), (3, .long b)]) hx hb d_MO_combined_34 hl (Nat.le_of_ble_eq_true rfl) rfl (fun ls hl => ?_)
          refine lv_iload hx hb d_MO_combined_36 (lv_at hl 1 rfl) ?_
          refine lv_if_eq (tgt := 53) hx hb d_MO_combined_38 (by decide) (fun hbr => ?_) (fun hbr => absurd (by decide) hbr)
          refine lv_lconst (v := 0) hx hb d_MO_combined_53 (by decide) ?_
          refine lv_lstore (lv' := [(9, .long 0), (7, .long 0), (6, .int 0), (5, .int 0), (0, .ref h0), (1, .long a), (3, .long b)]) hx hb d_MO_combined_54 hl (Nat.le_of_ble_eq_true rfl) rfl (fun ls hl => ?_)
          refine lv_lload_n hx hb d_MO_combined_56 rfl (lv_at hl 5 rfl) ?_
          refine W.callR (W.runS (As := [.long a]) (rest := []) ⟨hx, hb, hml, hown, hG⟩ (mo_kindOf l D cI cL cZ cC a ) (cwS 1 hG (gd_S k_1519 k_1520 k_116 k_1521) rfl rfl rfl (by decide +kernel) ⟨Nat.le_of_ble_eq_true rfl, Nat.le_of_ble_eq_true rfl⟩) (wq_S hP hK [] rfl) rfl rfl hl.1 rfl (lv_room (Nat.le_of_ble_eq_true rfl)) d_MO_combined_57 ⟨Nat.le_of_ble_eq_true rfl, Nat.le_of_ble_eq_true rfl⟩) ?_
          refine W.eq (g2 := F0 m 60 ls [.int (wkind a)]) rfl ?_
          refine lv_iconst (v := 3) hx hb d_MO_combined_60 (by decide) ?_
          refine lv_icmp_ne (tgt := 85) hx hb d_MO_combined_61 (by decide) (fun hb_9 => ?_) (fun hb_9 => ?_)
          · skip
            refine lv_iconst (v := 0) hx hb d_MO_combined_85 (by decide) ?_
            refine lv_istore (lv' := [(11, .int 0), (9, .long 0), (7, .long 0), (6, .int 0), (5, .int 0), (0, .ref h0), (1, .long a), (3, .long b)]) hx hb d_MO_combined_86 hl (Nat.le_of_ble_eq_true rfl) rfl (fun ls hl => ?_)
            refine lv_iload hx hb d_MO_combined_88 (lv_at hl 4 rfl) ?_
            refine lv_if_eq (tgt := 98) hx hb d_MO_combined_90 (by decide) (fun hbr => ?_) (fun hbr => absurd (by decide) hbr)
            refine lv_iload hx hb d_MO_combined_98 (lv_at hl 3 rfl) ?_
            refine lv_if_eq (tgt := 118) hx hb d_MO_combined_100 (by decide) (fun hbr => ?_) (fun hbr => absurd (by decide) hbr)
            refine lv_iload hx hb d_MO_combined_118 (lv_at hl 4 rfl) ?_
            refine lv_if_eq (tgt := 145) hx hb d_MO_combined_120 (by decide) (fun hbr => ?_) (fun hbr => absurd (by decide) hbr)
            refine lv_iload hx hb d_MO_combined_145 (lv_at hl 4 rfl) ?_
            refine lv_if_eq (tgt := 162) hx hb d_MO_combined_147 (by decide) (fun hbr => ?_) (fun hbr => absurd (by decide) hbr)
            refine lv_iload hx hb d_MO_combined_162 (lv_at hl 4 rfl) ?_
            refine lv_if_eq (tgt := 229) hx hb d_MO_combined_164 (by decide) (fun hbr => ?_) (fun hbr => absurd (by decide) hbr)
            refine lv_iload hx hb d_MO_combined_229 (lv_at hl 4 rfl) ?_
            refine lv_if_eq (tgt := 250) hx hb d_MO_combined_231 (by decide) (fun hbr => ?_) (fun hbr => absurd (by decide) hbr)
            refine lv_iload hx hb d_MO_combined_250 (lv_at hl 0 rfl) ?_
            refine lv_if_ne (tgt := 304) hx hb d_MO_combined_252 (by decide) (fun hbr => absurd (by decide) hbr) (fun hbr => ?_)
            refine lv_iload hx hb d_MO_combined_255 (lv_at hl 3 rfl) ?_
            refine lv_if_eq (tgt := 265) hx hb d_MO_combined_257 (by decide) (fun hbr => ?_) (fun hbr => absurd (by decide) hbr)
            refine lv_iload hx hb d_MO_combined_265 (lv_at hl 3 rfl) ?_
            refine lv_if_eq (tgt := 289) hx hb d_MO_combined_267 (by decide) (fun hbr => ?_) (fun hbr => absurd (by decide) hbr)
            refine lv_aload_n hx hb d_MO_combined_289 rfl (lv_at hl 5 rfl) ?_
            refine lv_aload_n hx hb d_MO_combined_290 rfl (lv_at hl 5 rfl) ?_
            refine lv_iconst (v := 4) hx hb d_MO_combined_291 (by decide) ?_
            refine W.callRL (W.runS (As := [.int 4]) (rest := [.ref h0, .ref h0]) ⟨hx, hb, hml, hown, hG⟩ (mo_constant l D cI cL cZ cC 4 ) (cwS 1 hG (gd_S k_1461 k_1462 k_116 k_1463) rfl rfl rfl (by decide +kernel) ⟨Nat.le_of_ble_eq_true rfl, Nat.le_of_ble_eq_true rfl⟩) (wq_S hP hK [] rfl) rfl rfl hl.1 rfl (lv_room (Nat.le_of_ble_eq_true rfl)) d_MO_combined_292 ⟨Nat.le_of_ble_eq_true rfl, Nat.le_of_ble_eq_true rfl⟩) ?_
            refine W.eq (g2 := F0 m 295 ls [.long (wof 2 4), .ref h0, .ref h0]) rfl ?_
            refine lv_lload_n hx hb d_MO_combined_295 rfl (lv_at hl 6 rfl) ?_
            refine em_call (wr := []) (em_runV (As := [.long (wof 2 4), .long a]) (rest := [.ref h0]) ⟨hx, hb, hml, hown, hG⟩ (mo_apply l D cI cL cZ cC f h0 tn rm ln lx at_ bd fs dp on os bn df th tp mo_ ev ss so lk rs pt ot cl le ri fr (Lean.RArray.leaf (wof 2 4)) T1 Pk (wof 2 4) a _ hfr (rep_lf (by rw [wkind_of]; decide)) h1 (by intro d; have a0 := ho d; have a1 := (Tr.occ_lf (wof 2 4)) d; omega) (hcon 4 (by decide) (by decide)) hk1 (hcon 2 (by decide) (by decide)) (by first | assumption | omega | exact Or.inl rfl) hnt) (cwV 2 hG (gd_V k_1457 k_1459 k_67 k_116 k_1460) rfl rfl rfl (by decide +kernel) ⟨Nat.le_of_ble_eq_true rfl, Nat.le_of_ble_eq_true rfl⟩) (tw_V (q0 := 1) hP hD hK hE hst hS rfl rfl [1, 2, 3, 0] rfl (by decide)) rfl rfl hl.1 rfl (lv_room (Nat.le_of_ble_eq_true rfl)) d_MO_combined_296 ⟨Nat.le_of_ble_eq_true rfl, Nat.le_of_ble_eq_true rfl⟩) hP hD hS hA [1, 2, 3, 0] [] rfl rfl (by decide) (by decide) (fun v u H locs hok hP hD hS => ?_) (fun x C u H locs hbad hxx hP hD hS => ?_)
            · skip
              obtain ⟨bd_10, fs_11, le_12, ri_13⟩ := u
              obtain ⟨r_14, rfl, hp_15⟩ := hok
              obtain ⟨hbz_16, hbo_17, hres_18⟩ : (bd_10 = 0 → bd = 0) ∧ (bdo bd_10) ∧ (∃ T' : Tr, rep le_12 ri_13 r_14 T' ∧ okT Pk T' ∧ (∀ d, fo fr fs_11 d + (toc T') d ≤ fo fr fs d + (toc (Lean.RArray.leaf (wof 2 4)) d + toc T1 d)) ∧ (∀ d, fo fr fs d + (toc (Lean.RArray.leaf (wof 2 4)) d + toc T1 d) = 0 → le_12 d = le d ∧ ri_13 d = ri d)) := hp_15
              obtain ⟨T_19, hR_20, hK_21, hF_22, hA_23⟩ := hres_18
              have hR_24 : rep le_12 ri_13 b T2 := rep_fr h2 (fun d hd => hA_23 d (by have a0 := ho d; have a1 := (Tr.occ_lf (wof 2 4)) d; have a2 := hF_22 d; omega))
              have hP : va_P D classes [(h0, .inr (8, mS f tn rm ln lx at_ bd_10 fs_11 dp on os bn df th tp mo_ ev ss so lk rs pt ot cl)), ((f 3), .inl (cL, 2000, .inr (.inl le_12))), ((f 4), .inl (cL, 2000, .inr (.inl ri_13))), ((f 5), .inl (cI, 2000, .inl fr))] H := hP
              have hD : va_D A [(h0, .inr (8, mS f tn rm ln lx at_ bd_10 fs_11 dp on os bn df th tp mo_ ev ss so lk rs pt ot cl)), ((f 3), .inl (cL, 2000, .inr (.inl le_12))), ((f 4), .inl (cL, 2000, .inr (.inl ri_13))), ((f 5), .inl (cI, 2000, .inl fr))] := hD
              refine W.eq (g2 := F0 m 299 ls [.long r_14, .ref h0]) rfl ?_
              refine lv_lload_n hx hb d_MO_combined_299 rfl (lv_at hl 7 rfl) ?_
              refine em_call (wr := []) (em_runV (As := [.long r_14, .long b]) (rest := []) ⟨hx, hb, hml, hown, hG⟩ (mo_apply l D cI cL cZ cC f h0 tn rm ln lx at_ bd_10 fs_11 dp on os bn df th tp mo_ ev ss so lk rs pt ot cl le_12 ri_13 fr T_19 T2 Pk r_14 b _ hfr hR_20 hR_24 (by intro d; have a0 := ho d; have a1 := (Tr.occ_lf (wof 2 4)) d; have a2 := hF_22 d; omega) hK_21 hk2 (hcon 2 (by decide) (by decide)) (by first | assumption | omega | exact Or.inl rfl) hnt) (cwV 2 hG (gd_V k_1457 k_1459 k_67 k_116 k_1460) rfl rfl rfl (by decide +kernel) ⟨Nat.le_of_ble_eq_true rfl, Nat.le_of_ble_eq_true rfl⟩) (tw_V (q0 := 0) hP hD hK hE hst hS rfl rfl [0, 1, 2, 3] rfl (by decide)) rfl rfl hl.1 rfl (lv_room (Nat.le_of_ble_eq_true rfl)) d_MO_combined_300 ⟨Nat.le_of_ble_eq_true rfl, Nat.le_of_ble_eq_true rfl⟩) hP hD hS hA [0, 1, 2, 3] [] rfl rfl (by decide) (by decide) (fun v u H locs hok hP hD hS => ?_) (fun x C u H locs hbad hxx hP hD hS => ?_)
              · skip
                obtain ⟨bd_25, fs_26, le_27, ri_28⟩ := u
                obtain ⟨r_29, rfl, hp_30⟩ := hok
                obtain ⟨hbz_31, hbo_32, hres_33⟩ : (bd_25 = 0 → bd_10 = 0) ∧ (bdo bd_25) ∧ (∃ T' : Tr, rep le_27 ri_28 r_29 T' ∧ okT Pk T' ∧ (∀ d, fo fr fs_26 d + (toc T') d ≤ fo fr fs_11 d + (toc T_19 d + toc T2 d)) ∧ (∀ d, fo fr fs_11 d + (toc T_19 d + toc T2 d) = 0 → le_27 d = le_12 d ∧ ri_28 d = ri_13 d)) := hp_30
                obtain ⟨T_34, hR_35, hK_36, hF_37, hA_38⟩ := hres_33
                have hP : va_P D classes [(h0, .inr (8, mS f tn rm ln lx at_ bd_25 fs_26 dp on os bn df th tp mo_ ev ss so lk rs pt ot cl)), ((f 3), .inl (cL, 2000, .inr (.inl le_27))), ((f 4), .inl (cL, 2000, .inr (.inl ri_28))), ((f 5), .inl (cI, 2000, .inl fr))] H := hP
                have hD : va_D A [(h0, .inr (8, mS f tn rm ln lx at_ bd_25 fs_26 dp on os bn df th tp mo_ ev ss so lk rs pt ot cl)), ((f 3), .inl (cL, 2000, .inr (.inl le_27))), ((f 4), .inl (cL, 2000, .inr (.inl ri_28))), ((f 5), .inl (cI, 2000, .inl fr))] := hD
                refine W.eq (g2 := F0 m 303 ls [.long r_29]) rfl ?_
                exact em_lret hx hb hr hlocks hP hD hK hS (bd_25, fs_26, le_27, ri_28, fr) [0, 1, 2, 3] (by decide) rfl ⟨_, rfl, ⟨hfr, (show bd_25 = 0 → bd = 0 from (by first | exact id | exact (fun q => absurd q (by assumption)) | exact (fun q => hbz_16 (hbz_31 q)))), (show bdo bd_25 from (by first | assumption | omega | exact Or.inl rfl)), (show ∃ T' : Tr, rep le_27 ri_28 (r_29 : Int64) T' ∧ okT Pk T' ∧ (∀ d, fo fr fs_26 d + (toc T') d ≤ fo fr fs d + (toc T1 d + toc T2 d)) ∧ (∀ d, fo fr fs d + (toc T1 d + toc T2 d) = 0 → le_27 d = le d ∧ ri_28 d = ri d) from ⟨T_34, hR_35, hK_36, (by intro d; have a0 := ho d; have a1 := (Tr.occ_lf (wof 2 4)) d; have a2 := hF_22 d; have a3 := hF_37 d; omega), (fun d hd => by have a0 := ho d; have a1 := (Tr.occ_lf (wof 2 4)) d; have a2 := hF_22 d; have a3 := hF_37 d; have g0 := hA_23 d (by omega); have g1 := hA_38 d (by omega); exact ⟨by rw [g1.1, g0.1], by rw [g1.2, g0.2]⟩)⟩)⟩⟩ d_MO_combined_303
              · skip
                exact hbad.elim
            · skip
              exact hbad.elim
          · skip
            obtain ⟨cp, ta, tb, eT1, ecp, hcp, hra, hrb⟩ := rep_cell h1 hb_9
            have hoT1 : ∀ d, toc T1 d = i1 d cp + toc ta d + toc tb d := fun d => by rw [eT1, Tr.occ_nd]
            have hkab : okT Pk ta ∧ okT Pk tb := by have hh := hk1; rw [eT1] at hh; exact hh
            refine lv_aload_n hx hb d_MO_combined_64 rfl (lv_at hl 4 rfl) ?_
            refine lv_aload_n hx hb d_MO_combined_65 rfl (lv_at hl 4 rfl) ?_
            refine va_get (D := D) (ci := 8) (v := .ref (f 3)) (C := rn_MO) (T := fl_MO) (N := 55) hx hb hG in_MO hown hK hP 1 rfl rfl 9 (by decide) (hG _ k_1200) (fun _ h9 => h9) rfl d_MO_combined_66 ?_
            refine lv_lload_n hx hb d_MO_combined_69 rfl (lv_at hl 5 rfl) ?_
            refine W.callR (W.runS (As := [.long a]) (rest := [.ref (f 3), .ref h0]) ⟨hx, hb, hml, hown, hG⟩ (mo_valueOf l D cI cL cZ cC a ) (cwS 1 hG (gd_S k_1522 k_1523 k_116 k_1524) rfl rfl rfl (by decide +kernel) ⟨Nat.le_of_ble_eq_true rfl, Nat.le_of_ble_eq_true rfl⟩) (wq_S hP hK [] rfl) rfl rfl hl.1 rfl (lv_room (Nat.le_of_ble_eq_true rfl)) d_MO_combined_70 ⟨Nat.le_of_ble_eq_true rfl, Nat.le_of_ble_eq_true rfl⟩) ?_
            refine W.eq (g2 := F0 m 73 ls [.int a.toInt32, .ref (f 3), .ref h0]) rfl ?_
            refine W.eq (g2 := F0 m 73 ls [.int (nI cp), .ref (f 3), .ref h0]) (by rw [ecp]) ?_
            refine va_lald hx hb hK hP 2 1 rfl rfl (vp_in_nI (n := cp) (N := 2000) (by omega) (by omega)) d_MO_combined_73 ?_
            refine W.eq (g2 := F0 m 74 ls [.long (le cp), .ref h0]) (by rw [nI_clamp (n := cp) (by omega)]) ?_
            refine lv_iconst (v := 5) hx hb d_MO_combined_74 (by decide) ?_
            refine em_call (wr := [((f 5), .inl (cI, 2000, .inl fr))]) (em_runV (As := [.long (le cp), .int 5]) (rest := []) ⟨hx, hb, hml, hown, hG⟩ (mo_isApplied l D cI cL cZ cC f h0 tn rm ln lx at_ bd fs dp on os bn df th tp mo_ ev ss so lk rs pt ot cl le ri ta (le cp) 5 _ hra hnt) (cwV 2 hG (gd_V k_1541 k_1543 k_83 k_116 k_1544) rfl rfl rfl (by decide +kernel) ⟨Nat.le_of_ble_eq_true rfl, Nat.le_of_ble_eq_true rfl⟩) (tw_V (q0 := 1) hP hD hK hE hst hS rfl rfl [1, 2, 3] rfl (by decide)) rfl rfl hl.1 rfl (lv_room (Nat.le_of_ble_eq_true rfl)) d_MO_combined_75 ⟨Nat.le_of_ble_eq_true rfl, Nat.le_of_ble_eq_true rfl⟩) hP hD hS hA [1, 2, 3] [0] rfl rfl (by decide) (by decide) (fun v u H locs hok hP hD hS => ?_) (fun x C u H locs hbad hxx hP hD hS => ?_)
            · skip
              obtain ⟨r_39, rfl, hp_40⟩ := hok
              have hres_41 : ((r_39 = 0 ∨ (r_39 = 1 ∧ ∃ (cc : Nat) (tb : Tr), ta = Lean.RArray.branch cc (Lean.RArray.leaf (wof 2 5)) tb ∧ (le cp).toInt32 = nI cc ∧ cc < 2000 ∧ rep le ri (ri cc) tb))) := hp_40
              have hP : va_P D classes [((f 5), .inl (cI, 2000, .inl fr)), (h0, .inr (8, mS f tn rm ln lx at_ bd fs dp on os bn df th tp mo_ ev ss so lk rs pt ot cl)), ((f 3), .inl (cL, 2000, .inr (.inl le))), ((f 4), .inl (cL, 2000, .inr (.inl ri)))] H := hP
              have hD : va_D A [((f 5), .inl (cI, 2000, .inl fr)), (h0, .inr (8, mS f tn rm ln lx at_ bd fs dp on os bn df th tp mo_ ev ss so lk rs pt ot cl)), ((f 3), .inl (cL, 2000, .inr (.inl le))), ((f 4), .inl (cL, 2000, .inr (.inl ri)))] := hD
              rcases hres_41 with rfl | ⟨rfl, hy_42⟩
              · skip
                refine W.eq (g2 := F0 m 78 ls [.int 0]) rfl ?_
                refine lv_if_eq (tgt := 85) hx hb d_MO_combined_78 (by decide) (fun hbr => ?_) (fun hbr => absurd (by decide) hbr)
                refine lv_iconst (v := 0) hx hb d_MO_combined_85 (by decide) ?_
                refine lv_istore (lv' := [(11, .int 0), (9, .long 0), (7, .long 0), (6, .int 0), (5, .int 0), (0, .ref h0), (1, .long a), (3, .long b)]) hx hb d_MO_combined_86 hl (Nat.le_of_ble_eq_true rfl) rfl (fun ls hl => ?_)
                refine lv_iload hx hb d_MO_combined_88 (lv_at hl 4 rfl) ?_
                refine lv_if_eq (tgt := 98) hx hb d_MO_combined_90 (by decide) (fun hbr => ?_) (fun hbr => absurd (by decide) hbr)
                refine lv_iload hx hb d_MO_combined_98 (lv_at hl 3 rfl) ?_
                refine lv_if_eq (tgt := 118) hx hb d_MO_combined_100 (by decide) (fun hbr => ?_) (fun hbr => absurd (by decide) hbr)
                refine lv_iload hx hb d_MO_combined_118 (lv_at hl 4 rfl) ?_
                refine lv_if_eq (tgt := 145) hx hb d_MO_combined_120 (by decide) (fun hbr => ?_) (fun hbr => absurd (by decide) hbr)
                refine lv_iload hx hb d_MO_combined_145 (lv_at hl 4 rfl) ?_
                refine lv_if_eq (tgt := 162) hx hb d_MO_combined_147 (by decide) (fun hbr => ?_) (fun hbr => absurd (by decide) hbr)
                refine lv_iload hx hb d_MO_combined_162 (lv_at hl 4 rfl) ?_
                refine lv_if_eq (tgt := 229) hx hb d_MO_combined_164 (by decide) (fun hbr => ?_) (fun hbr => absurd (by decide) hbr)
                refine lv_iload hx hb d_MO_combined_229 (lv_at hl 4 rfl) ?_
                refine lv_if_eq (tgt := 250) hx hb d_MO_combined_231 (by decide) (fun hbr => ?_) (fun hbr => absurd (by decide) hbr)
                refine lv_iload hx hb d_MO_combined_250 (lv_at hl 0 rfl) ?_
                refine lv_if_ne (tgt := 304) hx hb d_MO_combined_252 (by decide) (fun hbr => absurd (by decide) hbr) (fun hbr => ?_)
                refine lv_iload hx hb d_MO_combined_255 (lv_at hl 3 rfl) ?_
                refine lv_if_eq (tgt := 265) hx hb d_MO_combined_257 (by decide) (fun hbr => ?_) (fun hbr => absurd (by decide) hbr)
                refine lv_iload hx hb d_MO_combined_265 (lv_at hl 3 rfl) ?_
                refine lv_if_eq (tgt := 289) hx hb d_MO_combined_267 (by decide) (fun hbr => ?_) (fun hbr => absurd (by decide) hbr)
                refine lv_aload_n hx hb d_MO_combined_289 rfl (lv_at hl 5 rfl) ?_
                refine lv_aload_n hx hb d_MO_combined_290 rfl (lv_at hl 5 rfl) ?_
                refine lv_iconst (v := 4) hx hb d_MO_combined_291 (by decide) ?_
                refine W.callRL (W.runS (As := [.int 4]) (rest := [.ref h0, .ref h0]) ⟨hx, hb, hml, hown, hG⟩ (mo_constant l D cI cL cZ cC 4 ) (cwS 1 hG (gd_S k_1461 k_1462 k_116 k_1463) rfl rfl rfl (by decide +kernel) ⟨Nat.le_of_ble_eq_true rfl, Nat.le_of_ble_eq_true rfl⟩) (wq_S hP hK [] rfl) rfl rfl hl.1 rfl (lv_room (Nat.le_of_ble_eq_true rfl)) d_MO_combined_292 ⟨Nat.le_of_ble_eq_true rfl, Nat.le_of_ble_eq_true rfl⟩) ?_
                refine W.eq (g2 := F0 m 295 ls [.long (wof 2 4), .ref h0, .ref h0]) rfl ?_
                refine lv_lload_n hx hb d_MO_combined_295 rfl (lv_at hl 6 rfl) ?_
                refine em_call (wr := []) (em_runV (As := [.long (wof 2 4), .long a]) (rest := [.ref h0]) ⟨hx, hb, hml, hown, hG⟩ (mo_apply l D cI cL cZ cC f h0 tn rm ln lx at_ bd fs dp on os bn df th tp mo_ ev ss so lk rs pt ot cl le ri fr (Lean.RArray.leaf (wof 2 4)) T1 Pk (wof 2 4) a _ hfr (rep_lf (by rw [wkind_of]; decide)) h1 (by intro d; have a0 := ho d; have a1 := hoT1 d; have a2 := (Tr.occ_lf (wof 2 4)) d; omega) (hcon 4 (by decide) (by decide)) hk1 (hcon 2 (by decide) (by decide)) (by first | assumption | omega | exact Or.inl rfl) hnt) (cwV 2 hG (gd_V k_1457 k_1459 k_67 k_116 k_1460) rfl rfl rfl (by decide +kernel) ⟨Nat.le_of_ble_eq_true rfl, Nat.le_of_ble_eq_true rfl⟩) (tw_V (q0 := 1) hP hD hK hE hst hS rfl rfl [1, 2, 3, 0] rfl (by decide)) rfl rfl hl.1 rfl (lv_room (Nat.le_of_ble_eq_true rfl)) d_MO_combined_296 ⟨Nat.le_of_ble_eq_true rfl, Nat.le_of_ble_eq_true rfl⟩) hP hD hS hA [1, 2, 3, 0] [] rfl rfl (by decide) (by decide) (fun v u H locs hok hP hD hS => ?_) (fun x C u H locs hbad hxx hP hD hS => ?_)
                · skip
                  obtain ⟨bd_43, fs_44, le_45, ri_46⟩ := u
                  obtain ⟨r_47, rfl, hp_48⟩ := hok
                  obtain ⟨hbz_49, hbo_50, hres_51⟩ : (bd_43 = 0 → bd = 0) ∧ (bdo bd_43) ∧ (∃ T' : Tr, rep le_45 ri_46 r_47 T' ∧ okT Pk T' ∧ (∀ d, fo fr fs_44 d + (toc T') d ≤ fo fr fs d + (toc (Lean.RArray.leaf (wof 2 4)) d + toc T1 d)) ∧ (∀ d, fo fr fs d + (toc (Lean.RArray.leaf (wof 2 4)) d + toc T1 d) = 0 → le_45 d = le d ∧ ri_46 d = ri d)) := hp_48
                  obtain ⟨T_52, hR_53, hK_54, hF_55, hA_56⟩ := hres_51
                  have hR_57 : rep le_45 ri_46 b T2 := rep_fr h2 (fun d hd => hA_56 d (by have a0 := ho d; have a1 := hoT1 d; have a2 := (Tr.occ_lf (wof 2 4)) d; have a3 := hF_55 d; omega))
                  have hP : va_P D classes [(h0, .inr (8, mS f tn rm ln lx at_ bd_43 fs_44 dp on os bn df th tp mo_ ev ss so lk rs pt ot cl)), ((f 3), .inl (cL, 2000, .inr (.inl le_45))), ((f 4), .inl (cL, 2000, .inr (.inl ri_46))), ((f 5), .inl (cI, 2000, .inl fr))] H := hP
                  have hD : va_D A [(h0, .inr (8, mS f tn rm ln lx at_ bd_43 fs_44 dp on os bn df th tp mo_ ev ss so lk rs pt ot cl)), ((f 3), .inl (cL, 2000, .inr (.inl le_45))), ((f 4), .inl (cL, 2000, .inr (.inl ri_46))), ((f 5), .inl (cI, 2000, .inl fr))] := hD
                  refine W.eq (g2 := F0 m 299 ls [.long r_47, .ref h0]) rfl ?_
                  refine lv_lload_n hx hb d_MO_combined_299 rfl (lv_at hl 7 rfl) ?_
                  refine em_call (wr := []) (em_runV (As := [.long r_47, .long b]) (rest := []) ⟨hx, hb, hml, hown, hG⟩ (mo_apply l D cI cL cZ cC f h0 tn rm ln lx at_ bd_43 fs_44 dp on os bn df th tp mo_ ev ss so lk rs pt ot cl le_45 ri_46 fr T_52 T2 Pk r_47 b _ hfr hR_53 hR_57 (by intro d; have a0 := ho d; have a1 := hoT1 d; have a2 := (Tr.occ_lf (wof 2 4)) d; have a3 := hF_55 d; omega) hK_54 hk2 (hcon 2 (by decide) (by decide)) (by first | assumption | omega | exact Or.inl rfl) hnt) (cwV 2 hG (gd_V k_1457 k_1459 k_67 k_116 k_1460) rfl rfl rfl (by decide +kernel) ⟨Nat.le_of_ble_eq_true rfl, Nat.le_of_ble_eq_true rfl⟩) (tw_V (q0 := 0) hP hD hK hE hst hS rfl rfl [0, 1, 2, 3] rfl (by decide)) rfl rfl hl.1 rfl (lv_room (Nat.le_of_ble_eq_true rfl)) d_MO_combined_300 ⟨Nat.le_of_ble_eq_true rfl, Nat.le_of_ble_eq_true rfl⟩) hP hD hS hA [0, 1, 2, 3] [] rfl rfl (by decide) (by decide) (fun v u H locs hok hP hD hS => ?_) (fun x C u H locs hbad hxx hP hD hS => ?_)
                  · skip
                    obtain ⟨bd_58, fs_59, le_60, ri_61⟩ := u
                    obtain ⟨r_62, rfl, hp_63⟩ := hok
                    obtain ⟨hbz_64, hbo_65, hres_66⟩ : (bd_58 = 0 → bd_43 = 0) ∧ (bdo bd_58) ∧ (∃ T' : Tr, rep le_60 ri_61 r_62 T' ∧ okT Pk T' ∧ (∀ d, fo fr fs_59 d + (toc T') d ≤ fo fr fs_44 d + (toc T_52 d + toc T2 d)) ∧ (∀ d, fo fr fs_44 d + (toc T_52 d + toc T2 d) = 0 → le_60 d = le_45 d ∧ ri_61 d = ri_46 d)) := hp_63
                    obtain ⟨T_67, hR_68, hK_69, hF_70, hA_71⟩ := hres_66
                    have hP : va_P D classes [(h0, .inr (8, mS f tn rm ln lx at_ bd_58 fs_59 dp on os bn df th tp mo_ ev ss so lk rs pt ot cl)), ((f 3), .inl (cL, 2000, .inr (.inl le_60))), ((f 4), .inl (cL, 2000, .inr (.inl ri_61))), ((f 5), .inl (cI, 2000, .inl fr))] H := hP
                    have hD : va_D A [(h0, .inr (8, mS f tn rm ln lx at_ bd_58 fs_59 dp on os bn df th tp mo_ ev ss so lk rs pt ot cl)), ((f 3), .inl (cL, 2000, .inr (.inl le_60))), ((f 4), .inl (cL, 2000, .inr (.inl ri_61))), ((f 5), .inl (cI, 2000, .inl fr))] := hD
                    refine W.eq (g2 := F0 m 303 ls [.long r_62]) rfl ?_
                    exact em_lret hx hb hr hlocks hP hD hK hS (bd_58, fs_59, le_60, ri_61, fr) [0, 1, 2, 3] (by decide) rfl ⟨_, rfl, ⟨hfr, (show bd_58 = 0 → bd = 0 from (by first | exact id | exact (fun q => absurd q (by assumption)) | exact (fun q => hbz_49 (hbz_64 q)))), (show bdo bd_58 from (by first | assumption | omega | exact Or.inl rfl)), (show ∃ T' : Tr, rep le_60 ri_61 (r_62 : Int64) T' ∧ okT Pk T' ∧ (∀ d, fo fr fs_59 d + (toc T') d ≤ fo fr fs d + (toc T1 d + toc T2 d)) ∧ (∀ d, fo fr fs d + (toc T1 d + toc T2 d) = 0 → le_60 d = le d ∧ ri_61 d = ri d) from ⟨T_67, hR_68, hK_69, (by intro d; have a0 := ho d; have a1 := hoT1 d; have a2 := (Tr.occ_lf (wof 2 4)) d; have a3 := hF_55 d; have a4 := hF_70 d; omega), (fun d hd => by have a0 := ho d; have a1 := hoT1 d; have a2 := (Tr.occ_lf (wof 2 4)) d; have a3 := hF_55 d; have a4 := hF_70 d; have g0 := hA_56 d (by omega); have g1 := hA_71 d (by omega); exact ⟨by rw [g1.1, g0.1], by rw [g1.2, g0.2]⟩)⟩)⟩⟩ d_MO_combined_303
                  · skip
                    exact hbad.elim
                · skip
                  exact hbad.elim
              · skip
                obtain ⟨c2, tg, e2, ec2, hc2, hrg⟩ := hy_42
                have ho2 : ∀ d, toc ta d = i1 d c2 + toc tg d := fun d => by rw [e2, Tr.occ_nd, Tr.occ_lf]; omega
                have hkg : okT Pk tg := by have hh := hkab.1; rw [e2] at hh; exact hh.2
                refine W.eq (g2 := F0 m 78 ls [.int 1]) rfl ?_
                refine lv_if_eq (tgt := 85) hx hb d_MO_combined_78 (by decide) (fun hbr => absurd hbr (by decide)) (fun hbr => ?_)
                refine lv_iconst (v := 1) hx hb d_MO_combined_81 (by decide) ?_
                refine lv_goto (tgt := 86) hx hb d_MO_combined_82 (by decide) ?_
                refine lv_istore (lv' := [(11, .int 1), (9, .long 0), (7, .long 0), (6, .int 0), (5, .int 0), (0, .ref h0), (1, .long a), (3, .long b)]) hx hb d_MO_combined_86 hl (Nat.le_of_ble_eq_true rfl) rfl (fun ls hl => ?_)
                refine lv_iload hx hb d_MO_combined_88 (lv_at hl 4 rfl) ?_
                refine lv_if_eq (tgt := 98) hx hb d_MO_combined_90 (by decide) (fun hbr => ?_) (fun hbr => absurd (by decide) hbr)
                refine lv_iload hx hb d_MO_combined_98 (lv_at hl 3 rfl) ?_
                refine lv_if_eq (tgt := 118) hx hb d_MO_combined_100 (by decide) (fun hbr => ?_) (fun hbr => absurd (by decide) hbr)
                refine lv_iload hx hb d_MO_combined_118 (lv_at hl 4 rfl) ?_
                refine lv_if_eq (tgt := 145) hx hb d_MO_combined_120 (by decide) (fun hbr => ?_) (fun hbr => absurd (by decide) hbr)
                refine lv_iload hx hb d_MO_combined_145 (lv_at hl 4 rfl) ?_
                refine lv_if_eq (tgt := 162) hx hb d_MO_combined_147 (by decide) (fun hbr => ?_) (fun hbr => absurd (by decide) hbr)
                refine lv_iload hx hb d_MO_combined_162 (lv_at hl 4 rfl) ?_
                refine lv_if_eq (tgt := 229) hx hb d_MO_combined_164 (by decide) (fun hbr => ?_) (fun hbr => absurd (by decide) hbr)
                refine lv_iload hx hb d_MO_combined_229 (lv_at hl 4 rfl) ?_
                refine lv_if_eq (tgt := 250) hx hb d_MO_combined_231 (by decide) (fun hbr => ?_) (fun hbr => absurd (by decide) hbr)
                refine lv_iload hx hb d_MO_combined_250 (lv_at hl 0 rfl) ?_
                refine lv_if_ne (tgt := 304) hx hb d_MO_combined_252 (by decide) (fun hbr => ?_) (fun hbr => absurd hbr (by decide))
                refine lv_aload_n hx hb d_MO_combined_304 rfl (lv_at hl 5 rfl) ?_
                refine va_get (D := D) (ci := 8) (v := .ref (f 4)) (C := rn_MO) (T := fl_MO) (N := 55) hx hb hG in_MO hown hK hP 1 rfl rfl 10 (by decide) (hG _ k_1201) (fun _ h9 => h9) rfl d_MO_combined_305 ?_
                refine lv_aload_n hx hb d_MO_combined_308 rfl (lv_at hl 5 rfl) ?_
                refine va_get (D := D) (ci := 8) (v := .ref (f 3)) (C := rn_MO) (T := fl_MO) (N := 55) hx hb hG in_MO hown hK hP 1 rfl rfl 9 (by decide) (hG _ k_1200) (fun _ h9 => h9) rfl d_MO_combined_309 ?_
                refine lv_lload_n hx hb d_MO_combined_312 rfl (lv_at hl 6 rfl) ?_
                refine W.callR (W.runS (As := [.long a]) (rest := [.ref (f 3), .ref (f 4)]) ⟨hx, hb, hml, hown, hG⟩ (mo_valueOf l D cI cL cZ cC a ) (cwS 1 hG (gd_S k_1522 k_1523 k_116 k_1524) rfl rfl rfl (by decide +kernel) ⟨Nat.le_of_ble_eq_true rfl, Nat.le_of_ble_eq_true rfl⟩) (wq_S hP hK [] rfl) rfl rfl hl.1 rfl (lv_room (Nat.le_of_ble_eq_true rfl)) d_MO_combined_313 ⟨Nat.le_of_ble_eq_true rfl, Nat.le_of_ble_eq_true rfl⟩) ?_
                refine W.eq (g2 := F0 m 316 ls [.int a.toInt32, .ref (f 3), .ref (f 4)]) rfl ?_
                refine W.eq (g2 := F0 m 316 ls [.int (nI cp), .ref (f 3), .ref (f 4)]) (by rw [ecp]) ?_
                refine va_lald hx hb hK hP 2 1 rfl rfl (vp_in_nI (n := cp) (N := 2000) (by omega) (by omega)) d_MO_combined_316 ?_
                refine W.eq (g2 := F0 m 317 ls [.long (le cp), .ref (f 4)]) (by rw [nI_clamp (n := cp) (by omega)]) ?_
                refine W.callR (W.runS (As := [.long (le cp)]) (rest := [.ref (f 4)]) ⟨hx, hb, hml, hown, hG⟩ (mo_valueOf l D cI cL cZ cC (le cp) ) (cwS 1 hG (gd_S k_1522 k_1523 k_116 k_1524) rfl rfl rfl (by decide +kernel) ⟨Nat.le_of_ble_eq_true rfl, Nat.le_of_ble_eq_true rfl⟩) (wq_S hP hK [] rfl) rfl rfl hl.1 rfl (lv_room (Nat.le_of_ble_eq_true rfl)) d_MO_combined_317 ⟨Nat.le_of_ble_eq_true rfl, Nat.le_of_ble_eq_true rfl⟩) ?_
                refine W.eq (g2 := F0 m 320 ls [.int ((le cp).toInt32), .ref (f 4)]) rfl ?_
                refine W.eq (g2 := F0 m 320 ls [.int (nI c2), .ref (f 4)]) (by rw [ec2]) ?_
                refine va_lald hx hb hK hP 3 1 rfl rfl (vp_in_nI (n := c2) (N := 2000) (by omega) (by omega)) d_MO_combined_320 ?_
                refine W.eq (g2 := F0 m 321 ls [.long (ri c2)]) (by rw [nI_clamp (n := c2) (by omega)]) ?_
                refine lv_lstore (lv' := [(12, .long (ri c2)), (11, .int 1), (9, .long 0), (7, .long 0), (6, .int 0), (5, .int 0), (0, .ref h0), (1, .long a), (3, .long b)]) hx hb d_MO_combined_321 hl (Nat.le_of_ble_eq_true rfl) rfl (fun ls hl => ?_)
                refine lv_aload_n hx hb d_MO_combined_323 rfl (lv_at hl 6 rfl) ?_
                refine va_get (D := D) (ci := 8) (v := .ref (f 4)) (C := rn_MO) (T := fl_MO) (N := 55) hx hb hG in_MO hown hK hP 1 rfl rfl 10 (by decide) (hG _ k_1201) (fun _ h9 => h9) rfl d_MO_combined_324 ?_
                refine lv_lload_n hx hb d_MO_combined_327 rfl (lv_at hl 7 rfl) ?_
                refine W.callR (W.runS (As := [.long a]) (rest := [.ref (f 4)]) ⟨hx, hb, hml, hown, hG⟩ (mo_valueOf l D cI cL cZ cC a ) (cwS 1 hG (gd_S k_1522 k_1523 k_116 k_1524) rfl rfl rfl (by decide +kernel) ⟨Nat.le_of_ble_eq_true rfl, Nat.le_of_ble_eq_true rfl⟩) (wq_S hP hK [] rfl) rfl rfl hl.1 rfl (lv_room (Nat.le_of_ble_eq_true rfl)) d_MO_combined_328 ⟨Nat.le_of_ble_eq_true rfl, Nat.le_of_ble_eq_true rfl⟩) ?_
                refine W.eq (g2 := F0 m 331 ls [.int a.toInt32, .ref (f 4)]) rfl ?_
                refine W.eq (g2 := F0 m 331 ls [.int (nI cp), .ref (f 4)]) (by rw [ecp]) ?_
                refine va_lald hx hb hK hP 3 1 rfl rfl (vp_in_nI (n := cp) (N := 2000) (by omega) (by omega)) d_MO_combined_331 ?_
                refine W.eq (g2 := F0 m 332 ls [.long (ri cp)]) (by rw [nI_clamp (n := cp) (by omega)]) ?_
                refine lv_lstore (lv' := [(14, .long (ri cp)), (12, .long (ri c2)), (11, .int 1), (9, .long 0), (7, .long 0), (6, .int 0), (5, .int 0), (0, .ref h0), (1, .long a), (3, .long b)]) hx hb d_MO_combined_332 hl (Nat.le_of_ble_eq_true rfl) rfl (fun ls hl => ?_)
                refine lv_aload_n hx hb d_MO_combined_334 rfl (lv_at hl 7 rfl) ?_
                refine lv_aload_n hx hb d_MO_combined_335 rfl (lv_at hl 7 rfl) ?_
                refine va_get (D := D) (ci := 8) (v := .ref (f 3)) (C := rn_MO) (T := fl_MO) (N := 55) hx hb hG in_MO hown hK hP 1 rfl rfl 9 (by decide) (hG _ k_1200) (fun _ h9 => h9) rfl d_MO_combined_336 ?_
                refine lv_lload_n hx hb d_MO_combined_339 rfl (lv_at hl 8 rfl) ?_
                refine W.callR (W.runS (As := [.long a]) (rest := [.ref (f 3), .ref h0]) ⟨hx, hb, hml, hown, hG⟩ (mo_valueOf l D cI cL cZ cC a ) (cwS 1 hG (gd_S k_1522 k_1523 k_116 k_1524) rfl rfl rfl (by decide +kernel) ⟨Nat.le_of_ble_eq_true rfl, Nat.le_of_ble_eq_true rfl⟩) (wq_S hP hK [] rfl) rfl rfl hl.1 rfl (lv_room (Nat.le_of_ble_eq_true rfl)) d_MO_combined_340 ⟨Nat.le_of_ble_eq_true rfl, Nat.le_of_ble_eq_true rfl⟩) ?_
                refine W.eq (g2 := F0 m 343 ls [.int a.toInt32, .ref (f 3), .ref h0]) rfl ?_
                refine W.eq (g2 := F0 m 343 ls [.int (nI cp), .ref (f 3), .ref h0]) (by rw [ecp]) ?_
                refine va_lald hx hb hK hP 2 1 rfl rfl (vp_in_nI (n := cp) (N := 2000) (by omega) (by omega)) d_MO_combined_343 ?_
                refine W.eq (g2 := F0 m 344 ls [.long (le cp), .ref h0]) (by rw [nI_clamp (n := cp) (by omega)]) ?_
                refine em_call (wr := [((f 3), .inl (cL, 2000, .inr (.inl le))), ((f 4), .inl (cL, 2000, .inr (.inl ri)))]) (em_runV (As := [.long (le cp)]) (rest := []) ⟨hx, hb, hml, hown, hG⟩ (mo_release l D cI cL cZ cC f h0 tn rm ln lx at_ bd fs dp on os bn df th tp mo_ ev ss so lk rs pt ot cl fr c2 (le cp) _ hfr ec2 hc2 (by intro d; have a0 := ho d; have a1 := hoT1 d; have a2 := ho2 d; omega) hnt) (cwV 1 hG (gd_V k_1545 k_1547 k_84 k_116 k_1548) rfl rfl rfl (by decide +kernel) ⟨Nat.le_of_ble_eq_true rfl, Nat.le_of_ble_eq_true rfl⟩) (tw_V (q0 := 1) hP hD hK hE hst hS rfl rfl [1, 0] rfl (by decide)) rfl rfl hl.1 rfl (lv_room (Nat.le_of_ble_eq_true rfl)) d_MO_combined_344 ⟨Nat.le_of_ble_eq_true rfl, Nat.le_of_ble_eq_true rfl⟩) hP hD hS hA [1, 0] [2, 3] rfl rfl (by decide) (by decide) (fun v u H locs hok hP hD hS => ?_) (fun x C u H locs hbad hxx hP hD hS => ?_)
                · skip
                  obtain ⟨fs_72, fr_73⟩ := u
                  obtain ⟨rfl, hp_75⟩ := hok
                  obtain ⟨hfr_76, hfs_77, hF_78⟩ : (rng 2000 fr_73) ∧ (fs_72 = fs + 1) ∧ (∀ d, fo fr_73 fs_72 d = fo fr fs d + i1 d c2) := hp_75
                  have hP : va_P D classes [((f 3), .inl (cL, 2000, .inr (.inl le))), ((f 4), .inl (cL, 2000, .inr (.inl ri))), (h0, .inr (8, mS f tn rm ln lx at_ bd fs_72 dp on os bn df th tp mo_ ev ss so lk rs pt ot cl)), ((f 5), .inl (cI, 2000, .inl fr_73))] H := hP
                  have hD : va_D A [((f 3), .inl (cL, 2000, .inr (.inl le))), ((f 4), .inl (cL, 2000, .inr (.inl ri))), (h0, .inr (8, mS f tn rm ln lx at_ bd fs_72 dp on os bn df th tp mo_ ev ss so lk rs pt ot cl)), ((f 5), .inl (cI, 2000, .inl fr_73))] := hD
                  refine W.eq (g2 := F0 m 347 ls []) rfl ?_
                  refine lv_aload_n hx hb d_MO_combined_347 rfl (lv_at hl 7 rfl) ?_
                  refine lv_lload_n hx hb d_MO_combined_348 rfl (lv_at hl 8 rfl) ?_
                  refine em_call (wr := [((f 3), .inl (cL, 2000, .inr (.inl le))), ((f 4), .inl (cL, 2000, .inr (.inl ri)))]) (em_runV (As := [.long a]) (rest := []) ⟨hx, hb, hml, hown, hG⟩ (mo_release l D cI cL cZ cC f h0 tn rm ln lx at_ bd fs_72 dp on os bn df th tp mo_ ev ss so lk rs pt ot cl fr_73 cp a _ hfr_76 ecp hcp (by intro d; have a0 := ho d; have a1 := hoT1 d; have a2 := ho2 d; have a3 := hF_78 d; omega) hnt) (cwV 1 hG (gd_V k_1545 k_1547 k_84 k_116 k_1548) rfl rfl rfl (by decide +kernel) ⟨Nat.le_of_ble_eq_true rfl, Nat.le_of_ble_eq_true rfl⟩) (tw_V (q0 := 2) hP hD hK hE hst hS rfl rfl [2, 3] rfl (by decide)) rfl rfl hl.1 rfl (lv_room (Nat.le_of_ble_eq_true rfl)) d_MO_combined_349 ⟨Nat.le_of_ble_eq_true rfl, Nat.le_of_ble_eq_true rfl⟩) hP hD hS hA [2, 3] [0, 1] rfl rfl (by decide) (by decide) (fun v u H locs hok hP hD hS => ?_) (fun x C u H locs hbad hxx hP hD hS => ?_)
                  · skip
                    obtain ⟨fs_80, fr_81⟩ := u
                    obtain ⟨rfl, hp_83⟩ := hok
                    obtain ⟨hfr_84, hfs_85, hF_86⟩ : (rng 2000 fr_81) ∧ (fs_80 = fs_72 + 1) ∧ (∀ d, fo fr_81 fs_80 d = fo fr_73 fs_72 d + i1 d cp) := hp_83
                    have hP : va_P D classes [((f 3), .inl (cL, 2000, .inr (.inl le))), ((f 4), .inl (cL, 2000, .inr (.inl ri))), (h0, .inr (8, mS f tn rm ln lx at_ bd fs_80 dp on os bn df th tp mo_ ev ss so lk rs pt ot cl)), ((f 5), .inl (cI, 2000, .inl fr_81))] H := hP
                    have hD : va_D A [((f 3), .inl (cL, 2000, .inr (.inl le))), ((f 4), .inl (cL, 2000, .inr (.inl ri))), (h0, .inr (8, mS f tn rm ln lx at_ bd fs_80 dp on os bn df th tp mo_ ev ss so lk rs pt ot cl)), ((f 5), .inl (cI, 2000, .inl fr_81))] := hD
                    refine W.eq (g2 := F0 m 352 ls []) rfl ?_
                    refine lv_aload_n hx hb d_MO_combined_352 rfl (lv_at hl 7 rfl) ?_
                    refine lv_aload_n hx hb d_MO_combined_353 rfl (lv_at hl 7 rfl) ?_
                    refine lv_aload_n hx hb d_MO_combined_354 rfl (lv_at hl 7 rfl) ?_
                    refine lv_iload hx hb d_MO_combined_355 (lv_at hl 5 rfl) ?_
                    refine lv_if_eq (tgt := 365) hx hb d_MO_combined_357 (by decide) (fun hbr => ?_) (fun hbr => absurd (by decide) hbr)
                    refine lv_bipush (v := 7) hx hb d_MO_combined_365 (by decide) ?_
                    refine W.callRL (W.runS (As := [.int 7]) (rest := [.ref h0, .ref h0, .ref h0]) ⟨hx, hb, hml, hown, hG⟩ (mo_constant l D cI cL cZ cC 7 ) (cwS 1 hG (gd_S k_1461 k_1462 k_116 k_1463) rfl rfl rfl (by decide +kernel) ⟨Nat.le_of_ble_eq_true rfl, Nat.le_of_ble_eq_true rfl⟩) (wq_S hP hK [] rfl) rfl rfl hl.1 rfl (lv_room (Nat.le_of_ble_eq_true rfl)) d_MO_combined_367 ⟨Nat.le_of_ble_eq_true rfl, Nat.le_of_ble_eq_true rfl⟩) ?_
                    refine W.eq (g2 := F0 m 370 ls [.long (wof 2 7), .ref h0, .ref h0, .ref h0]) rfl ?_
                    refine lv_lload hx hb d_MO_combined_370 (lv_at hl 1 rfl) ?_
                    refine em_call (wr := []) (em_runV (As := [.long (wof 2 7), .long (ri c2)]) (rest := [.ref h0, .ref h0]) ⟨hx, hb, hml, hown, hG⟩ (mo_apply l D cI cL cZ cC f h0 tn rm ln lx at_ bd fs_80 dp on os bn df th tp mo_ ev ss so lk rs pt ot cl le ri fr_81 (Lean.RArray.leaf (wof 2 7)) tg Pk (wof 2 7) (ri c2) _ hfr_84 (rep_lf (by rw [wkind_of]; decide)) hrg (by intro d; have a0 := ho d; have a1 := hoT1 d; have a2 := ho2 d; have a3 := hF_78 d; have a4 := hF_86 d; have a5 := (Tr.occ_lf (wof 2 7)) d; omega) (hcon 7 (by decide) (by decide)) hkg (hcon 2 (by decide) (by decide)) (by first | assumption | omega | exact Or.inl rfl) hnt) (cwV 2 hG (gd_V k_1457 k_1459 k_67 k_116 k_1460) rfl rfl rfl (by decide +kernel) ⟨Nat.le_of_ble_eq_true rfl, Nat.le_of_ble_eq_true rfl⟩) (tw_V (q0 := 2) hP hD hK hE hst hS rfl rfl [2, 0, 1, 3] rfl (by decide)) rfl rfl hl.1 rfl (lv_room (Nat.le_of_ble_eq_true rfl)) d_MO_combined_372 ⟨Nat.le_of_ble_eq_true rfl, Nat.le_of_ble_eq_true rfl⟩) hP hD hS hA [2, 0, 1, 3] [] rfl rfl (by decide) (by decide) (fun v u H locs hok hP hD hS => ?_) (fun x C u H locs hbad hxx hP hD hS => ?_)
                    · skip
                      obtain ⟨bd_88, fs_89, le_90, ri_91⟩ := u
                      obtain ⟨r_92, rfl, hp_93⟩ := hok
                      obtain ⟨hbz_94, hbo_95, hres_96⟩ : (bd_88 = 0 → bd = 0) ∧ (bdo bd_88) ∧ (∃ T' : Tr, rep le_90 ri_91 r_92 T' ∧ okT Pk T' ∧ (∀ d, fo fr_81 fs_89 d + (toc T') d ≤ fo fr_81 fs_80 d + (toc (Lean.RArray.leaf (wof 2 7)) d + toc tg d)) ∧ (∀ d, fo fr_81 fs_80 d + (toc (Lean.RArray.leaf (wof 2 7)) d + toc tg d) = 0 → le_90 d = le d ∧ ri_91 d = ri d)) := hp_93
                      obtain ⟨T_97, hR_98, hK_99, hF_100, hA_101⟩ := hres_96
                      have hR_102 : rep le_90 ri_91 b T2 := rep_fr h2 (fun d hd => hA_101 d (by have a0 := ho d; have a1 := hoT1 d; have a2 := ho2 d; have a3 := hF_78 d; have a4 := hF_86 d; have a5 := (Tr.occ_lf (wof 2 7)) d; have a6 := hF_100 d; omega))
                      have hR_103 : rep le_90 ri_91 (ri cp) tb := rep_fr hrb (fun d hd => hA_101 d (by have a0 := ho d; have a1 := hoT1 d; have a2 := ho2 d; have a3 := hF_78 d; have a4 := hF_86 d; have a5 := (Tr.occ_lf (wof 2 7)) d; have a6 := hF_100 d; omega))
                      have hP : va_P D classes [(h0, .inr (8, mS f tn rm ln lx at_ bd_88 fs_89 dp on os bn df th tp mo_ ev ss so lk rs pt ot cl)), ((f 3), .inl (cL, 2000, .inr (.inl le_90))), ((f 4), .inl (cL, 2000, .inr (.inl ri_91))), ((f 5), .inl (cI, 2000, .inl fr_81))] H := hP
                      have hD : va_D A [(h0, .inr (8, mS f tn rm ln lx at_ bd_88 fs_89 dp on os bn df th tp mo_ ev ss so lk rs pt ot cl)), ((f 3), .inl (cL, 2000, .inr (.inl le_90))), ((f 4), .inl (cL, 2000, .inr (.inl ri_91))), ((f 5), .inl (cI, 2000, .inl fr_81))] := hD
                      refine W.eq (g2 := F0 m 375 ls [.long r_92, .ref h0, .ref h0]) rfl ?_
                      refine lv_lload hx hb d_MO_combined_375 (lv_at hl 0 rfl) ?_
                      refine em_call (wr := []) (em_runV (As := [.long r_92, .long (ri cp)]) (rest := [.ref h0]) ⟨hx, hb, hml, hown, hG⟩ (mo_apply l D cI cL cZ cC f h0 tn rm ln lx at_ bd_88 fs_89 dp on os bn df th tp mo_ ev ss so lk rs pt ot cl le_90 ri_91 fr_81 T_97 tb Pk r_92 (ri cp) _ hfr_84 hR_98 hR_103 (by intro d; have a0 := ho d; have a1 := hoT1 d; have a2 := ho2 d; have a3 := hF_78 d; have a4 := hF_86 d; have a5 := (Tr.occ_lf (wof 2 7)) d; have a6 := hF_100 d; omega) hK_99 hkab.2 (hcon 2 (by decide) (by decide)) (by first | assumption | omega | exact Or.inl rfl) hnt) (cwV 2 hG (gd_V k_1457 k_1459 k_67 k_116 k_1460) rfl rfl rfl (by decide +kernel) ⟨Nat.le_of_ble_eq_true rfl, Nat.le_of_ble_eq_true rfl⟩) (tw_V (q0 := 0) hP hD hK hE hst hS rfl rfl [0, 1, 2, 3] rfl (by decide)) rfl rfl hl.1 rfl (lv_room (Nat.le_of_ble_eq_true rfl)) d_MO_combined_377 ⟨Nat.le_of_ble_eq_true rfl, Nat.le_of_ble_eq_true rfl⟩) hP hD hS hA [0, 1, 2, 3] [] rfl rfl (by decide) (by decide) (fun v u H locs hok hP hD hS => ?_) (fun x C u H locs hbad hxx hP hD hS => ?_)
                      · skip
                        obtain ⟨bd_104, fs_105, le_106, ri_107⟩ := u
                        obtain ⟨r_108, rfl, hp_109⟩ := hok
                        obtain ⟨hbz_110, hbo_111, hres_112⟩ : (bd_104 = 0 → bd_88 = 0) ∧ (bdo bd_104) ∧ (∃ T' : Tr, rep le_106 ri_107 r_108 T' ∧ okT Pk T' ∧ (∀ d, fo fr_81 fs_105 d + (toc T') d ≤ fo fr_81 fs_89 d + (toc T_97 d + toc tb d)) ∧ (∀ d, fo fr_81 fs_89 d + (toc T_97 d + toc tb d) = 0 → le_106 d = le_90 d ∧ ri_107 d = ri_91 d)) := hp_109
                        obtain ⟨T_113, hR_114, hK_115, hF_116, hA_117⟩ := hres_112
                        have hR_118 : rep le_106 ri_107 b T2 := rep_fr hR_102 (fun d hd => hA_117 d (by have a0 := ho d; have a1 := hoT1 d; have a2 := ho2 d; have a3 := hF_78 d; have a4 := hF_86 d; have a5 := (Tr.occ_lf (wof 2 7)) d; have a6 := hF_100 d; have a7 := hF_116 d; omega))
                        have hP : va_P D classes [(h0, .inr (8, mS f tn rm ln lx at_ bd_104 fs_105 dp on os bn df th tp mo_ ev ss so lk rs pt ot cl)), ((f 3), .inl (cL, 2000, .inr (.inl le_106))), ((f 4), .inl (cL, 2000, .inr (.inl ri_107))), ((f 5), .inl (cI, 2000, .inl fr_81))] H := hP
                        have hD : va_D A [(h0, .inr (8, mS f tn rm ln lx at_ bd_104 fs_105 dp on os bn df th tp mo_ ev ss so lk rs pt ot cl)), ((f 3), .inl (cL, 2000, .inr (.inl le_106))), ((f 4), .inl (cL, 2000, .inr (.inl ri_107))), ((f 5), .inl (cI, 2000, .inl fr_81))] := hD
                        refine W.eq (g2 := F0 m 380 ls [.long r_108, .ref h0]) rfl ?_
                        refine lv_iload hx hb d_MO_combined_380 (lv_at hl 5 rfl) ?_
                        refine lv_if_eq (tgt := 390) hx hb d_MO_combined_382 (by decide) (fun hbr => ?_) (fun hbr => absurd (by decide) hbr)
                        refine lv_lload_n hx hb d_MO_combined_390 rfl (lv_at hl 9 rfl) ?_
                        refine em_call (wr := []) (em_runV (As := [.long r_108, .long b]) (rest := []) ⟨hx, hb, hml, hown, hG⟩ (mo_apply l D cI cL cZ cC f h0 tn rm ln lx at_ bd_104 fs_105 dp on os bn df th tp mo_ ev ss so lk rs pt ot cl le_106 ri_107 fr_81 T_113 T2 Pk r_108 b _ hfr_84 hR_114 hR_118 (by intro d; have a0 := ho d; have a1 := hoT1 d; have a2 := ho2 d; have a3 := hF_78 d; have a4 := hF_86 d; have a5 := (Tr.occ_lf (wof 2 7)) d; have a6 := hF_100 d; have a7 := hF_116 d; omega) hK_115 hk2 (hcon 2 (by decide) (by decide)) (by first | assumption | omega | exact Or.inl rfl) hnt) (cwV 2 hG (gd_V k_1457 k_1459 k_67 k_116 k_1460) rfl rfl rfl (by decide +kernel) ⟨Nat.le_of_ble_eq_true rfl, Nat.le_of_ble_eq_true rfl⟩) (tw_V (q0 := 0) hP hD hK hE hst hS rfl rfl [0, 1, 2, 3] rfl (by decide)) rfl rfl hl.1 rfl (lv_room (Nat.le_of_ble_eq_true rfl)) d_MO_combined_391 ⟨Nat.le_of_ble_eq_true rfl, Nat.le_of_ble_eq_true rfl⟩) hP hD hS hA [0, 1, 2, 3] [] rfl rfl (by decide) (by decide) (fun v u H locs hok hP hD hS => ?_) (fun x C u H locs hbad hxx hP hD hS => ?_)
                        · skip
                          obtain ⟨bd_119, fs_120, le_121, ri_122⟩ := u
                          obtain ⟨r_123, rfl, hp_124⟩ := hok
                          obtain ⟨hbz_125, hbo_126, hres_127⟩ : (bd_119 = 0 → bd_104 = 0) ∧ (bdo bd_119) ∧ (∃ T' : Tr, rep le_121 ri_122 r_123 T' ∧ okT Pk T' ∧ (∀ d, fo fr_81 fs_120 d + (toc T') d ≤ fo fr_81 fs_105 d + (toc T_113 d + toc T2 d)) ∧ (∀ d, fo fr_81 fs_105 d + (toc T_113 d + toc T2 d) = 0 → le_121 d = le_106 d ∧ ri_122 d = ri_107 d)) := hp_124
                          obtain ⟨T_128, hR_129, hK_130, hF_131, hA_132⟩ := hres_127
                          have hP : va_P D classes [(h0, .inr (8, mS f tn rm ln lx at_ bd_119 fs_120 dp on os bn df th tp mo_ ev ss so lk rs pt ot cl)), ((f 3), .inl (cL, 2000, .inr (.inl le_121))), ((f 4), .inl (cL, 2000, .inr (.inl ri_122))), ((f 5), .inl (cI, 2000, .inl fr_81))] H := hP
                          have hD : va_D A [(h0, .inr (8, mS f tn rm ln lx at_ bd_119 fs_120 dp on os bn df th tp mo_ ev ss so lk rs pt ot cl)), ((f 3), .inl (cL, 2000, .inr (.inl le_121))), ((f 4), .inl (cL, 2000, .inr (.inl ri_122))), ((f 5), .inl (cI, 2000, .inl fr_81))] := hD
                          refine W.eq (g2 := F0 m 394 ls [.long r_123]) rfl ?_
                          exact em_lret hx hb hr hlocks hP hD hK hS (bd_119, fs_120, le_121, ri_122, fr_81) [0, 1, 2, 3] (by decide) rfl ⟨_, rfl, ⟨hfr_84, (show bd_119 = 0 → bd = 0 from (by first | exact id | exact (fun q => absurd q (by assumption)) | exact (fun q => hbz_94 (hbz_110 (hbz_125 q))))), (show bdo bd_119 from (by first | assumption | omega | exact Or.inl rfl)), (show ∃ T' : Tr, rep le_121 ri_122 (r_123 : Int64) T' ∧ okT Pk T' ∧ (∀ d, fo fr_81 fs_120 d + (toc T') d ≤ fo fr fs d + (toc T1 d + toc T2 d)) ∧ (∀ d, fo fr fs d + (toc T1 d + toc T2 d) = 0 → le_121 d = le d ∧ ri_122 d = ri d) from ⟨T_128, hR_129, hK_130, (by intro d; have a0 := ho d; have a1 := hoT1 d; have a2 := ho2 d; have a3 := hF_78 d; have a4 := hF_86 d; have a5 := (Tr.occ_lf (wof 2 7)) d; have a6 := hF_100 d; have a7 := hF_116 d; have a8 := hF_131 d; omega), (fun d hd => by have a0 := ho d; have a1 := hoT1 d; have a2 := ho2 d; have a3 := hF_78 d; have a4 := hF_86 d; have a5 := (Tr.occ_lf (wof 2 7)) d; have a6 := hF_100 d; have a7 := hF_116 d; have a8 := hF_131 d; have g0 := hA_101 d (by omega); have g1 := hA_117 d (by omega); have g2 := hA_132 d (by omega); exact ⟨by rw [g2.1, g1.1, g0.1], by rw [g2.2, g1.2, g0.2]⟩)⟩)⟩⟩ d_MO_combined_394
                        · skip
                          exact hbad.elim
                      · skip
                        exact hbad.elim
                    · skip
                      exact hbad.elim
                  · skip
                    exact hbad.elim
                · skip
                  exact hbad.elim
            · skip
              exact hbad.elim
        · skip
          obtain ⟨cq, tx, eT2, ecq, hcq, hrtx⟩ := hy_8
          have hoT2 : ∀ d, toc T2 d = i1 d cq + toc tx d := fun d => by rw [eT2, Tr.occ_nd, Tr.occ_lf]; omega
          have hktx : okT Pk tx := by have hh := hk2; rw [eT2] at hh; exact hh.2
          refine W.eq (g2 := F0 m 14 ls [.int 1]) rfl ?_
          refine lv_istore (lv' := [(6, .int 1), (5, .int 0), (0, .ref h0), (1, .long a), (3, .long b)]) hx hb d_MO_combined_14 hl (Nat.le_of_ble_eq_true rfl) rfl (fun ls hl => ?_)
          refine lv_iload hx hb d_MO_combined_16 (lv_at hl 1 rfl) ?_
          refine lv_if_eq (tgt := 33) hx hb d_MO_combined_18 (by decide) (fun hbr => ?_) (fun hbr => absurd (by decide) hbr)
          refine lv_lconst (v := 0) hx hb d_MO_combined_33 (by decide) ?_
          refine lv_lstore (lv' := [(7, .long 0), (6, .int 1), (5, .int 0), (0, .ref h0), (1, .long a), (3, .long b)]) hx hb d_MO_combined_34 hl (Nat.le_of_ble_eq_true rfl) rfl (fun ls hl => ?_)
          refine lv_iload hx hb d_MO_combined_36 (lv_at hl 1 rfl) ?_
          refine lv_if_eq (tgt := 53) hx hb d_MO_combined_38 (by decide) (fun hbr => absurd hbr (by decide)) (fun hbr => ?_)
          refine lv_aload_n hx hb d_MO_combined_41 rfl (lv_at hl 3 rfl) ?_
          refine va_get (D := D) (ci := 8) (v := .ref (f 4)) (C := rn_MO) (T := fl_MO) (N := 55) hx hb hG in_MO hown hK hP 1 rfl rfl 10 (by decide) (hG _ k_1201) (fun _ h9 => h9) rfl d_MO_combined_42 ?_
          refine lv_lload_n hx hb d_MO_combined_45 rfl (lv_at hl 5 rfl) ?_
          refine W.callR (W.runS (As := [.long b]) (rest := [.ref (f 4)]) ⟨hx, hb, hml, hown, hG⟩ (mo_valueOf l D cI cL cZ cC b ) (cwS 1 hG (gd_S k_1522 k_1523 k_116 k_1524) rfl rfl rfl (by decide +kernel) ⟨Nat.le_of_ble_eq_true rfl, Nat.le_of_ble_eq_true rfl⟩) (wq_S hP hK [] rfl) rfl rfl hl.1 rfl (lv_room (Nat.le_of_ble_eq_true rfl)) d_MO_combined_46 ⟨Nat.le_of_ble_eq_true rfl, Nat.le_of_ble_eq_true rfl⟩) ?_
          refine W.eq (g2 := F0 m 49 ls [.int b.toInt32, .ref (f 4)]) rfl ?_
          refine W.eq (g2 := F0 m 49 ls [.int (nI cq), .ref (f 4)]) (by rw [ecq]) ?_
          refine va_lald hx hb hK hP 3 1 rfl rfl (vp_in_nI (n := cq) (N := 2000) (by omega) (by omega)) d_MO_combined_49 ?_
          refine W.eq (g2 := F0 m 50 ls [.long (ri cq)]) (by rw [nI_clamp (n := cq) (by omega)]) ?_
          refine lv_goto (tgt := 54) hx hb d_MO_combined_50 (by decide) ?_
          refine lv_lstore (lv' := [(9, .long (ri cq)), (7, .long 0), (6, .int 1), (5, .int 0), (0, .ref h0), (1, .long a), (3, .long b)]) hx hb d_MO_combined_54 hl (Nat.le_of_ble_eq_true rfl) rfl (fun ls hl => ?_)
          refine lv_lload_n hx hb d_MO_combined_56 rfl (lv_at hl 5 rfl) ?_
          refine W.callR (W.runS (As := [.long a]) (rest := []) ⟨hx, hb, hml, hown, hG⟩ (mo_kindOf l D cI cL cZ cC a ) (cwS 1 hG (gd_S k_1519 k_1520 k_116 k_1521) rfl rfl rfl (by decide +kernel) ⟨Nat.le_of_ble_eq_true rfl, Nat.le_of_ble_eq_true rfl⟩) (wq_S hP hK [] rfl) rfl rfl hl.1 rfl (lv_room (Nat.le_of_ble_eq_true rfl)) d_MO_combined_57 ⟨Nat.le_of_ble_eq_true rfl, Nat.le_of_ble_eq_true rfl⟩) ?_
          refine W.eq (g2 := F0 m 60 ls [.int (wkind a)]) rfl ?_
          refine lv_iconst (v := 3) hx hb d_MO_combined_60 (by decide) ?_
          refine lv_icmp_ne (tgt := 85) hx hb d_MO_combined_61 (by decide) (fun hb_133 => ?_) (fun hb_133 => ?_)
          · skip
            refine lv_iconst (v := 0) hx hb d_MO_combined_85 (by decide) ?_
            refine lv_istore (lv' := [(11, .int 0), (9, .long (ri cq)), (7, .long 0), (6, .int 1), (5, .int 0), (0, .ref h0), (1, .long a), (3, .long b)]) hx hb d_MO_combined_86 hl (Nat.le_of_ble_eq_true rfl) rfl (fun ls hl => ?_)
            refine lv_iload hx hb d_MO_combined_88 (lv_at hl 4 rfl) ?_
            refine lv_if_eq (tgt := 98) hx hb d_MO_combined_90 (by decide) (fun hbr => ?_) (fun hbr => absurd (by decide) hbr)
            refine lv_iload hx hb d_MO_combined_98 (lv_at hl 3 rfl) ?_
            refine lv_if_eq (tgt := 118) hx hb d_MO_combined_100 (by decide) (fun hbr => absurd hbr (by decide)) (fun hbr => ?_)
            refine lv_iload hx hb d_MO_combined_103 (lv_at hl 4 rfl) ?_
            refine lv_if_ne (tgt := 113) hx hb d_MO_combined_105 (by decide) (fun hbr => absurd (by decide) hbr) (fun hbr => ?_)
            refine lv_iload hx hb d_MO_combined_108 (lv_at hl 0 rfl) ?_
            refine lv_if_eq (tgt := 118) hx hb d_MO_combined_110 (by decide) (fun hbr => ?_) (fun hbr => absurd (by decide) hbr)
            refine lv_iload hx hb d_MO_combined_118 (lv_at hl 4 rfl) ?_
            refine lv_if_eq (tgt := 145) hx hb d_MO_combined_120 (by decide) (fun hbr => ?_) (fun hbr => absurd (by decide) hbr)
            refine lv_iload hx hb d_MO_combined_145 (lv_at hl 4 rfl) ?_
            refine lv_if_eq (tgt := 162) hx hb d_MO_combined_147 (by decide) (fun hbr => ?_) (fun hbr => absurd (by decide) hbr)
            refine lv_iload hx hb d_MO_combined_162 (lv_at hl 4 rfl) ?_
            refine lv_if_eq (tgt := 229) hx hb d_MO_combined_164 (by decide) (fun hbr => ?_) (fun hbr => absurd (by decide) hbr)
            refine lv_iload hx hb d_MO_combined_229 (lv_at hl 4 rfl) ?_
            refine lv_if_eq (tgt := 250) hx hb d_MO_combined_231 (by decide) (fun hbr => ?_) (fun hbr => absurd (by decide) hbr)
            refine lv_iload hx hb d_MO_combined_250 (lv_at hl 0 rfl) ?_
            refine lv_if_ne (tgt := 304) hx hb d_MO_combined_252 (by decide) (fun hbr => absurd (by decide) hbr) (fun hbr => ?_)
            refine lv_iload hx hb d_MO_combined_255 (lv_at hl 3 rfl) ?_
            refine lv_if_eq (tgt := 265) hx hb d_MO_combined_257 (by decide) (fun hbr => absurd hbr (by decide)) (fun hbr => ?_)
            refine lv_aload_n hx hb d_MO_combined_260 rfl (lv_at hl 5 rfl) ?_
            refine lv_lload_n hx hb d_MO_combined_261 rfl (lv_at hl 7 rfl) ?_
            refine em_call (wr := [((f 3), .inl (cL, 2000, .inr (.inl le))), ((f 4), .inl (cL, 2000, .inr (.inl ri)))]) (em_runV (As := [.long b]) (rest := []) ⟨hx, hb, hml, hown, hG⟩ (mo_release l D cI cL cZ cC f h0 tn rm ln lx at_ bd fs dp on os bn df th tp mo_ ev ss so lk rs pt ot cl fr cq b _ hfr ecq hcq (by intro d; have a0 := ho d; have a1 := hoT2 d; omega) hnt) (cwV 1 hG (gd_V k_1545 k_1547 k_84 k_116 k_1548) rfl rfl rfl (by decide +kernel) ⟨Nat.le_of_ble_eq_true rfl, Nat.le_of_ble_eq_true rfl⟩) (tw_V (q0 := 1) hP hD hK hE hst hS rfl rfl [1, 0] rfl (by decide)) rfl rfl hl.1 rfl (lv_room (Nat.le_of_ble_eq_true rfl)) d_MO_combined_262 ⟨Nat.le_of_ble_eq_true rfl, Nat.le_of_ble_eq_true rfl⟩) hP hD hS hA [1, 0] [2, 3] rfl rfl (by decide) (by decide) (fun v u H locs hok hP hD hS => ?_) (fun x C u H locs hbad hxx hP hD hS => ?_)
            · skip
              obtain ⟨fs_134, fr_135⟩ := u
              obtain ⟨rfl, hp_137⟩ := hok
              obtain ⟨hfr_138, hfs_139, hF_140⟩ : (rng 2000 fr_135) ∧ (fs_134 = fs + 1) ∧ (∀ d, fo fr_135 fs_134 d = fo fr fs d + i1 d cq) := hp_137
              have hP : va_P D classes [((f 3), .inl (cL, 2000, .inr (.inl le))), ((f 4), .inl (cL, 2000, .inr (.inl ri))), (h0, .inr (8, mS f tn rm ln lx at_ bd fs_134 dp on os bn df th tp mo_ ev ss so lk rs pt ot cl)), ((f 5), .inl (cI, 2000, .inl fr_135))] H := hP
              have hD : va_D A [((f 3), .inl (cL, 2000, .inr (.inl le))), ((f 4), .inl (cL, 2000, .inr (.inl ri))), (h0, .inr (8, mS f tn rm ln lx at_ bd fs_134 dp on os bn df th tp mo_ ev ss so lk rs pt ot cl)), ((f 5), .inl (cI, 2000, .inl fr_135))] := hD
              refine W.eq (g2 := F0 m 265 ls []) rfl ?_
              refine lv_iload hx hb d_MO_combined_265 (lv_at hl 3 rfl) ?_
              refine lv_if_eq (tgt := 289) hx hb d_MO_combined_267 (by decide) (fun hbr => absurd hbr (by decide)) (fun hbr => ?_)
              refine lv_aload_n hx hb d_MO_combined_270 rfl (lv_at hl 5 rfl) ?_
              refine lv_aload_n hx hb d_MO_combined_271 rfl (lv_at hl 5 rfl) ?_
              refine lv_bipush (v := 6) hx hb d_MO_combined_272 (by decide) ?_
              refine W.callRL (W.runS (As := [.int 6]) (rest := [.ref h0, .ref h0]) ⟨hx, hb, hml, hown, hG⟩ (mo_constant l D cI cL cZ cC 6 ) (cwS 1 hG (gd_S k_1461 k_1462 k_116 k_1463) rfl rfl rfl (by decide +kernel) ⟨Nat.le_of_ble_eq_true rfl, Nat.le_of_ble_eq_true rfl⟩) (wq_S hP hK [] rfl) rfl rfl hl.1 rfl (lv_room (Nat.le_of_ble_eq_true rfl)) d_MO_combined_274 ⟨Nat.le_of_ble_eq_true rfl, Nat.le_of_ble_eq_true rfl⟩) ?_
              refine W.eq (g2 := F0 m 277 ls [.long (wof 2 6), .ref h0, .ref h0]) rfl ?_
              refine lv_lload_n hx hb d_MO_combined_277 rfl (lv_at hl 6 rfl) ?_
              refine em_call (wr := []) (em_runV (As := [.long (wof 2 6), .long a]) (rest := [.ref h0]) ⟨hx, hb, hml, hown, hG⟩ (mo_apply l D cI cL cZ cC f h0 tn rm ln lx at_ bd fs_134 dp on os bn df th tp mo_ ev ss so lk rs pt ot cl le ri fr_135 (Lean.RArray.leaf (wof 2 6)) T1 Pk (wof 2 6) a _ hfr_138 (rep_lf (by rw [wkind_of]; decide)) h1 (by intro d; have a0 := ho d; have a1 := hoT2 d; have a2 := hF_140 d; have a3 := (Tr.occ_lf (wof 2 6)) d; omega) (hcon 6 (by decide) (by decide)) hk1 (hcon 2 (by decide) (by decide)) (by first | assumption | omega | exact Or.inl rfl) hnt) (cwV 2 hG (gd_V k_1457 k_1459 k_67 k_116 k_1460) rfl rfl rfl (by decide +kernel) ⟨Nat.le_of_ble_eq_true rfl, Nat.le_of_ble_eq_true rfl⟩) (tw_V (q0 := 2) hP hD hK hE hst hS rfl rfl [2, 0, 1, 3] rfl (by decide)) rfl rfl hl.1 rfl (lv_room (Nat.le_of_ble_eq_true rfl)) d_MO_combined_278 ⟨Nat.le_of_ble_eq_true rfl, Nat.le_of_ble_eq_true rfl⟩) hP hD hS hA [2, 0, 1, 3] [] rfl rfl (by decide) (by decide) (fun v u H locs hok hP hD hS => ?_) (fun x C u H locs hbad hxx hP hD hS => ?_)
              · skip
                obtain ⟨bd_142, fs_143, le_144, ri_145⟩ := u
                obtain ⟨r_146, rfl, hp_147⟩ := hok
                obtain ⟨hbz_148, hbo_149, hres_150⟩ : (bd_142 = 0 → bd = 0) ∧ (bdo bd_142) ∧ (∃ T' : Tr, rep le_144 ri_145 r_146 T' ∧ okT Pk T' ∧ (∀ d, fo fr_135 fs_143 d + (toc T') d ≤ fo fr_135 fs_134 d + (toc (Lean.RArray.leaf (wof 2 6)) d + toc T1 d)) ∧ (∀ d, fo fr_135 fs_134 d + (toc (Lean.RArray.leaf (wof 2 6)) d + toc T1 d) = 0 → le_144 d = le d ∧ ri_145 d = ri d)) := hp_147
                obtain ⟨T_151, hR_152, hK_153, hF_154, hA_155⟩ := hres_150
                have hR_156 : rep le_144 ri_145 (ri cq) tx := rep_fr hrtx (fun d hd => hA_155 d (by have a0 := ho d; have a1 := hoT2 d; have a2 := hF_140 d; have a3 := (Tr.occ_lf (wof 2 6)) d; have a4 := hF_154 d; omega))
                have hP : va_P D classes [(h0, .inr (8, mS f tn rm ln lx at_ bd_142 fs_143 dp on os bn df th tp mo_ ev ss so lk rs pt ot cl)), ((f 3), .inl (cL, 2000, .inr (.inl le_144))), ((f 4), .inl (cL, 2000, .inr (.inl ri_145))), ((f 5), .inl (cI, 2000, .inl fr_135))] H := hP
                have hD : va_D A [(h0, .inr (8, mS f tn rm ln lx at_ bd_142 fs_143 dp on os bn df th tp mo_ ev ss so lk rs pt ot cl)), ((f 3), .inl (cL, 2000, .inr (.inl le_144))), ((f 4), .inl (cL, 2000, .inr (.inl ri_145))), ((f 5), .inl (cI, 2000, .inl fr_135))] := hD
                refine W.eq (g2 := F0 m 281 ls [.long r_146, .ref h0]) rfl ?_
                refine lv_lload hx hb d_MO_combined_281 (lv_at hl 1 rfl) ?_
                refine em_call (wr := []) (em_runV (As := [.long r_146, .long (ri cq)]) (rest := []) ⟨hx, hb, hml, hown, hG⟩ (mo_apply l D cI cL cZ cC f h0 tn rm ln lx at_ bd_142 fs_143 dp on os bn df th tp mo_ ev ss so lk rs pt ot cl le_144 ri_145 fr_135 T_151 tx Pk r_146 (ri cq) _ hfr_138 hR_152 hR_156 (by intro d; have a0 := ho d; have a1 := hoT2 d; have a2 := hF_140 d; have a3 := (Tr.occ_lf (wof 2 6)) d; have a4 := hF_154 d; omega) hK_153 hktx (hcon 2 (by decide) (by decide)) (by first | assumption | omega | exact Or.inl rfl) hnt) (cwV 2 hG (gd_V k_1457 k_1459 k_67 k_116 k_1460) rfl rfl rfl (by decide +kernel) ⟨Nat.le_of_ble_eq_true rfl, Nat.le_of_ble_eq_true rfl⟩) (tw_V (q0 := 0) hP hD hK hE hst hS rfl rfl [0, 1, 2, 3] rfl (by decide)) rfl rfl hl.1 rfl (lv_room (Nat.le_of_ble_eq_true rfl)) d_MO_combined_283 ⟨Nat.le_of_ble_eq_true rfl, Nat.le_of_ble_eq_true rfl⟩) hP hD hS hA [0, 1, 2, 3] [] rfl rfl (by decide) (by decide) (fun v u H locs hok hP hD hS => ?_) (fun x C u H locs hbad hxx hP hD hS => ?_)
                · skip
                  obtain ⟨bd_157, fs_158, le_159, ri_160⟩ := u
                  obtain ⟨r_161, rfl, hp_162⟩ := hok
                  obtain ⟨hbz_163, hbo_164, hres_165⟩ : (bd_157 = 0 → bd_142 = 0) ∧ (bdo bd_157) ∧ (∃ T' : Tr, rep le_159 ri_160 r_161 T' ∧ okT Pk T' ∧ (∀ d, fo fr_135 fs_158 d + (toc T') d ≤ fo fr_135 fs_143 d + (toc T_151 d + toc tx d)) ∧ (∀ d, fo fr_135 fs_143 d + (toc T_151 d + toc tx d) = 0 → le_159 d = le_144 d ∧ ri_160 d = ri_145 d)) := hp_162
                  obtain ⟨T_166, hR_167, hK_168, hF_169, hA_170⟩ := hres_165
                  have hP : va_P D classes [(h0, .inr (8, mS f tn rm ln lx at_ bd_157 fs_158 dp on os bn df th tp mo_ ev ss so lk rs pt ot cl)), ((f 3), .inl (cL, 2000, .inr (.inl le_159))), ((f 4), .inl (cL, 2000, .inr (.inl ri_160))), ((f 5), .inl (cI, 2000, .inl fr_135))] H := hP
                  have hD : va_D A [(h0, .inr (8, mS f tn rm ln lx at_ bd_157 fs_158 dp on os bn df th tp mo_ ev ss so lk rs pt ot cl)), ((f 3), .inl (cL, 2000, .inr (.inl le_159))), ((f 4), .inl (cL, 2000, .inr (.inl ri_160))), ((f 5), .inl (cI, 2000, .inl fr_135))] := hD
                  refine W.eq (g2 := F0 m 286 ls [.long r_161]) rfl ?_
                  refine lv_goto (tgt := 303) hx hb d_MO_combined_286 (by decide) ?_
                  exact em_lret hx hb hr hlocks hP hD hK hS (bd_157, fs_158, le_159, ri_160, fr_135) [0, 1, 2, 3] (by decide) rfl ⟨_, rfl, ⟨hfr_138, (show bd_157 = 0 → bd = 0 from (by first | exact id | exact (fun q => absurd q (by assumption)) | exact (fun q => hbz_148 (hbz_163 q)))), (show bdo bd_157 from (by first | assumption | omega | exact Or.inl rfl)), (show ∃ T' : Tr, rep le_159 ri_160 (r_161 : Int64) T' ∧ okT Pk T' ∧ (∀ d, fo fr_135 fs_158 d + (toc T') d ≤ fo fr fs d + (toc T1 d + toc T2 d)) ∧ (∀ d, fo fr fs d + (toc T1 d + toc T2 d) = 0 → le_159 d = le d ∧ ri_160 d = ri d) from ⟨T_166, hR_167, hK_168, (by intro d; have a0 := ho d; have a1 := hoT2 d; have a2 := hF_140 d; have a3 := (Tr.occ_lf (wof 2 6)) d; have a4 := hF_154 d; have a5 := hF_169 d; omega), (fun d hd => by have a0 := ho d; have a1 := hoT2 d; have a2 := hF_140 d; have a3 := (Tr.occ_lf (wof 2 6)) d; have a4 := hF_154 d; have a5 := hF_169 d; have g0 := hA_155 d (by omega); have g1 := hA_170 d (by omega); exact ⟨by rw [g1.1, g0.1], by rw [g1.2, g0.2]⟩)⟩)⟩⟩ d_MO_combined_303
                · skip
                  exact hbad.elim
              · skip
                exact hbad.elim
            · skip
              exact hbad.elim
          · skip
            obtain ⟨cp, ta, tb, eT1, ecp, hcp, hra, hrb⟩ := rep_cell h1 hb_133
            have hoT1 : ∀ d, toc T1 d = i1 d cp + toc ta d + toc tb d := fun d => by rw [eT1, Tr.occ_nd]
            have hkab : okT Pk ta ∧ okT Pk tb := by have hh := hk1; rw [eT1] at hh; exact hh
            refine lv_aload_n hx hb d_MO_combined_64 rfl (lv_at hl 4 rfl) ?_
            refine lv_aload_n hx hb d_MO_combined_65 rfl (lv_at hl 4 rfl) ?_
            refine va_get (D := D) (ci := 8) (v := .ref (f 3)) (C := rn_MO) (T := fl_MO) (N := 55) hx hb hG in_MO hown hK hP 1 rfl rfl 9 (by decide) (hG _ k_1200) (fun _ h9 => h9) rfl d_MO_combined_66 ?_
            refine lv_lload_n hx hb d_MO_combined_69 rfl (lv_at hl 5 rfl) ?_
            refine W.callR (W.runS (As := [.long a]) (rest := [.ref (f 3), .ref h0]) ⟨hx, hb, hml, hown, hG⟩ (mo_valueOf l D cI cL cZ cC a ) (cwS 1 hG (gd_S k_1522 k_1523 k_116 k_1524) rfl rfl rfl (by decide +kernel) ⟨Nat.le_of_ble_eq_true rfl, Nat.le_of_ble_eq_true rfl⟩) (wq_S hP hK [] rfl) rfl rfl hl.1 rfl (lv_room (Nat.le_of_ble_eq_true rfl)) d_MO_combined_70 ⟨Nat.le_of_ble_eq_true rfl, Nat.le_of_ble_eq_true rfl⟩) ?_
            refine W.eq (g2 := F0 m 73 ls [.int a.toInt32, .ref (f 3), .ref h0]) rfl ?_
            refine W.eq (g2 := F0 m 73 ls [.int (nI cp), .ref (f 3), .ref h0]) (by rw [ecp]) ?_
            refine va_lald hx hb hK hP 2 1 rfl rfl (vp_in_nI (n := cp) (N := 2000) (by omega) (by omega)) d_MO_combined_73 ?_
            refine W.eq (g2 := F0 m 74 ls [.long (le cp), .ref h0]) (by rw [nI_clamp (n := cp) (by omega)]) ?_
            refine lv_iconst (v := 5) hx hb d_MO_combined_74 (by decide) ?_
            refine em_call (wr := [((f 5), .inl (cI, 2000, .inl fr))]) (em_runV (As := [.long (le cp), .int 5]) (rest := []) ⟨hx, hb, hml, hown, hG⟩ (mo_isApplied l D cI cL cZ cC f h0 tn rm ln lx at_ bd fs dp on os bn df th tp mo_ ev ss so lk rs pt ot cl le ri ta (le cp) 5 _ hra hnt) (cwV 2 hG (gd_V k_1541 k_1543 k_83 k_116 k_1544) rfl rfl rfl (by decide +kernel) ⟨Nat.le_of_ble_eq_true rfl, Nat.le_of_ble_eq_true rfl⟩) (tw_V (q0 := 1) hP hD hK hE hst hS rfl rfl [1, 2, 3] rfl (by decide)) rfl rfl hl.1 rfl (lv_room (Nat.le_of_ble_eq_true rfl)) d_MO_combined_75 ⟨Nat.le_of_ble_eq_true rfl, Nat.le_of_ble_eq_true rfl⟩) hP hD hS hA [1, 2, 3] [0] rfl rfl (by decide) (by decide) (fun v u H locs hok hP hD hS => ?_) (fun x C u H locs hbad hxx hP hD hS => ?_)
            · skip
              obtain ⟨r_171, rfl, hp_172⟩ := hok
              have hres_173 : ((r_171 = 0 ∨ (r_171 = 1 ∧ ∃ (cc : Nat) (tb : Tr), ta = Lean.RArray.branch cc (Lean.RArray.leaf (wof 2 5)) tb ∧ (le cp).toInt32 = nI cc ∧ cc < 2000 ∧ rep le ri (ri cc) tb))) := hp_172
              have hP : va_P D classes [((f 5), .inl (cI, 2000, .inl fr)), (h0, .inr (8, mS f tn rm ln lx at_ bd fs dp on os bn df th tp mo_ ev ss so lk rs pt ot cl)), ((f 3), .inl (cL, 2000, .inr (.inl le))), ((f 4), .inl (cL, 2000, .inr (.inl ri)))] H := hP
              have hD : va_D A [((f 5), .inl (cI, 2000, .inl fr)), (h0, .inr (8, mS f tn rm ln lx at_ bd fs dp on os bn df th tp mo_ ev ss so lk rs pt ot cl)), ((f 3), .inl (cL, 2000, .inr (.inl le))), ((f 4), .inl (cL, 2000, .inr (.inl ri)))] := hD
              rcases hres_173 with rfl | ⟨rfl, hy_174⟩
              · skip
                refine W.eq (g2 := F0 m 78 ls [.int 0]) rfl ?_
                refine lv_if_eq (tgt := 85) hx hb d_MO_combined_78 (by decide) (fun hbr => ?_) (fun hbr => absurd (by decide) hbr)
                refine lv_iconst (v := 0) hx hb d_MO_combined_85 (by decide) ?_
                refine lv_istore (lv' := [(11, .int 0), (9, .long (ri cq)), (7, .long 0), (6, .int 1), (5, .int 0), (0, .ref h0), (1, .long a), (3, .long b)]) hx hb d_MO_combined_86 hl (Nat.le_of_ble_eq_true rfl) rfl (fun ls hl => ?_)
                refine lv_iload hx hb d_MO_combined_88 (lv_at hl 4 rfl) ?_
                refine lv_if_eq (tgt := 98) hx hb d_MO_combined_90 (by decide) (fun hbr => ?_) (fun hbr => absurd (by decide) hbr)
                refine lv_iload hx hb d_MO_combined_98 (lv_at hl 3 rfl) ?_
                refine lv_if_eq (tgt := 118) hx hb d_MO_combined_100 (by decide) (fun hbr => absurd hbr (by decide)) (fun hbr => ?_)
                refine lv_iload hx hb d_MO_combined_103 (lv_at hl 4 rfl) ?_
                refine lv_if_ne (tgt := 113) hx hb d_MO_combined_105 (by decide) (fun hbr => absurd (by decide) hbr) (fun hbr => ?_)
                refine lv_iload hx hb d_MO_combined_108 (lv_at hl 0 rfl) ?_
                refine lv_if_eq (tgt := 118) hx hb d_MO_combined_110 (by decide) (fun hbr => ?_) (fun hbr => absurd (by decide) hbr)
                refine lv_iload hx hb d_MO_combined_118 (lv_at hl 4 rfl) ?_
                refine lv_if_eq (tgt := 145) hx hb d_MO_combined_120 (by decide) (fun hbr => ?_) (fun hbr => absurd (by decide) hbr)
                refine lv_iload hx hb d_MO_combined_145 (lv_at hl 4 rfl) ?_
                refine lv_if_eq (tgt := 162) hx hb d_MO_combined_147 (by decide) (fun hbr => ?_) (fun hbr => absurd (by decide) hbr)
                refine lv_iload hx hb d_MO_combined_162 (lv_at hl 4 rfl) ?_
                refine lv_if_eq (tgt := 229) hx hb d_MO_combined_164 (by decide) (fun hbr => ?_) (fun hbr => absurd (by decide) hbr)
                refine lv_iload hx hb d_MO_combined_229 (lv_at hl 4 rfl) ?_
                refine lv_if_eq (tgt := 250) hx hb d_MO_combined_231 (by decide) (fun hbr => ?_) (fun hbr => absurd (by decide) hbr)
                refine lv_iload hx hb d_MO_combined_250 (lv_at hl 0 rfl) ?_
                refine lv_if_ne (tgt := 304) hx hb d_MO_combined_252 (by decide) (fun hbr => absurd (by decide) hbr) (fun hbr => ?_)
                refine lv_iload hx hb d_MO_combined_255 (lv_at hl 3 rfl) ?_
                refine lv_if_eq (tgt := 265) hx hb d_MO_combined_257 (by decide) (fun hbr => absurd hbr (by decide)) (fun hbr => ?_)
                refine lv_aload_n hx hb d_MO_combined_260 rfl (lv_at hl 5 rfl) ?_
                refine lv_lload_n hx hb d_MO_combined_261 rfl (lv_at hl 7 rfl) ?_
                refine em_call (wr := [((f 3), .inl (cL, 2000, .inr (.inl le))), ((f 4), .inl (cL, 2000, .inr (.inl ri)))]) (em_runV (As := [.long b]) (rest := []) ⟨hx, hb, hml, hown, hG⟩ (mo_release l D cI cL cZ cC f h0 tn rm ln lx at_ bd fs dp on os bn df th tp mo_ ev ss so lk rs pt ot cl fr cq b _ hfr ecq hcq (by intro d; have a0 := ho d; have a1 := hoT2 d; have a2 := hoT1 d; omega) hnt) (cwV 1 hG (gd_V k_1545 k_1547 k_84 k_116 k_1548) rfl rfl rfl (by decide +kernel) ⟨Nat.le_of_ble_eq_true rfl, Nat.le_of_ble_eq_true rfl⟩) (tw_V (q0 := 1) hP hD hK hE hst hS rfl rfl [1, 0] rfl (by decide)) rfl rfl hl.1 rfl (lv_room (Nat.le_of_ble_eq_true rfl)) d_MO_combined_262 ⟨Nat.le_of_ble_eq_true rfl, Nat.le_of_ble_eq_true rfl⟩) hP hD hS hA [1, 0] [2, 3] rfl rfl (by decide) (by decide) (fun v u H locs hok hP hD hS => ?_) (fun x C u H locs hbad hxx hP hD hS => ?_)
                · skip
                  obtain ⟨fs_175, fr_176⟩ := u
                  obtain ⟨rfl, hp_178⟩ := hok
                  obtain ⟨hfr_179, hfs_180, hF_181⟩ : (rng 2000 fr_176) ∧ (fs_175 = fs + 1) ∧ (∀ d, fo fr_176 fs_175 d = fo fr fs d + i1 d cq) := hp_178
                  have hP : va_P D classes [((f 3), .inl (cL, 2000, .inr (.inl le))), ((f 4), .inl (cL, 2000, .inr (.inl ri))), (h0, .inr (8, mS f tn rm ln lx at_ bd fs_175 dp on os bn df th tp mo_ ev ss so lk rs pt ot cl)), ((f 5), .inl (cI, 2000, .inl fr_176))] H := hP
                  have hD : va_D A [((f 3), .inl (cL, 2000, .inr (.inl le))), ((f 4), .inl (cL, 2000, .inr (.inl ri))), (h0, .inr (8, mS f tn rm ln lx at_ bd fs_175 dp on os bn df th tp mo_ ev ss so lk rs pt ot cl)), ((f 5), .inl (cI, 2000, .inl fr_176))] := hD
                  refine W.eq (g2 := F0 m 265 ls []) rfl ?_
                  refine lv_iload hx hb d_MO_combined_265 (lv_at hl 3 rfl) ?_
                  refine lv_if_eq (tgt := 289) hx hb d_MO_combined_267 (by decide) (fun hbr => absurd hbr (by decide)) (fun hbr => ?_)
                  refine lv_aload_n hx hb d_MO_combined_270 rfl (lv_at hl 5 rfl) ?_
                  refine lv_aload_n hx hb d_MO_combined_271 rfl (lv_at hl 5 rfl) ?_
                  refine lv_bipush (v := 6) hx hb d_MO_combined_272 (by decide) ?_
                  refine W.callRL (W.runS (As := [.int 6]) (rest := [.ref h0, .ref h0]) ⟨hx, hb, hml, hown, hG⟩ (mo_constant l D cI cL cZ cC 6 ) (cwS 1 hG (gd_S k_1461 k_1462 k_116 k_1463) rfl rfl rfl (by decide +kernel) ⟨Nat.le_of_ble_eq_true rfl, Nat.le_of_ble_eq_true rfl⟩) (wq_S hP hK [] rfl) rfl rfl hl.1 rfl (lv_room (Nat.le_of_ble_eq_true rfl)) d_MO_combined_274 ⟨Nat.le_of_ble_eq_true rfl, Nat.le_of_ble_eq_true rfl⟩) ?_
                  refine W.eq (g2 := F0 m 277 ls [.long (wof 2 6), .ref h0, .ref h0]) rfl ?_
                  refine lv_lload_n hx hb d_MO_combined_277 rfl (lv_at hl 6 rfl) ?_
                  refine em_call (wr := []) (em_runV (As := [.long (wof 2 6), .long a]) (rest := [.ref h0]) ⟨hx, hb, hml, hown, hG⟩ (mo_apply l D cI cL cZ cC f h0 tn rm ln lx at_ bd fs_175 dp on os bn df th tp mo_ ev ss so lk rs pt ot cl le ri fr_176 (Lean.RArray.leaf (wof 2 6)) T1 Pk (wof 2 6) a _ hfr_179 (rep_lf (by rw [wkind_of]; decide)) h1 (by intro d; have a0 := ho d; have a1 := hoT2 d; have a2 := hoT1 d; have a3 := hF_181 d; have a4 := (Tr.occ_lf (wof 2 6)) d; omega) (hcon 6 (by decide) (by decide)) hk1 (hcon 2 (by decide) (by decide)) (by first | assumption | omega | exact Or.inl rfl) hnt) (cwV 2 hG (gd_V k_1457 k_1459 k_67 k_116 k_1460) rfl rfl rfl (by decide +kernel) ⟨Nat.le_of_ble_eq_true rfl, Nat.le_of_ble_eq_true rfl⟩) (tw_V (q0 := 2) hP hD hK hE hst hS rfl rfl [2, 0, 1, 3] rfl (by decide)) rfl rfl hl.1 rfl (lv_room (Nat.le_of_ble_eq_true rfl)) d_MO_combined_278 ⟨Nat.le_of_ble_eq_true rfl, Nat.le_of_ble_eq_true rfl⟩) hP hD hS hA [2, 0, 1, 3] [] rfl rfl (by decide) (by decide) (fun v u H locs hok hP hD hS => ?_) (fun x C u H locs hbad hxx hP hD hS => ?_)
                  · skip
                    obtain ⟨bd_183, fs_184, le_185, ri_186⟩ := u
                    obtain ⟨r_187, rfl, hp_188⟩ := hok
                    obtain ⟨hbz_189, hbo_190, hres_191⟩ : (bd_183 = 0 → bd = 0) ∧ (bdo bd_183) ∧ (∃ T' : Tr, rep le_185 ri_186 r_187 T' ∧ okT Pk T' ∧ (∀ d, fo fr_176 fs_184 d + (toc T') d ≤ fo fr_176 fs_175 d + (toc (Lean.RArray.leaf (wof 2 6)) d + toc T1 d)) ∧ (∀ d, fo fr_176 fs_175 d + (toc (Lean.RArray.leaf (wof 2 6)) d + toc T1 d) = 0 → le_185 d = le d ∧ ri_186 d = ri d)) := hp_188
                    obtain ⟨T_192, hR_193, hK_194, hF_195, hA_196⟩ := hres_191
                    have hR_197 : rep le_185 ri_186 (ri cq) tx := rep_fr hrtx (fun d hd => hA_196 d (by have a0 := ho d; have a1 := hoT2 d; have a2 := hoT1 d; have a3 := hF_181 d; have a4 := (Tr.occ_lf (wof 2 6)) d; have a5 := hF_195 d; omega))
                    have hP : va_P D classes [(h0, .inr (8, mS f tn rm ln lx at_ bd_183 fs_184 dp on os bn df th tp mo_ ev ss so lk rs pt ot cl)), ((f 3), .inl (cL, 2000, .inr (.inl le_185))), ((f 4), .inl (cL, 2000, .inr (.inl ri_186))), ((f 5), .inl (cI, 2000, .inl fr_176))] H := hP
                    have hD : va_D A [(h0, .inr (8, mS f tn rm ln lx at_ bd_183 fs_184 dp on os bn df th tp mo_ ev ss so lk rs pt ot cl)), ((f 3), .inl (cL, 2000, .inr (.inl le_185))), ((f 4), .inl (cL, 2000, .inr (.inl ri_186))), ((f 5), .inl (cI, 2000, .inl fr_176))] := hD
                    refine W.eq (g2 := F0 m 281 ls [.long r_187, .ref h0]) rfl ?_
                    refine lv_lload hx hb d_MO_combined_281 (lv_at hl 1 rfl) ?_
                    refine em_call (wr := []) (em_runV (As := [.long r_187, .long (ri cq)]) (rest := []) ⟨hx, hb, hml, hown, hG⟩ (mo_apply l D cI cL cZ cC f h0 tn rm ln lx at_ bd_183 fs_184 dp on os bn df th tp mo_ ev ss so lk rs pt ot cl le_185 ri_186 fr_176 T_192 tx Pk r_187 (ri cq) _ hfr_179 hR_193 hR_197 (by intro d; have a0 := ho d; have a1 := hoT2 d; have a2 := hoT1 d; have a3 := hF_181 d; have a4 := (Tr.occ_lf (wof 2 6)) d; have a5 := hF_195 d; omega) hK_194 hktx (hcon 2 (by decide) (by decide)) (by first | assumption | omega | exact Or.inl rfl) hnt) (cwV 2 hG (gd_V k_1457 k_1459 k_67 k_116 k_1460) rfl rfl rfl (by decide +kernel) ⟨Nat.le_of_ble_eq_true rfl, Nat.le_of_ble_eq_true rfl⟩) (tw_V (q0 := 0) hP hD hK hE hst hS rfl rfl [0, 1, 2, 3] rfl (by decide)) rfl rfl hl.1 rfl (lv_room (Nat.le_of_ble_eq_true rfl)) d_MO_combined_283 ⟨Nat.le_of_ble_eq_true rfl, Nat.le_of_ble_eq_true rfl⟩) hP hD hS hA [0, 1, 2, 3] [] rfl rfl (by decide) (by decide) (fun v u H locs hok hP hD hS => ?_) (fun x C u H locs hbad hxx hP hD hS => ?_)
                    · skip
                      obtain ⟨bd_198, fs_199, le_200, ri_201⟩ := u
                      obtain ⟨r_202, rfl, hp_203⟩ := hok
                      obtain ⟨hbz_204, hbo_205, hres_206⟩ : (bd_198 = 0 → bd_183 = 0) ∧ (bdo bd_198) ∧ (∃ T' : Tr, rep le_200 ri_201 r_202 T' ∧ okT Pk T' ∧ (∀ d, fo fr_176 fs_199 d + (toc T') d ≤ fo fr_176 fs_184 d + (toc T_192 d + toc tx d)) ∧ (∀ d, fo fr_176 fs_184 d + (toc T_192 d + toc tx d) = 0 → le_200 d = le_185 d ∧ ri_201 d = ri_186 d)) := hp_203
                      obtain ⟨T_207, hR_208, hK_209, hF_210, hA_211⟩ := hres_206
                      have hP : va_P D classes [(h0, .inr (8, mS f tn rm ln lx at_ bd_198 fs_199 dp on os bn df th tp mo_ ev ss so lk rs pt ot cl)), ((f 3), .inl (cL, 2000, .inr (.inl le_200))), ((f 4), .inl (cL, 2000, .inr (.inl ri_201))), ((f 5), .inl (cI, 2000, .inl fr_176))] H := hP
                      have hD : va_D A [(h0, .inr (8, mS f tn rm ln lx at_ bd_198 fs_199 dp on os bn df th tp mo_ ev ss so lk rs pt ot cl)), ((f 3), .inl (cL, 2000, .inr (.inl le_200))), ((f 4), .inl (cL, 2000, .inr (.inl ri_201))), ((f 5), .inl (cI, 2000, .inl fr_176))] := hD
                      refine W.eq (g2 := F0 m 286 ls [.long r_202]) rfl ?_
                      refine lv_goto (tgt := 303) hx hb d_MO_combined_286 (by decide) ?_
                      exact em_lret hx hb hr hlocks hP hD hK hS (bd_198, fs_199, le_200, ri_201, fr_176) [0, 1, 2, 3] (by decide) rfl ⟨_, rfl, ⟨hfr_179, (show bd_198 = 0 → bd = 0 from (by first | exact id | exact (fun q => absurd q (by assumption)) | exact (fun q => hbz_189 (hbz_204 q)))), (show bdo bd_198 from (by first | assumption | omega | exact Or.inl rfl)), (show ∃ T' : Tr, rep le_200 ri_201 (r_202 : Int64) T' ∧ okT Pk T' ∧ (∀ d, fo fr_176 fs_199 d + (toc T') d ≤ fo fr fs d + (toc T1 d + toc T2 d)) ∧ (∀ d, fo fr fs d + (toc T1 d + toc T2 d) = 0 → le_200 d = le d ∧ ri_201 d = ri d) from ⟨T_207, hR_208, hK_209, (by intro d; have a0 := ho d; have a1 := hoT2 d; have a2 := hoT1 d; have a3 := hF_181 d; have a4 := (Tr.occ_lf (wof 2 6)) d; have a5 := hF_195 d; have a6 := hF_210 d; omega), (fun d hd => by have a0 := ho d; have a1 := hoT2 d; have a2 := hoT1 d; have a3 := hF_181 d; have a4 := (Tr.occ_lf (wof 2 6)) d; have a5 := hF_195 d; have a6 := hF_210 d; have g0 := hA_196 d (by omega); have g1 := hA_211 d (by omega); exact ⟨by rw [g1.1, g0.1], by rw [g1.2, g0.2]⟩)⟩)⟩⟩ d_MO_combined_303
                    · skip
                      exact hbad.elim
                  · skip
                    exact hbad.elim
                · skip
                  exact hbad.elim
              · skip
                obtain ⟨c2, tg, e2, ec2, hc2, hrg⟩ := hy_174
                have ho2 : ∀ d, toc ta d = i1 d c2 + toc tg d := fun d => by rw [e2, Tr.occ_nd, Tr.occ_lf]; omega
                have hkg : okT Pk tg := by have hh := hkab.1; rw [e2] at hh; exact hh.2
                refine W.eq (g2 := F0 m 78 ls [.int 1]) rfl ?_
                refine lv_if_eq (tgt := 85) hx hb d_MO_combined_78 (by decide) (fun hbr => absurd hbr (by decide)) (fun hbr => ?_)
                refine lv_iconst (v := 1) hx hb d_MO_combined_81 (by decide) ?_
                refine lv_goto (tgt := 86) hx hb d_MO_combined_82 (by decide) ?_
                refine lv_istore (lv' := [(11, .int 1), (9, .long (ri cq)), (7, .long 0), (6, .int 1), (5, .int 0), (0, .ref h0), (1, .long a), (3, .long b)]) hx hb d_MO_combined_86 hl (Nat.le_of_ble_eq_true rfl) rfl (fun ls hl => ?_)
                refine lv_iload hx hb d_MO_combined_88 (lv_at hl 4 rfl) ?_
                refine lv_if_eq (tgt := 98) hx hb d_MO_combined_90 (by decide) (fun hbr => ?_) (fun hbr => absurd (by decide) hbr)
                refine lv_iload hx hb d_MO_combined_98 (lv_at hl 3 rfl) ?_
                refine lv_if_eq (tgt := 118) hx hb d_MO_combined_100 (by decide) (fun hbr => absurd hbr (by decide)) (fun hbr => ?_)
                refine lv_iload hx hb d_MO_combined_103 (lv_at hl 4 rfl) ?_
                refine lv_if_ne (tgt := 113) hx hb d_MO_combined_105 (by decide) (fun hbr => absurd (by decide) hbr) (fun hbr => ?_)
                refine lv_iload hx hb d_MO_combined_108 (lv_at hl 0 rfl) ?_
                refine lv_if_eq (tgt := 118) hx hb d_MO_combined_110 (by decide) (fun hbr => absurd hbr (by decide)) (fun hbr => ?_)
                refine lv_aload_n hx hb d_MO_combined_113 rfl (lv_at hl 5 rfl) ?_
                refine lv_lload_n hx hb d_MO_combined_114 rfl (lv_at hl 7 rfl) ?_
                refine em_call (wr := [((f 3), .inl (cL, 2000, .inr (.inl le))), ((f 4), .inl (cL, 2000, .inr (.inl ri)))]) (em_runV (As := [.long b]) (rest := []) ⟨hx, hb, hml, hown, hG⟩ (mo_release l D cI cL cZ cC f h0 tn rm ln lx at_ bd fs dp on os bn df th tp mo_ ev ss so lk rs pt ot cl fr cq b _ hfr ecq hcq (by intro d; have a0 := ho d; have a1 := hoT2 d; have a2 := hoT1 d; have a3 := ho2 d; omega) hnt) (cwV 1 hG (gd_V k_1545 k_1547 k_84 k_116 k_1548) rfl rfl rfl (by decide +kernel) ⟨Nat.le_of_ble_eq_true rfl, Nat.le_of_ble_eq_true rfl⟩) (tw_V (q0 := 1) hP hD hK hE hst hS rfl rfl [1, 0] rfl (by decide)) rfl rfl hl.1 rfl (lv_room (Nat.le_of_ble_eq_true rfl)) d_MO_combined_115 ⟨Nat.le_of_ble_eq_true rfl, Nat.le_of_ble_eq_true rfl⟩) hP hD hS hA [1, 0] [2, 3] rfl rfl (by decide) (by decide) (fun v u H locs hok hP hD hS => ?_) (fun x C u H locs hbad hxx hP hD hS => ?_)
                · skip
                  obtain ⟨fs_212, fr_213⟩ := u
                  obtain ⟨rfl, hp_215⟩ := hok
                  obtain ⟨hfr_216, hfs_217, hF_218⟩ : (rng 2000 fr_213) ∧ (fs_212 = fs + 1) ∧ (∀ d, fo fr_213 fs_212 d = fo fr fs d + i1 d cq) := hp_215
                  have hP : va_P D classes [((f 3), .inl (cL, 2000, .inr (.inl le))), ((f 4), .inl (cL, 2000, .inr (.inl ri))), (h0, .inr (8, mS f tn rm ln lx at_ bd fs_212 dp on os bn df th tp mo_ ev ss so lk rs pt ot cl)), ((f 5), .inl (cI, 2000, .inl fr_213))] H := hP
                  have hD : va_D A [((f 3), .inl (cL, 2000, .inr (.inl le))), ((f 4), .inl (cL, 2000, .inr (.inl ri))), (h0, .inr (8, mS f tn rm ln lx at_ bd fs_212 dp on os bn df th tp mo_ ev ss so lk rs pt ot cl)), ((f 5), .inl (cI, 2000, .inl fr_213))] := hD
                  refine W.eq (g2 := F0 m 118 ls []) rfl ?_
                  refine lv_iload hx hb d_MO_combined_118 (lv_at hl 4 rfl) ?_
                  refine lv_if_eq (tgt := 145) hx hb d_MO_combined_120 (by decide) (fun hbr => ?_) (fun hbr => absurd (by decide) hbr)
                  refine lv_iload hx hb d_MO_combined_145 (lv_at hl 4 rfl) ?_
                  refine lv_if_eq (tgt := 162) hx hb d_MO_combined_147 (by decide) (fun hbr => ?_) (fun hbr => absurd (by decide) hbr)
                  refine lv_iload hx hb d_MO_combined_162 (lv_at hl 4 rfl) ?_
                  refine lv_if_eq (tgt := 229) hx hb d_MO_combined_164 (by decide) (fun hbr => ?_) (fun hbr => absurd (by decide) hbr)
                  refine lv_iload hx hb d_MO_combined_229 (lv_at hl 4 rfl) ?_
                  refine lv_if_eq (tgt := 250) hx hb d_MO_combined_231 (by decide) (fun hbr => ?_) (fun hbr => absurd (by decide) hbr)
                  refine lv_iload hx hb d_MO_combined_250 (lv_at hl 0 rfl) ?_
                  refine lv_if_ne (tgt := 304) hx hb d_MO_combined_252 (by decide) (fun hbr => ?_) (fun hbr => absurd hbr (by decide))
                  refine lv_aload_n hx hb d_MO_combined_304 rfl (lv_at hl 5 rfl) ?_
                  refine va_get (D := D) (ci := 8) (v := .ref (f 4)) (C := rn_MO) (T := fl_MO) (N := 55) hx hb hG in_MO hown hK hP 2 rfl rfl 10 (by decide) (hG _ k_1201) (fun _ h9 => h9) rfl d_MO_combined_305 ?_
                  refine lv_aload_n hx hb d_MO_combined_308 rfl (lv_at hl 5 rfl) ?_
                  refine va_get (D := D) (ci := 8) (v := .ref (f 3)) (C := rn_MO) (T := fl_MO) (N := 55) hx hb hG in_MO hown hK hP 2 rfl rfl 9 (by decide) (hG _ k_1200) (fun _ h9 => h9) rfl d_MO_combined_309 ?_
                  refine lv_lload_n hx hb d_MO_combined_312 rfl (lv_at hl 6 rfl) ?_
                  refine W.callR (W.runS (As := [.long a]) (rest := [.ref (f 3), .ref (f 4)]) ⟨hx, hb, hml, hown, hG⟩ (mo_valueOf l D cI cL cZ cC a ) (cwS 1 hG (gd_S k_1522 k_1523 k_116 k_1524) rfl rfl rfl (by decide +kernel) ⟨Nat.le_of_ble_eq_true rfl, Nat.le_of_ble_eq_true rfl⟩) (wq_S hP hK [] rfl) rfl rfl hl.1 rfl (lv_room (Nat.le_of_ble_eq_true rfl)) d_MO_combined_313 ⟨Nat.le_of_ble_eq_true rfl, Nat.le_of_ble_eq_true rfl⟩) ?_
                  refine W.eq (g2 := F0 m 316 ls [.int a.toInt32, .ref (f 3), .ref (f 4)]) rfl ?_
                  refine W.eq (g2 := F0 m 316 ls [.int (nI cp), .ref (f 3), .ref (f 4)]) (by rw [ecp]) ?_
                  refine va_lald hx hb hK hP 0 1 rfl rfl (vp_in_nI (n := cp) (N := 2000) (by omega) (by omega)) d_MO_combined_316 ?_
                  refine W.eq (g2 := F0 m 317 ls [.long (le cp), .ref (f 4)]) (by rw [nI_clamp (n := cp) (by omega)]) ?_
                  refine W.callR (W.runS (As := [.long (le cp)]) (rest := [.ref (f 4)]) ⟨hx, hb, hml, hown, hG⟩ (mo_valueOf l D cI cL cZ cC (le cp) ) (cwS 1 hG (gd_S k_1522 k_1523 k_116 k_1524) rfl rfl rfl (by decide +kernel) ⟨Nat.le_of_ble_eq_true rfl, Nat.le_of_ble_eq_true rfl⟩) (wq_S hP hK [] rfl) rfl rfl hl.1 rfl (lv_room (Nat.le_of_ble_eq_true rfl)) d_MO_combined_317 ⟨Nat.le_of_ble_eq_true rfl, Nat.le_of_ble_eq_true rfl⟩) ?_
                  refine W.eq (g2 := F0 m 320 ls [.int ((le cp).toInt32), .ref (f 4)]) rfl ?_
                  refine W.eq (g2 := F0 m 320 ls [.int (nI c2), .ref (f 4)]) (by rw [ec2]) ?_
                  refine va_lald hx hb hK hP 1 1 rfl rfl (vp_in_nI (n := c2) (N := 2000) (by omega) (by omega)) d_MO_combined_320 ?_
                  refine W.eq (g2 := F0 m 321 ls [.long (ri c2)]) (by rw [nI_clamp (n := c2) (by omega)]) ?_
                  refine lv_lstore (lv' := [(12, .long (ri c2)), (11, .int 1), (9, .long (ri cq)), (7, .long 0), (6, .int 1), (5, .int 0), (0, .ref h0), (1, .long a), (3, .long b)]) hx hb d_MO_combined_321 hl (Nat.le_of_ble_eq_true rfl) rfl (fun ls hl => ?_)
                  refine lv_aload_n hx hb d_MO_combined_323 rfl (lv_at hl 6 rfl) ?_
                  refine va_get (D := D) (ci := 8) (v := .ref (f 4)) (C := rn_MO) (T := fl_MO) (N := 55) hx hb hG in_MO hown hK hP 2 rfl rfl 10 (by decide) (hG _ k_1201) (fun _ h9 => h9) rfl d_MO_combined_324 ?_
                  refine lv_lload_n hx hb d_MO_combined_327 rfl (lv_at hl 7 rfl) ?_
                  refine W.callR (W.runS (As := [.long a]) (rest := [.ref (f 4)]) ⟨hx, hb, hml, hown, hG⟩ (mo_valueOf l D cI cL cZ cC a ) (cwS 1 hG (gd_S k_1522 k_1523 k_116 k_1524) rfl rfl rfl (by decide +kernel) ⟨Nat.le_of_ble_eq_true rfl, Nat.le_of_ble_eq_true rfl⟩) (wq_S hP hK [] rfl) rfl rfl hl.1 rfl (lv_room (Nat.le_of_ble_eq_true rfl)) d_MO_combined_328 ⟨Nat.le_of_ble_eq_true rfl, Nat.le_of_ble_eq_true rfl⟩) ?_
                  refine W.eq (g2 := F0 m 331 ls [.int a.toInt32, .ref (f 4)]) rfl ?_
                  refine W.eq (g2 := F0 m 331 ls [.int (nI cp), .ref (f 4)]) (by rw [ecp]) ?_
                  refine va_lald hx hb hK hP 1 1 rfl rfl (vp_in_nI (n := cp) (N := 2000) (by omega) (by omega)) d_MO_combined_331 ?_
                  refine W.eq (g2 := F0 m 332 ls [.long (ri cp)]) (by rw [nI_clamp (n := cp) (by omega)]) ?_
                  refine lv_lstore (lv' := [(14, .long (ri cp)), (12, .long (ri c2)), (11, .int 1), (9, .long (ri cq)), (7, .long 0), (6, .int 1), (5, .int 0), (0, .ref h0), (1, .long a), (3, .long b)]) hx hb d_MO_combined_332 hl (Nat.le_of_ble_eq_true rfl) rfl (fun ls hl => ?_)
                  refine lv_aload_n hx hb d_MO_combined_334 rfl (lv_at hl 7 rfl) ?_
                  refine lv_aload_n hx hb d_MO_combined_335 rfl (lv_at hl 7 rfl) ?_
                  refine va_get (D := D) (ci := 8) (v := .ref (f 3)) (C := rn_MO) (T := fl_MO) (N := 55) hx hb hG in_MO hown hK hP 2 rfl rfl 9 (by decide) (hG _ k_1200) (fun _ h9 => h9) rfl d_MO_combined_336 ?_
                  refine lv_lload_n hx hb d_MO_combined_339 rfl (lv_at hl 8 rfl) ?_
                  refine W.callR (W.runS (As := [.long a]) (rest := [.ref (f 3), .ref h0]) ⟨hx, hb, hml, hown, hG⟩ (mo_valueOf l D cI cL cZ cC a ) (cwS 1 hG (gd_S k_1522 k_1523 k_116 k_1524) rfl rfl rfl (by decide +kernel) ⟨Nat.le_of_ble_eq_true rfl, Nat.le_of_ble_eq_true rfl⟩) (wq_S hP hK [] rfl) rfl rfl hl.1 rfl (lv_room (Nat.le_of_ble_eq_true rfl)) d_MO_combined_340 ⟨Nat.le_of_ble_eq_true rfl, Nat.le_of_ble_eq_true rfl⟩) ?_
                  refine W.eq (g2 := F0 m 343 ls [.int a.toInt32, .ref (f 3), .ref h0]) rfl ?_
                  refine W.eq (g2 := F0 m 343 ls [.int (nI cp), .ref (f 3), .ref h0]) (by rw [ecp]) ?_
                  refine va_lald hx hb hK hP 0 1 rfl rfl (vp_in_nI (n := cp) (N := 2000) (by omega) (by omega)) d_MO_combined_343 ?_
                  refine W.eq (g2 := F0 m 344 ls [.long (le cp), .ref h0]) (by rw [nI_clamp (n := cp) (by omega)]) ?_
                  refine em_call (wr := [((f 3), .inl (cL, 2000, .inr (.inl le))), ((f 4), .inl (cL, 2000, .inr (.inl ri)))]) (em_runV (As := [.long (le cp)]) (rest := []) ⟨hx, hb, hml, hown, hG⟩ (mo_release l D cI cL cZ cC f h0 tn rm ln lx at_ bd fs_212 dp on os bn df th tp mo_ ev ss so lk rs pt ot cl fr_213 c2 (le cp) _ hfr_216 ec2 hc2 (by intro d; have a0 := ho d; have a1 := hoT2 d; have a2 := hoT1 d; have a3 := ho2 d; have a4 := hF_218 d; omega) hnt) (cwV 1 hG (gd_V k_1545 k_1547 k_84 k_116 k_1548) rfl rfl rfl (by decide +kernel) ⟨Nat.le_of_ble_eq_true rfl, Nat.le_of_ble_eq_true rfl⟩) (tw_V (q0 := 2) hP hD hK hE hst hS rfl rfl [2, 3] rfl (by decide)) rfl rfl hl.1 rfl (lv_room (Nat.le_of_ble_eq_true rfl)) d_MO_combined_344 ⟨Nat.le_of_ble_eq_true rfl, Nat.le_of_ble_eq_true rfl⟩) hP hD hS hA [2, 3] [0, 1] rfl rfl (by decide) (by decide) (fun v u H locs hok hP hD hS => ?_) (fun x C u H locs hbad hxx hP hD hS => ?_)
                  · skip
                    obtain ⟨fs_220, fr_221⟩ := u
                    obtain ⟨rfl, hp_223⟩ := hok
                    obtain ⟨hfr_224, hfs_225, hF_226⟩ : (rng 2000 fr_221) ∧ (fs_220 = fs_212 + 1) ∧ (∀ d, fo fr_221 fs_220 d = fo fr_213 fs_212 d + i1 d c2) := hp_223
                    have hP : va_P D classes [((f 3), .inl (cL, 2000, .inr (.inl le))), ((f 4), .inl (cL, 2000, .inr (.inl ri))), (h0, .inr (8, mS f tn rm ln lx at_ bd fs_220 dp on os bn df th tp mo_ ev ss so lk rs pt ot cl)), ((f 5), .inl (cI, 2000, .inl fr_221))] H := hP
                    have hD : va_D A [((f 3), .inl (cL, 2000, .inr (.inl le))), ((f 4), .inl (cL, 2000, .inr (.inl ri))), (h0, .inr (8, mS f tn rm ln lx at_ bd fs_220 dp on os bn df th tp mo_ ev ss so lk rs pt ot cl)), ((f 5), .inl (cI, 2000, .inl fr_221))] := hD
                    refine W.eq (g2 := F0 m 347 ls []) rfl ?_
                    refine lv_aload_n hx hb d_MO_combined_347 rfl (lv_at hl 7 rfl) ?_
                    refine lv_lload_n hx hb d_MO_combined_348 rfl (lv_at hl 8 rfl) ?_
                    refine em_call (wr := [((f 3), .inl (cL, 2000, .inr (.inl le))), ((f 4), .inl (cL, 2000, .inr (.inl ri)))]) (em_runV (As := [.long a]) (rest := []) ⟨hx, hb, hml, hown, hG⟩ (mo_release l D cI cL cZ cC f h0 tn rm ln lx at_ bd fs_220 dp on os bn df th tp mo_ ev ss so lk rs pt ot cl fr_221 cp a _ hfr_224 ecp hcp (by intro d; have a0 := ho d; have a1 := hoT2 d; have a2 := hoT1 d; have a3 := ho2 d; have a4 := hF_218 d; have a5 := hF_226 d; omega) hnt) (cwV 1 hG (gd_V k_1545 k_1547 k_84 k_116 k_1548) rfl rfl rfl (by decide +kernel) ⟨Nat.le_of_ble_eq_true rfl, Nat.le_of_ble_eq_true rfl⟩) (tw_V (q0 := 2) hP hD hK hE hst hS rfl rfl [2, 3] rfl (by decide)) rfl rfl hl.1 rfl (lv_room (Nat.le_of_ble_eq_true rfl)) d_MO_combined_349 ⟨Nat.le_of_ble_eq_true rfl, Nat.le_of_ble_eq_true rfl⟩) hP hD hS hA [2, 3] [0, 1] rfl rfl (by decide) (by decide) (fun v u H locs hok hP hD hS => ?_) (fun x C u H locs hbad hxx hP hD hS => ?_)
                    · skip
                      obtain ⟨fs_228, fr_229⟩ := u
                      obtain ⟨rfl, hp_231⟩ := hok
                      obtain ⟨hfr_232, hfs_233, hF_234⟩ : (rng 2000 fr_229) ∧ (fs_228 = fs_220 + 1) ∧ (∀ d, fo fr_229 fs_228 d = fo fr_221 fs_220 d + i1 d cp) := hp_231
                      have hP : va_P D classes [((f 3), .inl (cL, 2000, .inr (.inl le))), ((f 4), .inl (cL, 2000, .inr (.inl ri))), (h0, .inr (8, mS f tn rm ln lx at_ bd fs_228 dp on os bn df th tp mo_ ev ss so lk rs pt ot cl)), ((f 5), .inl (cI, 2000, .inl fr_229))] H := hP
                      have hD : va_D A [((f 3), .inl (cL, 2000, .inr (.inl le))), ((f 4), .inl (cL, 2000, .inr (.inl ri))), (h0, .inr (8, mS f tn rm ln lx at_ bd fs_228 dp on os bn df th tp mo_ ev ss so lk rs pt ot cl)), ((f 5), .inl (cI, 2000, .inl fr_229))] := hD
                      refine W.eq (g2 := F0 m 352 ls []) rfl ?_
                      refine lv_aload_n hx hb d_MO_combined_352 rfl (lv_at hl 7 rfl) ?_
                      refine lv_aload_n hx hb d_MO_combined_353 rfl (lv_at hl 7 rfl) ?_
                      refine lv_aload_n hx hb d_MO_combined_354 rfl (lv_at hl 7 rfl) ?_
                      refine lv_iload hx hb d_MO_combined_355 (lv_at hl 5 rfl) ?_
                      refine lv_if_eq (tgt := 365) hx hb d_MO_combined_357 (by decide) (fun hbr => absurd hbr (by decide)) (fun hbr => ?_)
                      refine lv_bipush (v := 9) hx hb d_MO_combined_360 (by decide) ?_
                      refine lv_goto (tgt := 367) hx hb d_MO_combined_362 (by decide) ?_
                      refine W.callRL (W.runS (As := [.int 9]) (rest := [.ref h0, .ref h0, .ref h0]) ⟨hx, hb, hml, hown, hG⟩ (mo_constant l D cI cL cZ cC 9 ) (cwS 1 hG (gd_S k_1461 k_1462 k_116 k_1463) rfl rfl rfl (by decide +kernel) ⟨Nat.le_of_ble_eq_true rfl, Nat.le_of_ble_eq_true rfl⟩) (wq_S hP hK [] rfl) rfl rfl hl.1 rfl (lv_room (Nat.le_of_ble_eq_true rfl)) d_MO_combined_367 ⟨Nat.le_of_ble_eq_true rfl, Nat.le_of_ble_eq_true rfl⟩) ?_
                      refine W.eq (g2 := F0 m 370 ls [.long (wof 2 9), .ref h0, .ref h0, .ref h0]) rfl ?_
                      refine lv_lload hx hb d_MO_combined_370 (lv_at hl 1 rfl) ?_
                      refine em_call (wr := []) (em_runV (As := [.long (wof 2 9), .long (ri c2)]) (rest := [.ref h0, .ref h0]) ⟨hx, hb, hml, hown, hG⟩ (mo_apply l D cI cL cZ cC f h0 tn rm ln lx at_ bd fs_228 dp on os bn df th tp mo_ ev ss so lk rs pt ot cl le ri fr_229 (Lean.RArray.leaf (wof 2 9)) tg Pk (wof 2 9) (ri c2) _ hfr_232 (rep_lf (by rw [wkind_of]; decide)) hrg (by intro d; have a0 := ho d; have a1 := hoT2 d; have a2 := hoT1 d; have a3 := ho2 d; have a4 := hF_218 d; have a5 := hF_226 d; have a6 := hF_234 d; have a7 := (Tr.occ_lf (wof 2 9)) d; omega) (hcon 9 (by decide) (by decide)) hkg (hcon 2 (by decide) (by decide)) (by first | assumption | omega | exact Or.inl rfl) hnt) (cwV 2 hG (gd_V k_1457 k_1459 k_67 k_116 k_1460) rfl rfl rfl (by decide +kernel) ⟨Nat.le_of_ble_eq_true rfl, Nat.le_of_ble_eq_true rfl⟩) (tw_V (q0 := 2) hP hD hK hE hst hS rfl rfl [2, 0, 1, 3] rfl (by decide)) rfl rfl hl.1 rfl (lv_room (Nat.le_of_ble_eq_true rfl)) d_MO_combined_372 ⟨Nat.le_of_ble_eq_true rfl, Nat.le_of_ble_eq_true rfl⟩) hP hD hS hA [2, 0, 1, 3] [] rfl rfl (by decide) (by decide) (fun v u H locs hok hP hD hS => ?_) (fun x C u H locs hbad hxx hP hD hS => ?_)
                      · skip
                        obtain ⟨bd_236, fs_237, le_238, ri_239⟩ := u
                        obtain ⟨r_240, rfl, hp_241⟩ := hok
                        obtain ⟨hbz_242, hbo_243, hres_244⟩ : (bd_236 = 0 → bd = 0) ∧ (bdo bd_236) ∧ (∃ T' : Tr, rep le_238 ri_239 r_240 T' ∧ okT Pk T' ∧ (∀ d, fo fr_229 fs_237 d + (toc T') d ≤ fo fr_229 fs_228 d + (toc (Lean.RArray.leaf (wof 2 9)) d + toc tg d)) ∧ (∀ d, fo fr_229 fs_228 d + (toc (Lean.RArray.leaf (wof 2 9)) d + toc tg d) = 0 → le_238 d = le d ∧ ri_239 d = ri d)) := hp_241
                        obtain ⟨T_245, hR_246, hK_247, hF_248, hA_249⟩ := hres_244
                        have hR_250 : rep le_238 ri_239 (ri cq) tx := rep_fr hrtx (fun d hd => hA_249 d (by have a0 := ho d; have a1 := hoT2 d; have a2 := hoT1 d; have a3 := ho2 d; have a4 := hF_218 d; have a5 := hF_226 d; have a6 := hF_234 d; have a7 := (Tr.occ_lf (wof 2 9)) d; have a8 := hF_248 d; omega))
                        have hR_251 : rep le_238 ri_239 (ri cp) tb := rep_fr hrb (fun d hd => hA_249 d (by have a0 := ho d; have a1 := hoT2 d; have a2 := hoT1 d; have a3 := ho2 d; have a4 := hF_218 d; have a5 := hF_226 d; have a6 := hF_234 d; have a7 := (Tr.occ_lf (wof 2 9)) d; have a8 := hF_248 d; omega))
                        have hP : va_P D classes [(h0, .inr (8, mS f tn rm ln lx at_ bd_236 fs_237 dp on os bn df th tp mo_ ev ss so lk rs pt ot cl)), ((f 3), .inl (cL, 2000, .inr (.inl le_238))), ((f 4), .inl (cL, 2000, .inr (.inl ri_239))), ((f 5), .inl (cI, 2000, .inl fr_229))] H := hP
                        have hD : va_D A [(h0, .inr (8, mS f tn rm ln lx at_ bd_236 fs_237 dp on os bn df th tp mo_ ev ss so lk rs pt ot cl)), ((f 3), .inl (cL, 2000, .inr (.inl le_238))), ((f 4), .inl (cL, 2000, .inr (.inl ri_239))), ((f 5), .inl (cI, 2000, .inl fr_229))] := hD
                        refine W.eq (g2 := F0 m 375 ls [.long r_240, .ref h0, .ref h0]) rfl ?_
                        refine lv_lload hx hb d_MO_combined_375 (lv_at hl 0 rfl) ?_
                        refine em_call (wr := []) (em_runV (As := [.long r_240, .long (ri cp)]) (rest := [.ref h0]) ⟨hx, hb, hml, hown, hG⟩ (mo_apply l D cI cL cZ cC f h0 tn rm ln lx at_ bd_236 fs_237 dp on os bn df th tp mo_ ev ss so lk rs pt ot cl le_238 ri_239 fr_229 T_245 tb Pk r_240 (ri cp) _ hfr_232 hR_246 hR_251 (by intro d; have a0 := ho d; have a1 := hoT2 d; have a2 := hoT1 d; have a3 := ho2 d; have a4 := hF_218 d; have a5 := hF_226 d; have a6 := hF_234 d; have a7 := (Tr.occ_lf (wof 2 9)) d; have a8 := hF_248 d; omega) hK_247 hkab.2 (hcon 2 (by decide) (by decide)) (by first | assumption | omega | exact Or.inl rfl) hnt) (cwV 2 hG (gd_V k_1457 k_1459 k_67 k_116 k_1460) rfl rfl rfl (by decide +kernel) ⟨Nat.le_of_ble_eq_true rfl, Nat.le_of_ble_eq_true rfl⟩) (tw_V (q0 := 0) hP hD hK hE hst hS rfl rfl [0, 1, 2, 3] rfl (by decide)) rfl rfl hl.1 rfl (lv_room (Nat.le_of_ble_eq_true rfl)) d_MO_combined_377 ⟨Nat.le_of_ble_eq_true rfl, Nat.le_of_ble_eq_true rfl⟩) hP hD hS hA [0, 1, 2, 3] [] rfl rfl (by decide) (by decide) (fun v u H locs hok hP hD hS => ?_) (fun x C u H locs hbad hxx hP hD hS => ?_)
                        · skip
                          obtain ⟨bd_252, fs_253, le_254, ri_255⟩ := u
                          obtain ⟨r_256, rfl, hp_257⟩ := hok
                          obtain ⟨hbz_258, hbo_259, hres_260⟩ : (bd_252 = 0 → bd_236 = 0) ∧ (bdo bd_252) ∧ (∃ T' : Tr, rep le_254 ri_255 r_256 T' ∧ okT Pk T' ∧ (∀ d, fo fr_229 fs_253 d + (toc T') d ≤ fo fr_229 fs_237 d + (toc T_245 d + toc tb d)) ∧ (∀ d, fo fr_229 fs_237 d + (toc T_245 d + toc tb d) = 0 → le_254 d = le_238 d ∧ ri_255 d = ri_239 d)) := hp_257
                          obtain ⟨T_261, hR_262, hK_263, hF_264, hA_265⟩ := hres_260
                          have hR_266 : rep le_254 ri_255 (ri cq) tx := rep_fr hR_250 (fun d hd => hA_265 d (by have a0 := ho d; have a1 := hoT2 d; have a2 := hoT1 d; have a3 := ho2 d; have a4 := hF_218 d; have a5 := hF_226 d; have a6 := hF_234 d; have a7 := (Tr.occ_lf (wof 2 9)) d; have a8 := hF_248 d; have a9 := hF_264 d; omega))
                          have hP : va_P D classes [(h0, .inr (8, mS f tn rm ln lx at_ bd_252 fs_253 dp on os bn df th tp mo_ ev ss so lk rs pt ot cl)), ((f 3), .inl (cL, 2000, .inr (.inl le_254))), ((f 4), .inl (cL, 2000, .inr (.inl ri_255))), ((f 5), .inl (cI, 2000, .inl fr_229))] H := hP
                          have hD : va_D A [(h0, .inr (8, mS f tn rm ln lx at_ bd_252 fs_253 dp on os bn df th tp mo_ ev ss so lk rs pt ot cl)), ((f 3), .inl (cL, 2000, .inr (.inl le_254))), ((f 4), .inl (cL, 2000, .inr (.inl ri_255))), ((f 5), .inl (cI, 2000, .inl fr_229))] := hD
                          refine W.eq (g2 := F0 m 380 ls [.long r_256, .ref h0]) rfl ?_
                          refine lv_iload hx hb d_MO_combined_380 (lv_at hl 5 rfl) ?_
                          refine lv_if_eq (tgt := 390) hx hb d_MO_combined_382 (by decide) (fun hbr => absurd hbr (by decide)) (fun hbr => ?_)
                          refine lv_lload hx hb d_MO_combined_385 (lv_at hl 3 rfl) ?_
                          refine lv_goto (tgt := 391) hx hb d_MO_combined_387 (by decide) ?_
                          refine em_call (wr := []) (em_runV (As := [.long r_256, .long (ri cq)]) (rest := []) ⟨hx, hb, hml, hown, hG⟩ (mo_apply l D cI cL cZ cC f h0 tn rm ln lx at_ bd_252 fs_253 dp on os bn df th tp mo_ ev ss so lk rs pt ot cl le_254 ri_255 fr_229 T_261 tx Pk r_256 (ri cq) _ hfr_232 hR_262 hR_266 (by intro d; have a0 := ho d; have a1 := hoT2 d; have a2 := hoT1 d; have a3 := ho2 d; have a4 := hF_218 d; have a5 := hF_226 d; have a6 := hF_234 d; have a7 := (Tr.occ_lf (wof 2 9)) d; have a8 := hF_248 d; have a9 := hF_264 d; omega) hK_263 hktx (hcon 2 (by decide) (by decide)) (by first | assumption | omega | exact Or.inl rfl) hnt) (cwV 2 hG (gd_V k_1457 k_1459 k_67 k_116 k_1460) rfl rfl rfl (by decide +kernel) ⟨Nat.le_of_ble_eq_true rfl, Nat.le_of_ble_eq_true rfl⟩) (tw_V (q0 := 0) hP hD hK hE hst hS rfl rfl [0, 1, 2, 3] rfl (by decide)) rfl rfl hl.1 rfl (lv_room (Nat.le_of_ble_eq_true rfl)) d_MO_combined_391 ⟨Nat.le_of_ble_eq_true rfl, Nat.le_of_ble_eq_true rfl⟩) hP hD hS hA [0, 1, 2, 3] [] rfl rfl (by decide) (by decide) (fun v u H locs hok hP hD hS => ?_) (fun x C u H locs hbad hxx hP hD hS => ?_)
                          · skip
                            obtain ⟨bd_267, fs_268, le_269, ri_270⟩ := u
                            obtain ⟨r_271, rfl, hp_272⟩ := hok
                            obtain ⟨hbz_273, hbo_274, hres_275⟩ : (bd_267 = 0 → bd_252 = 0) ∧ (bdo bd_267) ∧ (∃ T' : Tr, rep le_269 ri_270 r_271 T' ∧ okT Pk T' ∧ (∀ d, fo fr_229 fs_268 d + (toc T') d ≤ fo fr_229 fs_253 d + (toc T_261 d + toc tx d)) ∧ (∀ d, fo fr_229 fs_253 d + (toc T_261 d + toc tx d) = 0 → le_269 d = le_254 d ∧ ri_270 d = ri_255 d)) := hp_272
                            obtain ⟨T_276, hR_277, hK_278, hF_279, hA_280⟩ := hres_275
                            have hP : va_P D classes [(h0, .inr (8, mS f tn rm ln lx at_ bd_267 fs_268 dp on os bn df th tp mo_ ev ss so lk rs pt ot cl)), ((f 3), .inl (cL, 2000, .inr (.inl le_269))), ((f 4), .inl (cL, 2000, .inr (.inl ri_270))), ((f 5), .inl (cI, 2000, .inl fr_229))] H := hP
                            have hD : va_D A [(h0, .inr (8, mS f tn rm ln lx at_ bd_267 fs_268 dp on os bn df th tp mo_ ev ss so lk rs pt ot cl)), ((f 3), .inl (cL, 2000, .inr (.inl le_269))), ((f 4), .inl (cL, 2000, .inr (.inl ri_270))), ((f 5), .inl (cI, 2000, .inl fr_229))] := hD
                            refine W.eq (g2 := F0 m 394 ls [.long r_271]) rfl ?_
                            exact em_lret hx hb hr hlocks hP hD hK hS (bd_267, fs_268, le_269, ri_270, fr_229) [0, 1, 2, 3] (by decide) rfl ⟨_, rfl, ⟨hfr_232, (show bd_267 = 0 → bd = 0 from (by first | exact id | exact (fun q => absurd q (by assumption)) | exact (fun q => hbz_242 (hbz_258 (hbz_273 q))))), (show bdo bd_267 from (by first | assumption | omega | exact Or.inl rfl)), (show ∃ T' : Tr, rep le_269 ri_270 (r_271 : Int64) T' ∧ okT Pk T' ∧ (∀ d, fo fr_229 fs_268 d + (toc T') d ≤ fo fr fs d + (toc T1 d + toc T2 d)) ∧ (∀ d, fo fr fs d + (toc T1 d + toc T2 d) = 0 → le_269 d = le d ∧ ri_270 d = ri d) from ⟨T_276, hR_277, hK_278, (by intro d; have a0 := ho d; have a1 := hoT2 d; have a2 := hoT1 d; have a3 := ho2 d; have a4 := hF_218 d; have a5 := hF_226 d; have a6 := hF_234 d; have a7 := (Tr.occ_lf (wof 2 9)) d; have a8 := hF_248 d; have a9 := hF_264 d; have a10 := hF_279 d; omega), (fun d hd => by have a0 := ho d; have a1 := hoT2 d; have a2 := hoT1 d; have a3 := ho2 d; have a4 := hF_218 d; have a5 := hF_226 d; have a6 := hF_234 d; have a7 := (Tr.occ_lf (wof 2 9)) d; have a8 := hF_248 d; have a9 := hF_264 d; have a10 := hF_279 d; have g0 := hA_249 d (by omega); have g1 := hA_265 d (by omega); have g2 := hA_280 d (by omega); exact ⟨by rw [g2.1, g1.1, g0.1], by rw [g2.2, g1.2, g0.2]⟩)⟩)⟩⟩ d_MO_combined_394
                          · skip
                            exact hbad.elim
                        · skip
                          exact hbad.elim
                      · skip
                        exact hbad.elim
                    · skip
                      exact hbad.elim
                  · skip
                    exact hbad.elim
                · skip
                  exact hbad.elim
            · skip
              exact hbad.elim
      · skip
        exact hbad.elim
    · skip
      obtain ⟨cp, tf, eT1, ecp, hcp, hrtf⟩ := hy_4
      have hoT1 : ∀ d, toc T1 d = i1 d cp + toc tf d := fun d => by rw [eT1, Tr.occ_nd, Tr.occ_lf]; omega
      have hktf : okT Pk tf := by have hh := hk1; rw [eT1] at hh; exact hh.2
      have hka : wkind a = 3 := by rw [eT1] at h1; exact h1.1
      refine W.eq (g2 := F0 m 6 ls [.int 1]) rfl ?_
      refine lv_istore (lv' := [(5, .int 1), (0, .ref h0), (1, .long a), (3, .long b)]) hx hb d_MO_combined_6 hl (Nat.le_of_ble_eq_true rfl) rfl (fun ls hl => ?_)
      refine lv_aload_n hx hb d_MO_combined_8 rfl (lv_at hl 1 rfl) ?_
      refine lv_lload_n hx hb d_MO_combined_9 rfl (lv_at hl 3 rfl) ?_
      refine lv_iconst (v := 3) hx hb d_MO_combined_10 (by decide) ?_
      refine em_call (wr := [((f 5), .inl (cI, 2000, .inl fr))]) (em_runV (As := [.long b, .int 3]) (rest := []) ⟨hx, hb, hml, hown, hG⟩ (mo_isApplied l D cI cL cZ cC f h0 tn rm ln lx at_ bd fs dp on os bn df th tp mo_ ev ss so lk rs pt ot cl le ri T2 b 3 _ h2 hnt) (cwV 2 hG (gd_V k_1541 k_1543 k_83 k_116 k_1544) rfl rfl rfl (by decide +kernel) ⟨Nat.le_of_ble_eq_true rfl, Nat.le_of_ble_eq_true rfl⟩) (tw_V (q0 := 1) hP hD hK hE hst hS rfl rfl [1, 2, 3] rfl (by decide)) rfl rfl hl.1 rfl (lv_room (Nat.le_of_ble_eq_true rfl)) d_MO_combined_11 ⟨Nat.le_of_ble_eq_true rfl, Nat.le_of_ble_eq_true rfl⟩) hP hD hS hA [1, 2, 3] [0] rfl rfl (by decide) (by decide) (fun v u H locs hok hP hD hS => ?_) (fun x C u H locs hbad hxx hP hD hS => ?_)
      · skip
        obtain ⟨r_281, rfl, hp_282⟩ := hok
        have hres_283 : ((r_281 = 0 ∨ (r_281 = 1 ∧ ∃ (cc : Nat) (tb : Tr), T2 = Lean.RArray.branch cc (Lean.RArray.leaf (wof 2 3)) tb ∧ b.toInt32 = nI cc ∧ cc < 2000 ∧ rep le ri (ri cc) tb))) := hp_282
        have hP : va_P D classes [((f 5), .inl (cI, 2000, .inl fr)), (h0, .inr (8, mS f tn rm ln lx at_ bd fs dp on os bn df th tp mo_ ev ss so lk rs pt ot cl)), ((f 3), .inl (cL, 2000, .inr (.inl le))), ((f 4), .inl (cL, 2000, .inr (.inl ri)))] H := hP
        have hD : va_D A [((f 5), .inl (cI, 2000, .inl fr)), (h0, .inr (8, mS f tn rm ln lx at_ bd fs dp on os bn df th tp mo_ ev ss so lk rs pt ot cl)), ((f 3), .inl (cL, 2000, .inr (.inl le))), ((f 4), .inl (cL, 2000, .inr (.inl ri)))] := hD
        rcases hres_283 with rfl | ⟨rfl, hy_284⟩
        · skip
          refine W.eq (g2 := F0 m 14 ls [.int 0]) rfl ?_
          refine lv_istore (lv' := [(6, .int 0), (5, .int 1), (0, .ref h0), (1, .long a), (3, .long b)]) hx hb d_MO_combined_14 hl (Nat.le_of_ble_eq_true rfl) rfl (fun ls hl => ?_)
          refine lv_iload hx hb d_MO_combined_16 (lv_at hl 1 rfl) ?_
          refine lv_if_eq (tgt := 33) hx hb d_MO_combined_18 (by decide) (fun hbr => absurd hbr (by decide)) (fun hbr => ?_)
          refine lv_aload_n hx hb d_MO_combined_21 rfl (lv_at hl 2 rfl) ?_
          refine va_get (D := D) (ci := 8) (v := .ref (f 4)) (C := rn_MO) (T := fl_MO) (N := 55) hx hb hG in_MO hown hK hP 1 rfl rfl 10 (by decide) (hG _ k_1201) (fun _ h9 => h9) rfl d_MO_combined_22 ?_
          refine lv_lload_n hx hb d_MO_combined_25 rfl (lv_at hl 3 rfl) ?_
          refine W.callR (W.runS (As := [.long a]) (rest := [.ref (f 4)]) ⟨hx, hb, hml, hown, hG⟩ (mo_valueOf l D cI cL cZ cC a ) (cwS 1 hG (gd_S k_1522 k_1523 k_116 k_1524) rfl rfl rfl (by decide +kernel) ⟨Nat.le_of_ble_eq_true rfl, Nat.le_of_ble_eq_true rfl⟩) (wq_S hP hK [] rfl) rfl rfl hl.1 rfl (lv_room (Nat.le_of_ble_eq_true rfl)) d_MO_combined_26 ⟨Nat.le_of_ble_eq_true rfl, Nat.le_of_ble_eq_true rfl⟩) ?_
          refine W.eq (g2 := F0 m 29 ls [.int a.toInt32, .ref (f 4)]) rfl ?_
          refine W.eq (g2 := F0 m 29 ls [.int (nI cp), .ref (f 4)]) (by rw [ecp]) ?_
          refine va_lald hx hb hK hP 3 1 rfl rfl (vp_in_nI (n := cp) (N := 2000) (by omega) (by omega)) d_MO_combined_29 ?_
          refine W.eq (g2 := F0 m 30 ls [.long (ri cp)]) (by rw [nI_clamp (n := cp) (by omega)]) ?_
          refine lv_goto (tgt := 34) hx hb d_MO_combined_30 (by decide) ?_
          refine lv_lstore (lv' := [(7, .long (ri cp)), (6, .int 0), (5, .int 1), (0, .ref h0), (1, .long a), (3, .long b)]) hx hb d_MO_combined_34 hl (Nat.le_of_ble_eq_true rfl) rfl (fun ls hl => ?_)
          refine lv_iload hx hb d_MO_combined_36 (lv_at hl 1 rfl) ?_
          refine lv_if_eq (tgt := 53) hx hb d_MO_combined_38 (by decide) (fun hbr => ?_) (fun hbr => absurd (by decide) hbr)
          refine lv_lconst (v := 0) hx hb d_MO_combined_53 (by decide) ?_
          refine lv_lstore (lv' := [(9, .long 0), (7, .long (ri cp)), (6, .int 0), (5, .int 1), (0, .ref h0), (1, .long a), (3, .long b)]) hx hb d_MO_combined_54 hl (Nat.le_of_ble_eq_true rfl) rfl (fun ls hl => ?_)
          refine lv_lload_n hx hb d_MO_combined_56 rfl (lv_at hl 5 rfl) ?_
          refine W.callR (W.runS (As := [.long a]) (rest := []) ⟨hx, hb, hml, hown, hG⟩ (mo_kindOf l D cI cL cZ cC a ) (cwS 1 hG (gd_S k_1519 k_1520 k_116 k_1521) rfl rfl rfl (by decide +kernel) ⟨Nat.le_of_ble_eq_true rfl, Nat.le_of_ble_eq_true rfl⟩) (wq_S hP hK [] rfl) rfl rfl hl.1 rfl (lv_room (Nat.le_of_ble_eq_true rfl)) d_MO_combined_57 ⟨Nat.le_of_ble_eq_true rfl, Nat.le_of_ble_eq_true rfl⟩) ?_
          refine W.eq (g2 := F0 m 60 ls [.int (wkind a)]) rfl ?_
          refine lv_iconst (v := 3) hx hb d_MO_combined_60 (by decide) ?_
          refine lv_icmp_ne (tgt := 85) hx hb d_MO_combined_61 (by decide) (fun hbr => absurd hka hbr) (fun hbr => ?_)
          refine lv_aload_n hx hb d_MO_combined_64 rfl (lv_at hl 4 rfl) ?_
          refine lv_aload_n hx hb d_MO_combined_65 rfl (lv_at hl 4 rfl) ?_
          refine va_get (D := D) (ci := 8) (v := .ref (f 3)) (C := rn_MO) (T := fl_MO) (N := 55) hx hb hG in_MO hown hK hP 1 rfl rfl 9 (by decide) (hG _ k_1200) (fun _ h9 => h9) rfl d_MO_combined_66 ?_
          refine lv_lload_n hx hb d_MO_combined_69 rfl (lv_at hl 5 rfl) ?_
          refine W.callR (W.runS (As := [.long a]) (rest := [.ref (f 3), .ref h0]) ⟨hx, hb, hml, hown, hG⟩ (mo_valueOf l D cI cL cZ cC a ) (cwS 1 hG (gd_S k_1522 k_1523 k_116 k_1524) rfl rfl rfl (by decide +kernel) ⟨Nat.le_of_ble_eq_true rfl, Nat.le_of_ble_eq_true rfl⟩) (wq_S hP hK [] rfl) rfl rfl hl.1 rfl (lv_room (Nat.le_of_ble_eq_true rfl)) d_MO_combined_70 ⟨Nat.le_of_ble_eq_true rfl, Nat.le_of_ble_eq_true rfl⟩) ?_
          refine W.eq (g2 := F0 m 73 ls [.int a.toInt32, .ref (f 3), .ref h0]) rfl ?_
          refine W.eq (g2 := F0 m 73 ls [.int (nI cp), .ref (f 3), .ref h0]) (by rw [ecp]) ?_
          refine va_lald hx hb hK hP 2 1 rfl rfl (vp_in_nI (n := cp) (N := 2000) (by omega) (by omega)) d_MO_combined_73 ?_
          refine W.eq (g2 := F0 m 74 ls [.long (le cp), .ref h0]) (by rw [nI_clamp (n := cp) (by omega)]) ?_
          refine lv_iconst (v := 5) hx hb d_MO_combined_74 (by decide) ?_
          refine em_call (wr := [((f 5), .inl (cI, 2000, .inl fr))]) (em_runV (As := [.long (le cp), .int 5]) (rest := []) ⟨hx, hb, hml, hown, hG⟩ (mo_isApplied l D cI cL cZ cC f h0 tn rm ln lx at_ bd fs dp on os bn df th tp mo_ ev ss so lk rs pt ot cl le ri (Lean.RArray.leaf (wof 2 3)) (le cp) 5 _ (by rw [eT1] at h1; exact h1.2.2.2.1) hnt) (cwV 2 hG (gd_V k_1541 k_1543 k_83 k_116 k_1544) rfl rfl rfl (by decide +kernel) ⟨Nat.le_of_ble_eq_true rfl, Nat.le_of_ble_eq_true rfl⟩) (tw_V (q0 := 1) hP hD hK hE hst hS rfl rfl [1, 2, 3] rfl (by decide)) rfl rfl hl.1 rfl (lv_room (Nat.le_of_ble_eq_true rfl)) d_MO_combined_75 ⟨Nat.le_of_ble_eq_true rfl, Nat.le_of_ble_eq_true rfl⟩) hP hD hS hA [1, 2, 3] [0] rfl rfl (by decide) (by decide) (fun v u H locs hok hP hD hS => ?_) (fun x C u H locs hbad hxx hP hD hS => ?_)
          · skip
            obtain ⟨r_285, rfl, hp_286⟩ := hok
            have hres_287 : ((r_285 = 0 ∨ (r_285 = 1 ∧ ∃ (cc : Nat) (tb : Tr), Lean.RArray.leaf (wof 2 3) = Lean.RArray.branch cc (Lean.RArray.leaf (wof 2 5)) tb ∧ (le cp).toInt32 = nI cc ∧ cc < 2000 ∧ rep le ri (ri cc) tb))) := hp_286
            have hP : va_P D classes [((f 5), .inl (cI, 2000, .inl fr)), (h0, .inr (8, mS f tn rm ln lx at_ bd fs dp on os bn df th tp mo_ ev ss so lk rs pt ot cl)), ((f 3), .inl (cL, 2000, .inr (.inl le))), ((f 4), .inl (cL, 2000, .inr (.inl ri)))] H := hP
            have hD : va_D A [((f 5), .inl (cI, 2000, .inl fr)), (h0, .inr (8, mS f tn rm ln lx at_ bd fs dp on os bn df th tp mo_ ev ss so lk rs pt ot cl)), ((f 3), .inl (cL, 2000, .inr (.inl le))), ((f 4), .inl (cL, 2000, .inr (.inl ri)))] := hD
            rcases hres_287 with rfl | ⟨rfl, hy_288⟩
            · skip
              refine W.eq (g2 := F0 m 78 ls [.int 0]) rfl ?_
              refine lv_if_eq (tgt := 85) hx hb d_MO_combined_78 (by decide) (fun hbr => ?_) (fun hbr => absurd (by decide) hbr)
              refine lv_iconst (v := 0) hx hb d_MO_combined_85 (by decide) ?_
              refine lv_istore (lv' := [(11, .int 0), (9, .long 0), (7, .long (ri cp)), (6, .int 0), (5, .int 1), (0, .ref h0), (1, .long a), (3, .long b)]) hx hb d_MO_combined_86 hl (Nat.le_of_ble_eq_true rfl) rfl (fun ls hl => ?_)
              refine lv_iload hx hb d_MO_combined_88 (lv_at hl 4 rfl) ?_
              refine lv_if_eq (tgt := 98) hx hb d_MO_combined_90 (by decide) (fun hbr => absurd hbr (by decide)) (fun hbr => ?_)
              refine lv_aload_n hx hb d_MO_combined_93 rfl (lv_at hl 5 rfl) ?_
              refine lv_lload_n hx hb d_MO_combined_94 rfl (lv_at hl 6 rfl) ?_
              refine em_call (wr := [((f 3), .inl (cL, 2000, .inr (.inl le))), ((f 4), .inl (cL, 2000, .inr (.inl ri)))]) (em_runV (As := [.long a]) (rest := []) ⟨hx, hb, hml, hown, hG⟩ (mo_release l D cI cL cZ cC f h0 tn rm ln lx at_ bd fs dp on os bn df th tp mo_ ev ss so lk rs pt ot cl fr cp a _ hfr ecp hcp (by intro d; have a0 := ho d; have a1 := hoT1 d; omega) hnt) (cwV 1 hG (gd_V k_1545 k_1547 k_84 k_116 k_1548) rfl rfl rfl (by decide +kernel) ⟨Nat.le_of_ble_eq_true rfl, Nat.le_of_ble_eq_true rfl⟩) (tw_V (q0 := 1) hP hD hK hE hst hS rfl rfl [1, 0] rfl (by decide)) rfl rfl hl.1 rfl (lv_room (Nat.le_of_ble_eq_true rfl)) d_MO_combined_95 ⟨Nat.le_of_ble_eq_true rfl, Nat.le_of_ble_eq_true rfl⟩) hP hD hS hA [1, 0] [2, 3] rfl rfl (by decide) (by decide) (fun v u H locs hok hP hD hS => ?_) (fun x C u H locs hbad hxx hP hD hS => ?_)
              · skip
                obtain ⟨fs_289, fr_290⟩ := u
                obtain ⟨rfl, hp_292⟩ := hok
                obtain ⟨hfr_293, hfs_294, hF_295⟩ : (rng 2000 fr_290) ∧ (fs_289 = fs + 1) ∧ (∀ d, fo fr_290 fs_289 d = fo fr fs d + i1 d cp) := hp_292
                have hP : va_P D classes [((f 3), .inl (cL, 2000, .inr (.inl le))), ((f 4), .inl (cL, 2000, .inr (.inl ri))), (h0, .inr (8, mS f tn rm ln lx at_ bd fs_289 dp on os bn df th tp mo_ ev ss so lk rs pt ot cl)), ((f 5), .inl (cI, 2000, .inl fr_290))] H := hP
                have hD : va_D A [((f 3), .inl (cL, 2000, .inr (.inl le))), ((f 4), .inl (cL, 2000, .inr (.inl ri))), (h0, .inr (8, mS f tn rm ln lx at_ bd fs_289 dp on os bn df th tp mo_ ev ss so lk rs pt ot cl)), ((f 5), .inl (cI, 2000, .inl fr_290))] := hD
                refine W.eq (g2 := F0 m 98 ls []) rfl ?_
                refine lv_iload hx hb d_MO_combined_98 (lv_at hl 3 rfl) ?_
                refine lv_if_eq (tgt := 118) hx hb d_MO_combined_100 (by decide) (fun hbr => ?_) (fun hbr => absurd (by decide) hbr)
                refine lv_iload hx hb d_MO_combined_118 (lv_at hl 4 rfl) ?_
                refine lv_if_eq (tgt := 145) hx hb d_MO_combined_120 (by decide) (fun hbr => absurd hbr (by decide)) (fun hbr => ?_)
                refine lv_iload hx hb d_MO_combined_123 (lv_at hl 3 rfl) ?_
                refine lv_if_eq (tgt := 145) hx hb d_MO_combined_125 (by decide) (fun hbr => ?_) (fun hbr => absurd (by decide) hbr)
                refine lv_iload hx hb d_MO_combined_145 (lv_at hl 4 rfl) ?_
                refine lv_if_eq (tgt := 162) hx hb d_MO_combined_147 (by decide) (fun hbr => absurd hbr (by decide)) (fun hbr => ?_)
                refine lv_lload_n hx hb d_MO_combined_150 rfl (lv_at hl 7 rfl) ?_
                refine lv_iconst (v := 2) hx hb d_MO_combined_151 (by decide) ?_
                refine W.callRL (W.runS (As := [.int 2]) (rest := [.long b]) ⟨hx, hb, hml, hown, hG⟩ (mo_constant l D cI cL cZ cC 2 ) (cwS 1 hG (gd_S k_1461 k_1462 k_116 k_1463) rfl rfl rfl (by decide +kernel) ⟨Nat.le_of_ble_eq_true rfl, Nat.le_of_ble_eq_true rfl⟩) (wq_S hP hK [] rfl) rfl rfl hl.1 rfl (lv_room (Nat.le_of_ble_eq_true rfl)) d_MO_combined_152 ⟨Nat.le_of_ble_eq_true rfl, Nat.le_of_ble_eq_true rfl⟩) ?_
                refine W.eq (g2 := F0 m 155 ls [.long (wof 2 2), .long b]) rfl ?_
                refine W.lcmp hx hb d_MO_combined_155 ?_
                refine lv_if_ne (tgt := 162) hx hb d_MO_combined_156 (by decide) (fun hb_297 => ?_) (fun hb_297 => ?_)
                · skip
                  have hq_298 : ¬ _ := fun h => hb_297 ((lg_cmp_eq _ _).mpr h)
                  refine lv_iload hx hb d_MO_combined_162 (lv_at hl 4 rfl) ?_
                  refine lv_if_eq (tgt := 229) hx hb d_MO_combined_164 (by decide) (fun hbr => absurd hbr (by decide)) (fun hbr => ?_)
                  refine lv_lload hx hb d_MO_combined_167 (lv_at hl 2 rfl) ?_
                  refine W.callR (W.runS (As := [.long (ri cp)]) (rest := []) ⟨hx, hb, hml, hown, hG⟩ (mo_kindOf l D cI cL cZ cC (ri cp) ) (cwS 1 hG (gd_S k_1519 k_1520 k_116 k_1521) rfl rfl rfl (by decide +kernel) ⟨Nat.le_of_ble_eq_true rfl, Nat.le_of_ble_eq_true rfl⟩) (wq_S hP hK [] rfl) rfl rfl hl.1 rfl (lv_room (Nat.le_of_ble_eq_true rfl)) d_MO_combined_169 ⟨Nat.le_of_ble_eq_true rfl, Nat.le_of_ble_eq_true rfl⟩) ?_
                  refine W.eq (g2 := F0 m 172 ls [.int (wkind (ri cp))]) rfl ?_
                  refine lv_iconst (v := 3) hx hb d_MO_combined_172 (by decide) ?_
                  refine lv_icmp_ne (tgt := 229) hx hb d_MO_combined_173 (by decide) (fun hb_299 => ?_) (fun hb_299 => ?_)
                  · skip
                    refine lv_iload hx hb d_MO_combined_229 (lv_at hl 4 rfl) ?_
                    refine lv_if_eq (tgt := 250) hx hb d_MO_combined_231 (by decide) (fun hbr => absurd hbr (by decide)) (fun hbr => ?_)
                    refine lv_aload_n hx hb d_MO_combined_234 rfl (lv_at hl 5 rfl) ?_
                    refine lv_aload_n hx hb d_MO_combined_235 rfl (lv_at hl 5 rfl) ?_
                    refine lv_iconst (v := 5) hx hb d_MO_combined_236 (by decide) ?_
                    refine W.callRL (W.runS (As := [.int 5]) (rest := [.ref h0, .ref h0]) ⟨hx, hb, hml, hown, hG⟩ (mo_constant l D cI cL cZ cC 5 ) (cwS 1 hG (gd_S k_1461 k_1462 k_116 k_1463) rfl rfl rfl (by decide +kernel) ⟨Nat.le_of_ble_eq_true rfl, Nat.le_of_ble_eq_true rfl⟩) (wq_S hP hK [] rfl) rfl rfl hl.1 rfl (lv_room (Nat.le_of_ble_eq_true rfl)) d_MO_combined_237 ⟨Nat.le_of_ble_eq_true rfl, Nat.le_of_ble_eq_true rfl⟩) ?_
                    refine W.eq (g2 := F0 m 240 ls [.long (wof 2 5), .ref h0, .ref h0]) rfl ?_
                    refine lv_lload hx hb d_MO_combined_240 (lv_at hl 2 rfl) ?_
                    refine em_call (wr := []) (em_runV (As := [.long (wof 2 5), .long (ri cp)]) (rest := [.ref h0]) ⟨hx, hb, hml, hown, hG⟩ (mo_apply l D cI cL cZ cC f h0 tn rm ln lx at_ bd fs_289 dp on os bn df th tp mo_ ev ss so lk rs pt ot cl le ri fr_290 (Lean.RArray.leaf (wof 2 5)) tf Pk (wof 2 5) (ri cp) _ hfr_293 (rep_lf (by rw [wkind_of]; decide)) hrtf (by intro d; have a0 := ho d; have a1 := hoT1 d; have a2 := hF_295 d; have a3 := (Tr.occ_lf (wof 2 5)) d; omega) (hcon 5 (by decide) (by decide)) hktf (hcon 2 (by decide) (by decide)) (by first | assumption | omega | exact Or.inl rfl) hnt) (cwV 2 hG (gd_V k_1457 k_1459 k_67 k_116 k_1460) rfl rfl rfl (by decide +kernel) ⟨Nat.le_of_ble_eq_true rfl, Nat.le_of_ble_eq_true rfl⟩) (tw_V (q0 := 2) hP hD hK hE hst hS rfl rfl [2, 0, 1, 3] rfl (by decide)) rfl rfl hl.1 rfl (lv_room (Nat.le_of_ble_eq_true rfl)) d_MO_combined_242 ⟨Nat.le_of_ble_eq_true rfl, Nat.le_of_ble_eq_true rfl⟩) hP hD hS hA [2, 0, 1, 3] [] rfl rfl (by decide) (by decide) (fun v u H locs hok hP hD hS => ?_) (fun x C u H locs hbad hxx hP hD hS => ?_)
                    · skip
                      obtain ⟨bd_300, fs_301, le_302, ri_303⟩ := u
                      obtain ⟨r_304, rfl, hp_305⟩ := hok
                      obtain ⟨hbz_306, hbo_307, hres_308⟩ : (bd_300 = 0 → bd = 0) ∧ (bdo bd_300) ∧ (∃ T' : Tr, rep le_302 ri_303 r_304 T' ∧ okT Pk T' ∧ (∀ d, fo fr_290 fs_301 d + (toc T') d ≤ fo fr_290 fs_289 d + (toc (Lean.RArray.leaf (wof 2 5)) d + toc tf d)) ∧ (∀ d, fo fr_290 fs_289 d + (toc (Lean.RArray.leaf (wof 2 5)) d + toc tf d) = 0 → le_302 d = le d ∧ ri_303 d = ri d)) := hp_305
                      obtain ⟨T_309, hR_310, hK_311, hF_312, hA_313⟩ := hres_308
                      have hR_314 : rep le_302 ri_303 b T2 := rep_fr h2 (fun d hd => hA_313 d (by have a0 := ho d; have a1 := hoT1 d; have a2 := hF_295 d; have a3 := (Tr.occ_lf (wof 2 5)) d; have a4 := hF_312 d; omega))
                      have hP : va_P D classes [(h0, .inr (8, mS f tn rm ln lx at_ bd_300 fs_301 dp on os bn df th tp mo_ ev ss so lk rs pt ot cl)), ((f 3), .inl (cL, 2000, .inr (.inl le_302))), ((f 4), .inl (cL, 2000, .inr (.inl ri_303))), ((f 5), .inl (cI, 2000, .inl fr_290))] H := hP
                      have hD : va_D A [(h0, .inr (8, mS f tn rm ln lx at_ bd_300 fs_301 dp on os bn df th tp mo_ ev ss so lk rs pt ot cl)), ((f 3), .inl (cL, 2000, .inr (.inl le_302))), ((f 4), .inl (cL, 2000, .inr (.inl ri_303))), ((f 5), .inl (cI, 2000, .inl fr_290))] := hD
                      refine W.eq (g2 := F0 m 245 ls [.long r_304, .ref h0]) rfl ?_
                      refine lv_lload_n hx hb d_MO_combined_245 rfl (lv_at hl 7 rfl) ?_
                      refine em_call (wr := []) (em_runV (As := [.long r_304, .long b]) (rest := []) ⟨hx, hb, hml, hown, hG⟩ (mo_apply l D cI cL cZ cC f h0 tn rm ln lx at_ bd_300 fs_301 dp on os bn df th tp mo_ ev ss so lk rs pt ot cl le_302 ri_303 fr_290 T_309 T2 Pk r_304 b _ hfr_293 hR_310 hR_314 (by intro d; have a0 := ho d; have a1 := hoT1 d; have a2 := hF_295 d; have a3 := (Tr.occ_lf (wof 2 5)) d; have a4 := hF_312 d; omega) hK_311 hk2 (hcon 2 (by decide) (by decide)) (by first | assumption | omega | exact Or.inl rfl) hnt) (cwV 2 hG (gd_V k_1457 k_1459 k_67 k_116 k_1460) rfl rfl rfl (by decide +kernel) ⟨Nat.le_of_ble_eq_true rfl, Nat.le_of_ble_eq_true rfl⟩) (tw_V (q0 := 0) hP hD hK hE hst hS rfl rfl [0, 1, 2, 3] rfl (by decide)) rfl rfl hl.1 rfl (lv_room (Nat.le_of_ble_eq_true rfl)) d_MO_combined_246 ⟨Nat.le_of_ble_eq_true rfl, Nat.le_of_ble_eq_true rfl⟩) hP hD hS hA [0, 1, 2, 3] [] rfl rfl (by decide) (by decide) (fun v u H locs hok hP hD hS => ?_) (fun x C u H locs hbad hxx hP hD hS => ?_)
                      · skip
                        obtain ⟨bd_315, fs_316, le_317, ri_318⟩ := u
                        obtain ⟨r_319, rfl, hp_320⟩ := hok
                        obtain ⟨hbz_321, hbo_322, hres_323⟩ : (bd_315 = 0 → bd_300 = 0) ∧ (bdo bd_315) ∧ (∃ T' : Tr, rep le_317 ri_318 r_319 T' ∧ okT Pk T' ∧ (∀ d, fo fr_290 fs_316 d + (toc T') d ≤ fo fr_290 fs_301 d + (toc T_309 d + toc T2 d)) ∧ (∀ d, fo fr_290 fs_301 d + (toc T_309 d + toc T2 d) = 0 → le_317 d = le_302 d ∧ ri_318 d = ri_303 d)) := hp_320
                        obtain ⟨T_324, hR_325, hK_326, hF_327, hA_328⟩ := hres_323
                        have hP : va_P D classes [(h0, .inr (8, mS f tn rm ln lx at_ bd_315 fs_316 dp on os bn df th tp mo_ ev ss so lk rs pt ot cl)), ((f 3), .inl (cL, 2000, .inr (.inl le_317))), ((f 4), .inl (cL, 2000, .inr (.inl ri_318))), ((f 5), .inl (cI, 2000, .inl fr_290))] H := hP
                        have hD : va_D A [(h0, .inr (8, mS f tn rm ln lx at_ bd_315 fs_316 dp on os bn df th tp mo_ ev ss so lk rs pt ot cl)), ((f 3), .inl (cL, 2000, .inr (.inl le_317))), ((f 4), .inl (cL, 2000, .inr (.inl ri_318))), ((f 5), .inl (cI, 2000, .inl fr_290))] := hD
                        refine W.eq (g2 := F0 m 249 ls [.long r_319]) rfl ?_
                        exact em_lret hx hb hr hlocks hP hD hK hS (bd_315, fs_316, le_317, ri_318, fr_290) [0, 1, 2, 3] (by decide) rfl ⟨_, rfl, ⟨hfr_293, (show bd_315 = 0 → bd = 0 from (by first | exact id | exact (fun q => absurd q (by assumption)) | exact (fun q => hbz_306 (hbz_321 q)))), (show bdo bd_315 from (by first | assumption | omega | exact Or.inl rfl)), (show ∃ T' : Tr, rep le_317 ri_318 (r_319 : Int64) T' ∧ okT Pk T' ∧ (∀ d, fo fr_290 fs_316 d + (toc T') d ≤ fo fr fs d + (toc T1 d + toc T2 d)) ∧ (∀ d, fo fr fs d + (toc T1 d + toc T2 d) = 0 → le_317 d = le d ∧ ri_318 d = ri d) from ⟨T_324, hR_325, hK_326, (by intro d; have a0 := ho d; have a1 := hoT1 d; have a2 := hF_295 d; have a3 := (Tr.occ_lf (wof 2 5)) d; have a4 := hF_312 d; have a5 := hF_327 d; omega), (fun d hd => by have a0 := ho d; have a1 := hoT1 d; have a2 := hF_295 d; have a3 := (Tr.occ_lf (wof 2 5)) d; have a4 := hF_312 d; have a5 := hF_327 d; have g0 := hA_313 d (by omega); have g1 := hA_328 d (by omega); exact ⟨by rw [g1.1, g0.1], by rw [g1.2, g0.2]⟩)⟩)⟩⟩ d_MO_combined_249
                      · skip
                        exact hbad.elim
                    · skip
                      exact hbad.elim
                  · skip
                    obtain ⟨cf, fa, fb, ef, ecf, hcf, hrfa, hrfb⟩ := rep_cell hrtf hb_299
                    have hof : ∀ d, toc tf d = i1 d cf + toc fa d + toc fb d := fun d => by rw [ef, Tr.occ_nd]
                    have hkf : okT Pk fa ∧ okT Pk fb := by have hh := hktf; rw [ef] at hh; exact hh
                    refine lv_aload_n hx hb d_MO_combined_176 rfl (lv_at hl 5 rfl) ?_
                    refine va_get (D := D) (ci := 8) (v := .ref (f 3)) (C := rn_MO) (T := fl_MO) (N := 55) hx hb hG in_MO hown hK hP 2 rfl rfl 9 (by decide) (hG _ k_1200) (fun _ h9 => h9) rfl d_MO_combined_177 ?_
                    refine lv_lload hx hb d_MO_combined_180 (lv_at hl 2 rfl) ?_
                    refine W.callR (W.runS (As := [.long (ri cp)]) (rest := [.ref (f 3)]) ⟨hx, hb, hml, hown, hG⟩ (mo_valueOf l D cI cL cZ cC (ri cp) ) (cwS 1 hG (gd_S k_1522 k_1523 k_116 k_1524) rfl rfl rfl (by decide +kernel) ⟨Nat.le_of_ble_eq_true rfl, Nat.le_of_ble_eq_true rfl⟩) (wq_S hP hK [] rfl) rfl rfl hl.1 rfl (lv_room (Nat.le_of_ble_eq_true rfl)) d_MO_combined_182 ⟨Nat.le_of_ble_eq_true rfl, Nat.le_of_ble_eq_true rfl⟩) ?_
                    refine W.eq (g2 := F0 m 185 ls [.int ((ri cp).toInt32), .ref (f 3)]) rfl ?_
                    refine W.eq (g2 := F0 m 185 ls [.int (nI cf), .ref (f 3)]) (by rw [ecf]) ?_
                    refine va_lald hx hb hK hP 0 1 rfl rfl (vp_in_nI (n := cf) (N := 2000) (by omega) (by omega)) d_MO_combined_185 ?_
                    refine W.eq (g2 := F0 m 186 ls [.long (le cf)]) (by rw [nI_clamp (n := cf) (by omega)]) ?_
                    refine lv_lstore (lv' := [(12, .long (le cf)), (11, .int 0), (9, .long 0), (7, .long (ri cp)), (6, .int 0), (5, .int 1), (0, .ref h0), (1, .long a), (3, .long b)]) hx hb d_MO_combined_186 hl (Nat.le_of_ble_eq_true rfl) rfl (fun ls hl => ?_)
                    refine lv_aload_n hx hb d_MO_combined_188 rfl (lv_at hl 6 rfl) ?_
                    refine va_get (D := D) (ci := 8) (v := .ref (f 4)) (C := rn_MO) (T := fl_MO) (N := 55) hx hb hG in_MO hown hK hP 2 rfl rfl 10 (by decide) (hG _ k_1201) (fun _ h9 => h9) rfl d_MO_combined_189 ?_
                    refine lv_lload hx hb d_MO_combined_192 (lv_at hl 3 rfl) ?_
                    refine W.callR (W.runS (As := [.long (ri cp)]) (rest := [.ref (f 4)]) ⟨hx, hb, hml, hown, hG⟩ (mo_valueOf l D cI cL cZ cC (ri cp) ) (cwS 1 hG (gd_S k_1522 k_1523 k_116 k_1524) rfl rfl rfl (by decide +kernel) ⟨Nat.le_of_ble_eq_true rfl, Nat.le_of_ble_eq_true rfl⟩) (wq_S hP hK [] rfl) rfl rfl hl.1 rfl (lv_room (Nat.le_of_ble_eq_true rfl)) d_MO_combined_194 ⟨Nat.le_of_ble_eq_true rfl, Nat.le_of_ble_eq_true rfl⟩) ?_
                    refine W.eq (g2 := F0 m 197 ls [.int ((ri cp).toInt32), .ref (f 4)]) rfl ?_
                    refine W.eq (g2 := F0 m 197 ls [.int (nI cf), .ref (f 4)]) (by rw [ecf]) ?_
                    refine va_lald hx hb hK hP 1 1 rfl rfl (vp_in_nI (n := cf) (N := 2000) (by omega) (by omega)) d_MO_combined_197 ?_
                    refine W.eq (g2 := F0 m 198 ls [.long (ri cf)]) (by rw [nI_clamp (n := cf) (by omega)]) ?_
                    refine lv_lstore (lv' := [(14, .long (ri cf)), (12, .long (le cf)), (11, .int 0), (9, .long 0), (7, .long (ri cp)), (6, .int 0), (5, .int 1), (0, .ref h0), (1, .long a), (3, .long b)]) hx hb d_MO_combined_198 hl (Nat.le_of_ble_eq_true rfl) rfl (fun ls hl => ?_)
                    refine lv_aload_n hx hb d_MO_combined_200 rfl (lv_at hl 7 rfl) ?_
                    refine lv_lload hx hb d_MO_combined_201 (lv_at hl 4 rfl) ?_
                    refine em_call (wr := [((f 3), .inl (cL, 2000, .inr (.inl le))), ((f 4), .inl (cL, 2000, .inr (.inl ri)))]) (em_runV (As := [.long (ri cp)]) (rest := []) ⟨hx, hb, hml, hown, hG⟩ (mo_release l D cI cL cZ cC f h0 tn rm ln lx at_ bd fs_289 dp on os bn df th tp mo_ ev ss so lk rs pt ot cl fr_290 cf (ri cp) _ hfr_293 ecf hcf (by intro d; have a0 := ho d; have a1 := hoT1 d; have a2 := hF_295 d; have a3 := hof d; omega) hnt) (cwV 1 hG (gd_V k_1545 k_1547 k_84 k_116 k_1548) rfl rfl rfl (by decide +kernel) ⟨Nat.le_of_ble_eq_true rfl, Nat.le_of_ble_eq_true rfl⟩) (tw_V (q0 := 2) hP hD hK hE hst hS rfl rfl [2, 3] rfl (by decide)) rfl rfl hl.1 rfl (lv_room (Nat.le_of_ble_eq_true rfl)) d_MO_combined_203 ⟨Nat.le_of_ble_eq_true rfl, Nat.le_of_ble_eq_true rfl⟩) hP hD hS hA [2, 3] [0, 1] rfl rfl (by decide) (by decide) (fun v u H locs hok hP hD hS => ?_) (fun x C u H locs hbad hxx hP hD hS => ?_)
                    · skip
                      obtain ⟨fs_329, fr_330⟩ := u
                      obtain ⟨rfl, hp_332⟩ := hok
                      obtain ⟨hfr_333, hfs_334, hF_335⟩ : (rng 2000 fr_330) ∧ (fs_329 = fs_289 + 1) ∧ (∀ d, fo fr_330 fs_329 d = fo fr_290 fs_289 d + i1 d cf) := hp_332
                      have hP : va_P D classes [((f 3), .inl (cL, 2000, .inr (.inl le))), ((f 4), .inl (cL, 2000, .inr (.inl ri))), (h0, .inr (8, mS f tn rm ln lx at_ bd fs_329 dp on os bn df th tp mo_ ev ss so lk rs pt ot cl)), ((f 5), .inl (cI, 2000, .inl fr_330))] H := hP
                      have hD : va_D A [((f 3), .inl (cL, 2000, .inr (.inl le))), ((f 4), .inl (cL, 2000, .inr (.inl ri))), (h0, .inr (8, mS f tn rm ln lx at_ bd fs_329 dp on os bn df th tp mo_ ev ss so lk rs pt ot cl)), ((f 5), .inl (cI, 2000, .inl fr_330))] := hD
                      refine W.eq (g2 := F0 m 206 ls []) rfl ?_
                      refine lv_aload_n hx hb d_MO_combined_206 rfl (lv_at hl 7 rfl) ?_
                      refine lv_aload_n hx hb d_MO_combined_207 rfl (lv_at hl 7 rfl) ?_
                      refine lv_aload_n hx hb d_MO_combined_208 rfl (lv_at hl 7 rfl) ?_
                      refine lv_bipush (v := 8) hx hb d_MO_combined_209 (by decide) ?_
                      refine W.callRL (W.runS (As := [.int 8]) (rest := [.ref h0, .ref h0, .ref h0]) ⟨hx, hb, hml, hown, hG⟩ (mo_constant l D cI cL cZ cC 8 ) (cwS 1 hG (gd_S k_1461 k_1462 k_116 k_1463) rfl rfl rfl (by decide +kernel) ⟨Nat.le_of_ble_eq_true rfl, Nat.le_of_ble_eq_true rfl⟩) (wq_S hP hK [] rfl) rfl rfl hl.1 rfl (lv_room (Nat.le_of_ble_eq_true rfl)) d_MO_combined_211 ⟨Nat.le_of_ble_eq_true rfl, Nat.le_of_ble_eq_true rfl⟩) ?_
                      refine W.eq (g2 := F0 m 214 ls [.long (wof 2 8), .ref h0, .ref h0, .ref h0]) rfl ?_
                      refine lv_lload hx hb d_MO_combined_214 (lv_at hl 1 rfl) ?_
                      refine em_call (wr := []) (em_runV (As := [.long (wof 2 8), .long (le cf)]) (rest := [.ref h0, .ref h0]) ⟨hx, hb, hml, hown, hG⟩ (mo_apply l D cI cL cZ cC f h0 tn rm ln lx at_ bd fs_329 dp on os bn df th tp mo_ ev ss so lk rs pt ot cl le ri fr_330 (Lean.RArray.leaf (wof 2 8)) fa Pk (wof 2 8) (le cf) _ hfr_333 (rep_lf (by rw [wkind_of]; decide)) hrfa (by intro d; have a0 := ho d; have a1 := hoT1 d; have a2 := hF_295 d; have a3 := hof d; have a4 := hF_335 d; have a5 := (Tr.occ_lf (wof 2 8)) d; omega) (hcon 8 (by decide) (by decide)) hkf.1 (hcon 2 (by decide) (by decide)) (by first | assumption | omega | exact Or.inl rfl) hnt) (cwV 2 hG (gd_V k_1457 k_1459 k_67 k_116 k_1460) rfl rfl rfl (by decide +kernel) ⟨Nat.le_of_ble_eq_true rfl, Nat.le_of_ble_eq_true rfl⟩) (tw_V (q0 := 2) hP hD hK hE hst hS rfl rfl [2, 0, 1, 3] rfl (by decide)) rfl rfl hl.1 rfl (lv_room (Nat.le_of_ble_eq_true rfl)) d_MO_combined_216 ⟨Nat.le_of_ble_eq_true rfl, Nat.le_of_ble_eq_true rfl⟩) hP hD hS hA [2, 0, 1, 3] [] rfl rfl (by decide) (by decide) (fun v u H locs hok hP hD hS => ?_) (fun x C u H locs hbad hxx hP hD hS => ?_)
                      · skip
                        obtain ⟨bd_337, fs_338, le_339, ri_340⟩ := u
                        obtain ⟨r_341, rfl, hp_342⟩ := hok
                        obtain ⟨hbz_343, hbo_344, hres_345⟩ : (bd_337 = 0 → bd = 0) ∧ (bdo bd_337) ∧ (∃ T' : Tr, rep le_339 ri_340 r_341 T' ∧ okT Pk T' ∧ (∀ d, fo fr_330 fs_338 d + (toc T') d ≤ fo fr_330 fs_329 d + (toc (Lean.RArray.leaf (wof 2 8)) d + toc fa d)) ∧ (∀ d, fo fr_330 fs_329 d + (toc (Lean.RArray.leaf (wof 2 8)) d + toc fa d) = 0 → le_339 d = le d ∧ ri_340 d = ri d)) := hp_342
                        obtain ⟨T_346, hR_347, hK_348, hF_349, hA_350⟩ := hres_345
                        have hR_351 : rep le_339 ri_340 b T2 := rep_fr h2 (fun d hd => hA_350 d (by have a0 := ho d; have a1 := hoT1 d; have a2 := hF_295 d; have a3 := hof d; have a4 := hF_335 d; have a5 := (Tr.occ_lf (wof 2 8)) d; have a6 := hF_349 d; omega))
                        have hR_352 : rep le_339 ri_340 (ri cf) fb := rep_fr hrfb (fun d hd => hA_350 d (by have a0 := ho d; have a1 := hoT1 d; have a2 := hF_295 d; have a3 := hof d; have a4 := hF_335 d; have a5 := (Tr.occ_lf (wof 2 8)) d; have a6 := hF_349 d; omega))
                        have hP : va_P D classes [(h0, .inr (8, mS f tn rm ln lx at_ bd_337 fs_338 dp on os bn df th tp mo_ ev ss so lk rs pt ot cl)), ((f 3), .inl (cL, 2000, .inr (.inl le_339))), ((f 4), .inl (cL, 2000, .inr (.inl ri_340))), ((f 5), .inl (cI, 2000, .inl fr_330))] H := hP
                        have hD : va_D A [(h0, .inr (8, mS f tn rm ln lx at_ bd_337 fs_338 dp on os bn df th tp mo_ ev ss so lk rs pt ot cl)), ((f 3), .inl (cL, 2000, .inr (.inl le_339))), ((f 4), .inl (cL, 2000, .inr (.inl ri_340))), ((f 5), .inl (cI, 2000, .inl fr_330))] := hD
                        refine W.eq (g2 := F0 m 219 ls [.long r_341, .ref h0, .ref h0]) rfl ?_
                        refine lv_lload hx hb d_MO_combined_219 (lv_at hl 0 rfl) ?_
                        refine em_call (wr := []) (em_runV (As := [.long r_341, .long (ri cf)]) (rest := [.ref h0]) ⟨hx, hb, hml, hown, hG⟩ (mo_apply l D cI cL cZ cC f h0 tn rm ln lx at_ bd_337 fs_338 dp on os bn df th tp mo_ ev ss so lk rs pt ot cl le_339 ri_340 fr_330 T_346 fb Pk r_341 (ri cf) _ hfr_333 hR_347 hR_352 (by intro d; have a0 := ho d; have a1 := hoT1 d; have a2 := hF_295 d; have a3 := hof d; have a4 := hF_335 d; have a5 := (Tr.occ_lf (wof 2 8)) d; have a6 := hF_349 d; omega) hK_348 hkf.2 (hcon 2 (by decide) (by decide)) (by first | assumption | omega | exact Or.inl rfl) hnt) (cwV 2 hG (gd_V k_1457 k_1459 k_67 k_116 k_1460) rfl rfl rfl (by decide +kernel) ⟨Nat.le_of_ble_eq_true rfl, Nat.le_of_ble_eq_true rfl⟩) (tw_V (q0 := 0) hP hD hK hE hst hS rfl rfl [0, 1, 2, 3] rfl (by decide)) rfl rfl hl.1 rfl (lv_room (Nat.le_of_ble_eq_true rfl)) d_MO_combined_221 ⟨Nat.le_of_ble_eq_true rfl, Nat.le_of_ble_eq_true rfl⟩) hP hD hS hA [0, 1, 2, 3] [] rfl rfl (by decide) (by decide) (fun v u H locs hok hP hD hS => ?_) (fun x C u H locs hbad hxx hP hD hS => ?_)
                        · skip
                          obtain ⟨bd_353, fs_354, le_355, ri_356⟩ := u
                          obtain ⟨r_357, rfl, hp_358⟩ := hok
                          obtain ⟨hbz_359, hbo_360, hres_361⟩ : (bd_353 = 0 → bd_337 = 0) ∧ (bdo bd_353) ∧ (∃ T' : Tr, rep le_355 ri_356 r_357 T' ∧ okT Pk T' ∧ (∀ d, fo fr_330 fs_354 d + (toc T') d ≤ fo fr_330 fs_338 d + (toc T_346 d + toc fb d)) ∧ (∀ d, fo fr_330 fs_338 d + (toc T_346 d + toc fb d) = 0 → le_355 d = le_339 d ∧ ri_356 d = ri_340 d)) := hp_358
                          obtain ⟨T_362, hR_363, hK_364, hF_365, hA_366⟩ := hres_361
                          have hR_367 : rep le_355 ri_356 b T2 := rep_fr hR_351 (fun d hd => hA_366 d (by have a0 := ho d; have a1 := hoT1 d; have a2 := hF_295 d; have a3 := hof d; have a4 := hF_335 d; have a5 := (Tr.occ_lf (wof 2 8)) d; have a6 := hF_349 d; have a7 := hF_365 d; omega))
                          have hP : va_P D classes [(h0, .inr (8, mS f tn rm ln lx at_ bd_353 fs_354 dp on os bn df th tp mo_ ev ss so lk rs pt ot cl)), ((f 3), .inl (cL, 2000, .inr (.inl le_355))), ((f 4), .inl (cL, 2000, .inr (.inl ri_356))), ((f 5), .inl (cI, 2000, .inl fr_330))] H := hP
                          have hD : va_D A [(h0, .inr (8, mS f tn rm ln lx at_ bd_353 fs_354 dp on os bn df th tp mo_ ev ss so lk rs pt ot cl)), ((f 3), .inl (cL, 2000, .inr (.inl le_355))), ((f 4), .inl (cL, 2000, .inr (.inl ri_356))), ((f 5), .inl (cI, 2000, .inl fr_330))] := hD
                          refine W.eq (g2 := F0 m 224 ls [.long r_357, .ref h0]) rfl ?_
                          refine lv_lload_n hx hb d_MO_combined_224 rfl (lv_at hl 9 rfl) ?_
                          refine em_call (wr := []) (em_runV (As := [.long r_357, .long b]) (rest := []) ⟨hx, hb, hml, hown, hG⟩ (mo_apply l D cI cL cZ cC f h0 tn rm ln lx at_ bd_353 fs_354 dp on os bn df th tp mo_ ev ss so lk rs pt ot cl le_355 ri_356 fr_330 T_362 T2 Pk r_357 b _ hfr_333 hR_363 hR_367 (by intro d; have a0 := ho d; have a1 := hoT1 d; have a2 := hF_295 d; have a3 := hof d; have a4 := hF_335 d; have a5 := (Tr.occ_lf (wof 2 8)) d; have a6 := hF_349 d; have a7 := hF_365 d; omega) hK_364 hk2 (hcon 2 (by decide) (by decide)) (by first | assumption | omega | exact Or.inl rfl) hnt) (cwV 2 hG (gd_V k_1457 k_1459 k_67 k_116 k_1460) rfl rfl rfl (by decide +kernel) ⟨Nat.le_of_ble_eq_true rfl, Nat.le_of_ble_eq_true rfl⟩) (tw_V (q0 := 0) hP hD hK hE hst hS rfl rfl [0, 1, 2, 3] rfl (by decide)) rfl rfl hl.1 rfl (lv_room (Nat.le_of_ble_eq_true rfl)) d_MO_combined_225 ⟨Nat.le_of_ble_eq_true rfl, Nat.le_of_ble_eq_true rfl⟩) hP hD hS hA [0, 1, 2, 3] [] rfl rfl (by decide) (by decide) (fun v u H locs hok hP hD hS => ?_) (fun x C u H locs hbad hxx hP hD hS => ?_)
                          · skip
                            obtain ⟨bd_368, fs_369, le_370, ri_371⟩ := u
                            obtain ⟨r_372, rfl, hp_373⟩ := hok
                            obtain ⟨hbz_374, hbo_375, hres_376⟩ : (bd_368 = 0 → bd_353 = 0) ∧ (bdo bd_368) ∧ (∃ T' : Tr, rep le_370 ri_371 r_372 T' ∧ okT Pk T' ∧ (∀ d, fo fr_330 fs_369 d + (toc T') d ≤ fo fr_330 fs_354 d + (toc T_362 d + toc T2 d)) ∧ (∀ d, fo fr_330 fs_354 d + (toc T_362 d + toc T2 d) = 0 → le_370 d = le_355 d ∧ ri_371 d = ri_356 d)) := hp_373
                            obtain ⟨T_377, hR_378, hK_379, hF_380, hA_381⟩ := hres_376
                            have hP : va_P D classes [(h0, .inr (8, mS f tn rm ln lx at_ bd_368 fs_369 dp on os bn df th tp mo_ ev ss so lk rs pt ot cl)), ((f 3), .inl (cL, 2000, .inr (.inl le_370))), ((f 4), .inl (cL, 2000, .inr (.inl ri_371))), ((f 5), .inl (cI, 2000, .inl fr_330))] H := hP
                            have hD : va_D A [(h0, .inr (8, mS f tn rm ln lx at_ bd_368 fs_369 dp on os bn df th tp mo_ ev ss so lk rs pt ot cl)), ((f 3), .inl (cL, 2000, .inr (.inl le_370))), ((f 4), .inl (cL, 2000, .inr (.inl ri_371))), ((f 5), .inl (cI, 2000, .inl fr_330))] := hD
                            refine W.eq (g2 := F0 m 228 ls [.long r_372]) rfl ?_
                            exact em_lret hx hb hr hlocks hP hD hK hS (bd_368, fs_369, le_370, ri_371, fr_330) [0, 1, 2, 3] (by decide) rfl ⟨_, rfl, ⟨hfr_333, (show bd_368 = 0 → bd = 0 from (by first | exact id | exact (fun q => absurd q (by assumption)) | exact (fun q => hbz_343 (hbz_359 (hbz_374 q))))), (show bdo bd_368 from (by first | assumption | omega | exact Or.inl rfl)), (show ∃ T' : Tr, rep le_370 ri_371 (r_372 : Int64) T' ∧ okT Pk T' ∧ (∀ d, fo fr_330 fs_369 d + (toc T') d ≤ fo fr fs d + (toc T1 d + toc T2 d)) ∧ (∀ d, fo fr fs d + (toc T1 d + toc T2 d) = 0 → le_370 d = le d ∧ ri_371 d = ri d) from ⟨T_377, hR_378, hK_379, (by intro d; have a0 := ho d; have a1 := hoT1 d; have a2 := hF_295 d; have a3 := hof d; have a4 := hF_335 d; have a5 := (Tr.occ_lf (wof 2 8)) d; have a6 := hF_349 d; have a7 := hF_365 d; have a8 := hF_380 d; omega), (fun d hd => by have a0 := ho d; have a1 := hoT1 d; have a2 := hF_295 d; have a3 := hof d; have a4 := hF_335 d; have a5 := (Tr.occ_lf (wof 2 8)) d; have a6 := hF_349 d; have a7 := hF_365 d; have a8 := hF_380 d; have g0 := hA_350 d (by omega); have g1 := hA_366 d (by omega); have g2 := hA_381 d (by omega); exact ⟨by rw [g2.1, g1.1, g0.1], by rw [g2.2, g1.2, g0.2]⟩)⟩)⟩⟩ d_MO_combined_228
                          · skip
                            exact hbad.elim
                        · skip
                          exact hbad.elim
                      · skip
                        exact hbad.elim
                    · skip
                      exact hbad.elim
                · skip
                  have hq_382 := (lg_cmp_eq _ _).mp hb_297
                  refine lv_lload hx hb d_MO_combined_159 (lv_at hl 2 rfl) ?_
                  exact em_lret hx hb hr hlocks hP hD hK hS (bd, fs_289, le, ri, fr_290) [2, 0, 1, 3] (by decide) rfl ⟨_, rfl, ⟨hfr_293, (show bd = 0 → bd = 0 from (by first | exact id | exact (fun q => absurd q (by assumption)) | exact (id))), (show bdo bd from (by first | assumption | omega | exact Or.inl rfl)), (show ∃ T' : Tr, rep le ri (ri cp : Int64) T' ∧ okT Pk T' ∧ (∀ d, fo fr_290 fs_289 d + (toc T') d ≤ fo fr fs d + (toc T1 d + toc T2 d)) ∧ (∀ d, fo fr fs d + (toc T1 d + toc T2 d) = 0 → le d = le d ∧ ri d = ri d) from ⟨tf, hrtf, hktf, (by intro d; have a0 := ho d; have a1 := hoT1 d; have a2 := hF_295 d; omega), (fun d _ => ⟨rfl, rfl⟩)⟩)⟩⟩ d_MO_combined_161
              · skip
                exact hbad.elim
            · skip
              obtain ⟨c2, t2, e2, -⟩ := hy_288
              cases e2
          · skip
            exact hbad.elim
        · skip
          obtain ⟨cq, tx, eT2, ecq, hcq, hrtx⟩ := hy_284
          have hoT2 : ∀ d, toc T2 d = i1 d cq + toc tx d := fun d => by rw [eT2, Tr.occ_nd, Tr.occ_lf]; omega
          have hktx : okT Pk tx := by have hh := hk2; rw [eT2] at hh; exact hh.2
          refine W.eq (g2 := F0 m 14 ls [.int 1]) rfl ?_
          refine lv_istore (lv' := [(6, .int 1), (5, .int 1), (0, .ref h0), (1, .long a), (3, .long b)]) hx hb d_MO_combined_14 hl (Nat.le_of_ble_eq_true rfl) rfl (fun ls hl => ?_)
          refine lv_iload hx hb d_MO_combined_16 (lv_at hl 1 rfl) ?_
          refine lv_if_eq (tgt := 33) hx hb d_MO_combined_18 (by decide) (fun hbr => absurd hbr (by decide)) (fun hbr => ?_)
          refine lv_aload_n hx hb d_MO_combined_21 rfl (lv_at hl 2 rfl) ?_
          refine va_get (D := D) (ci := 8) (v := .ref (f 4)) (C := rn_MO) (T := fl_MO) (N := 55) hx hb hG in_MO hown hK hP 1 rfl rfl 10 (by decide) (hG _ k_1201) (fun _ h9 => h9) rfl d_MO_combined_22 ?_
          refine lv_lload_n hx hb d_MO_combined_25 rfl (lv_at hl 3 rfl) ?_
          refine W.callR (W.runS (As := [.long a]) (rest := [.ref (f 4)]) ⟨hx, hb, hml, hown, hG⟩ (mo_valueOf l D cI cL cZ cC a ) (cwS 1 hG (gd_S k_1522 k_1523 k_116 k_1524) rfl rfl rfl (by decide +kernel) ⟨Nat.le_of_ble_eq_true rfl, Nat.le_of_ble_eq_true rfl⟩) (wq_S hP hK [] rfl) rfl rfl hl.1 rfl (lv_room (Nat.le_of_ble_eq_true rfl)) d_MO_combined_26 ⟨Nat.le_of_ble_eq_true rfl, Nat.le_of_ble_eq_true rfl⟩) ?_
          refine W.eq (g2 := F0 m 29 ls [.int a.toInt32, .ref (f 4)]) rfl ?_
          refine W.eq (g2 := F0 m 29 ls [.int (nI cp), .ref (f 4)]) (by rw [ecp]) ?_
          refine va_lald hx hb hK hP 3 1 rfl rfl (vp_in_nI (n := cp) (N := 2000) (by omega) (by omega)) d_MO_combined_29 ?_
          refine W.eq (g2 := F0 m 30 ls [.long (ri cp)]) (by rw [nI_clamp (n := cp) (by omega)]) ?_
          refine lv_goto (tgt := 34) hx hb d_MO_combined_30 (by decide) ?_
          refine lv_lstore (lv' := [(7, .long (ri cp)), (6, .int 1), (5, .int 1), (0, .ref h0), (1, .long a), (3, .long b)]) hx hb d_MO_combined_34 hl (Nat.le_of_ble_eq_true rfl) rfl (fun ls hl => ?_)
          refine lv_iload hx hb d_MO_combined_36 (lv_at hl 1 rfl) ?_
          refine lv_if_eq (tgt := 53) hx hb d_MO_combined_38 (by decide) (fun hbr => absurd hbr (by decide)) (fun hbr => ?_)
          refine lv_aload_n hx hb d_MO_combined_41 rfl (lv_at hl 3 rfl) ?_
          refine va_get (D := D) (ci := 8) (v := .ref (f 4)) (C := rn_MO) (T := fl_MO) (N := 55) hx hb hG in_MO hown hK hP 1 rfl rfl 10 (by decide) (hG _ k_1201) (fun _ h9 => h9) rfl d_MO_combined_42 ?_
          refine lv_lload_n hx hb d_MO_combined_45 rfl (lv_at hl 5 rfl) ?_
          refine W.callR (W.runS (As := [.long b]) (rest := [.ref (f 4)]) ⟨hx, hb, hml, hown, hG⟩ (mo_valueOf l D cI cL cZ cC b ) (cwS 1 hG (gd_S k_1522 k_1523 k_116 k_1524) rfl rfl rfl (by decide +kernel) ⟨Nat.le_of_ble_eq_true rfl, Nat.le_of_ble_eq_true rfl⟩) (wq_S hP hK [] rfl) rfl rfl hl.1 rfl (lv_room (Nat.le_of_ble_eq_true rfl)) d_MO_combined_46 ⟨Nat.le_of_ble_eq_true rfl, Nat.le_of_ble_eq_true rfl⟩) ?_
          refine W.eq (g2 := F0 m 49 ls [.int b.toInt32, .ref (f 4)]) rfl ?_
          refine W.eq (g2 := F0 m 49 ls [.int (nI cq), .ref (f 4)]) (by rw [ecq]) ?_
          refine va_lald hx hb hK hP 3 1 rfl rfl (vp_in_nI (n := cq) (N := 2000) (by omega) (by omega)) d_MO_combined_49 ?_
          refine W.eq (g2 := F0 m 50 ls [.long (ri cq)]) (by rw [nI_clamp (n := cq) (by omega)]) ?_
          refine lv_goto (tgt := 54) hx hb d_MO_combined_50 (by decide) ?_
          refine lv_lstore (lv' := [(9, .long (ri cq)), (7, .long (ri cp)), (6, .int 1), (5, .int 1), (0, .ref h0), (1, .long a), (3, .long b)]) hx hb d_MO_combined_54 hl (Nat.le_of_ble_eq_true rfl) rfl (fun ls hl => ?_)
          refine lv_lload_n hx hb d_MO_combined_56 rfl (lv_at hl 5 rfl) ?_
          refine W.callR (W.runS (As := [.long a]) (rest := []) ⟨hx, hb, hml, hown, hG⟩ (mo_kindOf l D cI cL cZ cC a ) (cwS 1 hG (gd_S k_1519 k_1520 k_116 k_1521) rfl rfl rfl (by decide +kernel) ⟨Nat.le_of_ble_eq_true rfl, Nat.le_of_ble_eq_true rfl⟩) (wq_S hP hK [] rfl) rfl rfl hl.1 rfl (lv_room (Nat.le_of_ble_eq_true rfl)) d_MO_combined_57 ⟨Nat.le_of_ble_eq_true rfl, Nat.le_of_ble_eq_true rfl⟩) ?_
          refine W.eq (g2 := F0 m 60 ls [.int (wkind a)]) rfl ?_
          refine lv_iconst (v := 3) hx hb d_MO_combined_60 (by decide) ?_
          refine lv_icmp_ne (tgt := 85) hx hb d_MO_combined_61 (by decide) (fun hbr => absurd hka hbr) (fun hbr => ?_)
          refine lv_aload_n hx hb d_MO_combined_64 rfl (lv_at hl 4 rfl) ?_
          refine lv_aload_n hx hb d_MO_combined_65 rfl (lv_at hl 4 rfl) ?_
          refine va_get (D := D) (ci := 8) (v := .ref (f 3)) (C := rn_MO) (T := fl_MO) (N := 55) hx hb hG in_MO hown hK hP 1 rfl rfl 9 (by decide) (hG _ k_1200) (fun _ h9 => h9) rfl d_MO_combined_66 ?_
          refine lv_lload_n hx hb d_MO_combined_69 rfl (lv_at hl 5 rfl) ?_
          refine W.callR (W.runS (As := [.long a]) (rest := [.ref (f 3), .ref h0]) ⟨hx, hb, hml, hown, hG⟩ (mo_valueOf l D cI cL cZ cC a ) (cwS 1 hG (gd_S k_1522 k_1523 k_116 k_1524) rfl rfl rfl (by decide +kernel) ⟨Nat.le_of_ble_eq_true rfl, Nat.le_of_ble_eq_true rfl⟩) (wq_S hP hK [] rfl) rfl rfl hl.1 rfl (lv_room (Nat.le_of_ble_eq_true rfl)) d_MO_combined_70 ⟨Nat.le_of_ble_eq_true rfl, Nat.le_of_ble_eq_true rfl⟩) ?_
          refine W.eq (g2 := F0 m 73 ls [.int a.toInt32, .ref (f 3), .ref h0]) rfl ?_
          refine W.eq (g2 := F0 m 73 ls [.int (nI cp), .ref (f 3), .ref h0]) (by rw [ecp]) ?_
          refine va_lald hx hb hK hP 2 1 rfl rfl (vp_in_nI (n := cp) (N := 2000) (by omega) (by omega)) d_MO_combined_73 ?_
          refine W.eq (g2 := F0 m 74 ls [.long (le cp), .ref h0]) (by rw [nI_clamp (n := cp) (by omega)]) ?_
          refine lv_iconst (v := 5) hx hb d_MO_combined_74 (by decide) ?_
          refine em_call (wr := [((f 5), .inl (cI, 2000, .inl fr))]) (em_runV (As := [.long (le cp), .int 5]) (rest := []) ⟨hx, hb, hml, hown, hG⟩ (mo_isApplied l D cI cL cZ cC f h0 tn rm ln lx at_ bd fs dp on os bn df th tp mo_ ev ss so lk rs pt ot cl le ri (Lean.RArray.leaf (wof 2 3)) (le cp) 5 _ (by rw [eT1] at h1; exact h1.2.2.2.1) hnt) (cwV 2 hG (gd_V k_1541 k_1543 k_83 k_116 k_1544) rfl rfl rfl (by decide +kernel) ⟨Nat.le_of_ble_eq_true rfl, Nat.le_of_ble_eq_true rfl⟩) (tw_V (q0 := 1) hP hD hK hE hst hS rfl rfl [1, 2, 3] rfl (by decide)) rfl rfl hl.1 rfl (lv_room (Nat.le_of_ble_eq_true rfl)) d_MO_combined_75 ⟨Nat.le_of_ble_eq_true rfl, Nat.le_of_ble_eq_true rfl⟩) hP hD hS hA [1, 2, 3] [0] rfl rfl (by decide) (by decide) (fun v u H locs hok hP hD hS => ?_) (fun x C u H locs hbad hxx hP hD hS => ?_)
          · skip
            obtain ⟨r_383, rfl, hp_384⟩ := hok
            have hres_385 : ((r_383 = 0 ∨ (r_383 = 1 ∧ ∃ (cc : Nat) (tb : Tr), Lean.RArray.leaf (wof 2 3) = Lean.RArray.branch cc (Lean.RArray.leaf (wof 2 5)) tb ∧ (le cp).toInt32 = nI cc ∧ cc < 2000 ∧ rep le ri (ri cc) tb))) := hp_384
            have hP : va_P D classes [((f 5), .inl (cI, 2000, .inl fr)), (h0, .inr (8, mS f tn rm ln lx at_ bd fs dp on os bn df th tp mo_ ev ss so lk rs pt ot cl)), ((f 3), .inl (cL, 2000, .inr (.inl le))), ((f 4), .inl (cL, 2000, .inr (.inl ri)))] H := hP
            have hD : va_D A [((f 5), .inl (cI, 2000, .inl fr)), (h0, .inr (8, mS f tn rm ln lx at_ bd fs dp on os bn df th tp mo_ ev ss so lk rs pt ot cl)), ((f 3), .inl (cL, 2000, .inr (.inl le))), ((f 4), .inl (cL, 2000, .inr (.inl ri)))] := hD
            rcases hres_385 with rfl | ⟨rfl, hy_386⟩
            · skip
              refine W.eq (g2 := F0 m 78 ls [.int 0]) rfl ?_
              refine lv_if_eq (tgt := 85) hx hb d_MO_combined_78 (by decide) (fun hbr => ?_) (fun hbr => absurd (by decide) hbr)
              refine lv_iconst (v := 0) hx hb d_MO_combined_85 (by decide) ?_
              refine lv_istore (lv' := [(11, .int 0), (9, .long (ri cq)), (7, .long (ri cp)), (6, .int 1), (5, .int 1), (0, .ref h0), (1, .long a), (3, .long b)]) hx hb d_MO_combined_86 hl (Nat.le_of_ble_eq_true rfl) rfl (fun ls hl => ?_)
              refine lv_iload hx hb d_MO_combined_88 (lv_at hl 4 rfl) ?_
              refine lv_if_eq (tgt := 98) hx hb d_MO_combined_90 (by decide) (fun hbr => absurd hbr (by decide)) (fun hbr => ?_)
              refine lv_aload_n hx hb d_MO_combined_93 rfl (lv_at hl 5 rfl) ?_
              refine lv_lload_n hx hb d_MO_combined_94 rfl (lv_at hl 6 rfl) ?_
              refine em_call (wr := [((f 3), .inl (cL, 2000, .inr (.inl le))), ((f 4), .inl (cL, 2000, .inr (.inl ri)))]) (em_runV (As := [.long a]) (rest := []) ⟨hx, hb, hml, hown, hG⟩ (mo_release l D cI cL cZ cC f h0 tn rm ln lx at_ bd fs dp on os bn df th tp mo_ ev ss so lk rs pt ot cl fr cp a _ hfr ecp hcp (by intro d; have a0 := ho d; have a1 := hoT1 d; have a2 := hoT2 d; omega) hnt) (cwV 1 hG (gd_V k_1545 k_1547 k_84 k_116 k_1548) rfl rfl rfl (by decide +kernel) ⟨Nat.le_of_ble_eq_true rfl, Nat.le_of_ble_eq_true rfl⟩) (tw_V (q0 := 1) hP hD hK hE hst hS rfl rfl [1, 0] rfl (by decide)) rfl rfl hl.1 rfl (lv_room (Nat.le_of_ble_eq_true rfl)) d_MO_combined_95 ⟨Nat.le_of_ble_eq_true rfl, Nat.le_of_ble_eq_true rfl⟩) hP hD hS hA [1, 0] [2, 3] rfl rfl (by decide) (by decide) (fun v u H locs hok hP hD hS => ?_) (fun x C u H locs hbad hxx hP hD hS => ?_)
              · skip
                obtain ⟨fs_387, fr_388⟩ := u
                obtain ⟨rfl, hp_390⟩ := hok
                obtain ⟨hfr_391, hfs_392, hF_393⟩ : (rng 2000 fr_388) ∧ (fs_387 = fs + 1) ∧ (∀ d, fo fr_388 fs_387 d = fo fr fs d + i1 d cp) := hp_390
                have hP : va_P D classes [((f 3), .inl (cL, 2000, .inr (.inl le))), ((f 4), .inl (cL, 2000, .inr (.inl ri))), (h0, .inr (8, mS f tn rm ln lx at_ bd fs_387 dp on os bn df th tp mo_ ev ss so lk rs pt ot cl)), ((f 5), .inl (cI, 2000, .inl fr_388))] H := hP
                have hD : va_D A [((f 3), .inl (cL, 2000, .inr (.inl le))), ((f 4), .inl (cL, 2000, .inr (.inl ri))), (h0, .inr (8, mS f tn rm ln lx at_ bd fs_387 dp on os bn df th tp mo_ ev ss so lk rs pt ot cl)), ((f 5), .inl (cI, 2000, .inl fr_388))] := hD
                refine W.eq (g2 := F0 m 98 ls []) rfl ?_
                refine lv_iload hx hb d_MO_combined_98 (lv_at hl 3 rfl) ?_
                refine lv_if_eq (tgt := 118) hx hb d_MO_combined_100 (by decide) (fun hbr => absurd hbr (by decide)) (fun hbr => ?_)
                refine lv_iload hx hb d_MO_combined_103 (lv_at hl 4 rfl) ?_
                refine lv_if_ne (tgt := 113) hx hb d_MO_combined_105 (by decide) (fun hbr => ?_) (fun hbr => absurd hbr (by decide))
                refine lv_aload_n hx hb d_MO_combined_113 rfl (lv_at hl 5 rfl) ?_
                refine lv_lload_n hx hb d_MO_combined_114 rfl (lv_at hl 7 rfl) ?_
                refine em_call (wr := [((f 3), .inl (cL, 2000, .inr (.inl le))), ((f 4), .inl (cL, 2000, .inr (.inl ri)))]) (em_runV (As := [.long b]) (rest := []) ⟨hx, hb, hml, hown, hG⟩ (mo_release l D cI cL cZ cC f h0 tn rm ln lx at_ bd fs_387 dp on os bn df th tp mo_ ev ss so lk rs pt ot cl fr_388 cq b _ hfr_391 ecq hcq (by intro d; have a0 := ho d; have a1 := hoT1 d; have a2 := hoT2 d; have a3 := hF_393 d; omega) hnt) (cwV 1 hG (gd_V k_1545 k_1547 k_84 k_116 k_1548) rfl rfl rfl (by decide +kernel) ⟨Nat.le_of_ble_eq_true rfl, Nat.le_of_ble_eq_true rfl⟩) (tw_V (q0 := 2) hP hD hK hE hst hS rfl rfl [2, 3] rfl (by decide)) rfl rfl hl.1 rfl (lv_room (Nat.le_of_ble_eq_true rfl)) d_MO_combined_115 ⟨Nat.le_of_ble_eq_true rfl, Nat.le_of_ble_eq_true rfl⟩) hP hD hS hA [2, 3] [0, 1] rfl rfl (by decide) (by decide) (fun v u H locs hok hP hD hS => ?_) (fun x C u H locs hbad hxx hP hD hS => ?_)
                · skip
                  obtain ⟨fs_395, fr_396⟩ := u
                  obtain ⟨rfl, hp_398⟩ := hok
                  obtain ⟨hfr_399, hfs_400, hF_401⟩ : (rng 2000 fr_396) ∧ (fs_395 = fs_387 + 1) ∧ (∀ d, fo fr_396 fs_395 d = fo fr_388 fs_387 d + i1 d cq) := hp_398
                  have hP : va_P D classes [((f 3), .inl (cL, 2000, .inr (.inl le))), ((f 4), .inl (cL, 2000, .inr (.inl ri))), (h0, .inr (8, mS f tn rm ln lx at_ bd fs_395 dp on os bn df th tp mo_ ev ss so lk rs pt ot cl)), ((f 5), .inl (cI, 2000, .inl fr_396))] H := hP
                  have hD : va_D A [((f 3), .inl (cL, 2000, .inr (.inl le))), ((f 4), .inl (cL, 2000, .inr (.inl ri))), (h0, .inr (8, mS f tn rm ln lx at_ bd fs_395 dp on os bn df th tp mo_ ev ss so lk rs pt ot cl)), ((f 5), .inl (cI, 2000, .inl fr_396))] := hD
                  refine W.eq (g2 := F0 m 118 ls []) rfl ?_
                  refine lv_iload hx hb d_MO_combined_118 (lv_at hl 4 rfl) ?_
                  refine lv_if_eq (tgt := 145) hx hb d_MO_combined_120 (by decide) (fun hbr => absurd hbr (by decide)) (fun hbr => ?_)
                  refine lv_iload hx hb d_MO_combined_123 (lv_at hl 3 rfl) ?_
                  refine lv_if_eq (tgt := 145) hx hb d_MO_combined_125 (by decide) (fun hbr => absurd hbr (by decide)) (fun hbr => ?_)
                  refine lv_aload_n hx hb d_MO_combined_128 rfl (lv_at hl 5 rfl) ?_
                  refine lv_iconst (v := 3) hx hb d_MO_combined_129 (by decide) ?_
                  refine W.callRL (W.runS (As := [.int 3]) (rest := [.ref h0]) ⟨hx, hb, hml, hown, hG⟩ (mo_constant l D cI cL cZ cC 3 ) (cwS 1 hG (gd_S k_1461 k_1462 k_116 k_1463) rfl rfl rfl (by decide +kernel) ⟨Nat.le_of_ble_eq_true rfl, Nat.le_of_ble_eq_true rfl⟩) (wq_S hP hK [] rfl) rfl rfl hl.1 rfl (lv_room (Nat.le_of_ble_eq_true rfl)) d_MO_combined_130 ⟨Nat.le_of_ble_eq_true rfl, Nat.le_of_ble_eq_true rfl⟩) ?_
                  refine W.eq (g2 := F0 m 133 ls [.long (wof 2 3), .ref h0]) rfl ?_
                  refine lv_aload_n hx hb d_MO_combined_133 rfl (lv_at hl 5 rfl) ?_
                  refine lv_lload hx hb d_MO_combined_134 (lv_at hl 2 rfl) ?_
                  refine lv_lload hx hb d_MO_combined_136 (lv_at hl 1 rfl) ?_
                  refine em_call (wr := []) (em_runV (As := [.long (ri cp), .long (ri cq)]) (rest := [.long (wof 2 3), .ref h0]) ⟨hx, hb, hml, hown, hG⟩ (mo_apply l D cI cL cZ cC f h0 tn rm ln lx at_ bd fs_395 dp on os bn df th tp mo_ ev ss so lk rs pt ot cl le ri fr_396 tf tx Pk (ri cp) (ri cq) _ hfr_399 hrtf hrtx (by intro d; have a0 := ho d; have a1 := hoT1 d; have a2 := hoT2 d; have a3 := hF_393 d; have a4 := hF_401 d; omega) hktf hktx (hcon 2 (by decide) (by decide)) (by first | assumption | omega | exact Or.inl rfl) hnt) (cwV 2 hG (gd_V k_1457 k_1459 k_67 k_116 k_1460) rfl rfl rfl (by decide +kernel) ⟨Nat.le_of_ble_eq_true rfl, Nat.le_of_ble_eq_true rfl⟩) (tw_V (q0 := 2) hP hD hK hE hst hS rfl rfl [2, 0, 1, 3] rfl (by decide)) rfl rfl hl.1 rfl (lv_room (Nat.le_of_ble_eq_true rfl)) d_MO_combined_138 ⟨Nat.le_of_ble_eq_true rfl, Nat.le_of_ble_eq_true rfl⟩) hP hD hS hA [2, 0, 1, 3] [] rfl rfl (by decide) (by decide) (fun v u H locs hok hP hD hS => ?_) (fun x C u H locs hbad hxx hP hD hS => ?_)
                  · skip
                    obtain ⟨bd_403, fs_404, le_405, ri_406⟩ := u
                    obtain ⟨r_407, rfl, hp_408⟩ := hok
                    obtain ⟨hbz_409, hbo_410, hres_411⟩ : (bd_403 = 0 → bd = 0) ∧ (bdo bd_403) ∧ (∃ T' : Tr, rep le_405 ri_406 r_407 T' ∧ okT Pk T' ∧ (∀ d, fo fr_396 fs_404 d + (toc T') d ≤ fo fr_396 fs_395 d + (toc tf d + toc tx d)) ∧ (∀ d, fo fr_396 fs_395 d + (toc tf d + toc tx d) = 0 → le_405 d = le d ∧ ri_406 d = ri d)) := hp_408
                    obtain ⟨T_412, hR_413, hK_414, hF_415, hA_416⟩ := hres_411
                    have hP : va_P D classes [(h0, .inr (8, mS f tn rm ln lx at_ bd_403 fs_404 dp on os bn df th tp mo_ ev ss so lk rs pt ot cl)), ((f 3), .inl (cL, 2000, .inr (.inl le_405))), ((f 4), .inl (cL, 2000, .inr (.inl ri_406))), ((f 5), .inl (cI, 2000, .inl fr_396))] H := hP
                    have hD : va_D A [(h0, .inr (8, mS f tn rm ln lx at_ bd_403 fs_404 dp on os bn df th tp mo_ ev ss so lk rs pt ot cl)), ((f 3), .inl (cL, 2000, .inr (.inl le_405))), ((f 4), .inl (cL, 2000, .inr (.inl ri_406))), ((f 5), .inl (cI, 2000, .inl fr_396))] := hD
                    refine W.eq (g2 := F0 m 141 ls [.long r_407, .long (wof 2 3), .ref h0]) rfl ?_
                    refine em_call (wr := []) (em_runV (As := [.long (wof 2 3), .long r_407]) (rest := []) ⟨hx, hb, hml, hown, hG⟩ (mo_apply l D cI cL cZ cC f h0 tn rm ln lx at_ bd_403 fs_404 dp on os bn df th tp mo_ ev ss so lk rs pt ot cl le_405 ri_406 fr_396 (Lean.RArray.leaf (wof 2 3)) T_412 Pk (wof 2 3) r_407 _ hfr_399 (rep_lf (by rw [wkind_of]; decide)) hR_413 (by intro d; have a0 := ho d; have a1 := hoT1 d; have a2 := hoT2 d; have a3 := hF_393 d; have a4 := hF_401 d; have a5 := hF_415 d; have a6 := (Tr.occ_lf (wof 2 3)) d; omega) (hcon 3 (by decide) (by decide)) hK_414 (hcon 2 (by decide) (by decide)) (by first | assumption | omega | exact Or.inl rfl) hnt) (cwV 2 hG (gd_V k_1457 k_1459 k_67 k_116 k_1460) rfl rfl rfl (by decide +kernel) ⟨Nat.le_of_ble_eq_true rfl, Nat.le_of_ble_eq_true rfl⟩) (tw_V (q0 := 0) hP hD hK hE hst hS rfl rfl [0, 1, 2, 3] rfl (by decide)) rfl rfl hl.1 rfl (lv_room (Nat.le_of_ble_eq_true rfl)) d_MO_combined_141 ⟨Nat.le_of_ble_eq_true rfl, Nat.le_of_ble_eq_true rfl⟩) hP hD hS hA [0, 1, 2, 3] [] rfl rfl (by decide) (by decide) (fun v u H locs hok hP hD hS => ?_) (fun x C u H locs hbad hxx hP hD hS => ?_)
                    · skip
                      obtain ⟨bd_417, fs_418, le_419, ri_420⟩ := u
                      obtain ⟨r_421, rfl, hp_422⟩ := hok
                      obtain ⟨hbz_423, hbo_424, hres_425⟩ : (bd_417 = 0 → bd_403 = 0) ∧ (bdo bd_417) ∧ (∃ T' : Tr, rep le_419 ri_420 r_421 T' ∧ okT Pk T' ∧ (∀ d, fo fr_396 fs_418 d + (toc T') d ≤ fo fr_396 fs_404 d + (toc (Lean.RArray.leaf (wof 2 3)) d + toc T_412 d)) ∧ (∀ d, fo fr_396 fs_404 d + (toc (Lean.RArray.leaf (wof 2 3)) d + toc T_412 d) = 0 → le_419 d = le_405 d ∧ ri_420 d = ri_406 d)) := hp_422
                      obtain ⟨T_426, hR_427, hK_428, hF_429, hA_430⟩ := hres_425
                      have hP : va_P D classes [(h0, .inr (8, mS f tn rm ln lx at_ bd_417 fs_418 dp on os bn df th tp mo_ ev ss so lk rs pt ot cl)), ((f 3), .inl (cL, 2000, .inr (.inl le_419))), ((f 4), .inl (cL, 2000, .inr (.inl ri_420))), ((f 5), .inl (cI, 2000, .inl fr_396))] H := hP
                      have hD : va_D A [(h0, .inr (8, mS f tn rm ln lx at_ bd_417 fs_418 dp on os bn df th tp mo_ ev ss so lk rs pt ot cl)), ((f 3), .inl (cL, 2000, .inr (.inl le_419))), ((f 4), .inl (cL, 2000, .inr (.inl ri_420))), ((f 5), .inl (cI, 2000, .inl fr_396))] := hD
                      refine W.eq (g2 := F0 m 144 ls [.long r_421]) rfl ?_
                      exact em_lret hx hb hr hlocks hP hD hK hS (bd_417, fs_418, le_419, ri_420, fr_396) [0, 1, 2, 3] (by decide) rfl ⟨_, rfl, ⟨hfr_399, (show bd_417 = 0 → bd = 0 from (by first | exact id | exact (fun q => absurd q (by assumption)) | exact (fun q => hbz_409 (hbz_423 q)))), (show bdo bd_417 from (by first | assumption | omega | exact Or.inl rfl)), (show ∃ T' : Tr, rep le_419 ri_420 (r_421 : Int64) T' ∧ okT Pk T' ∧ (∀ d, fo fr_396 fs_418 d + (toc T') d ≤ fo fr fs d + (toc T1 d + toc T2 d)) ∧ (∀ d, fo fr fs d + (toc T1 d + toc T2 d) = 0 → le_419 d = le d ∧ ri_420 d = ri d) from ⟨T_426, hR_427, hK_428, (by intro d; have a0 := ho d; have a1 := hoT1 d; have a2 := hoT2 d; have a3 := hF_393 d; have a4 := hF_401 d; have a5 := hF_415 d; have a6 := (Tr.occ_lf (wof 2 3)) d; have a7 := hF_429 d; omega), (fun d hd => by have a0 := ho d; have a1 := hoT1 d; have a2 := hoT2 d; have a3 := hF_393 d; have a4 := hF_401 d; have a5 := hF_415 d; have a6 := (Tr.occ_lf (wof 2 3)) d; have a7 := hF_429 d; have g0 := hA_416 d (by omega); have g1 := hA_430 d (by omega); exact ⟨by rw [g1.1, g0.1], by rw [g1.2, g0.2]⟩)⟩)⟩⟩ d_MO_combined_144
                    · skip
                      exact hbad.elim
                  · skip
                    exact hbad.elim
                · skip
                  exact hbad.elim
              · skip
                exact hbad.elim
            · skip
              obtain ⟨c2, t2, e2, -⟩ := hy_386
              cases e2
          · skip
            exact hbad.elim
      · skip
        exact hbad.elim
  · skip
    exact hbad.elim
